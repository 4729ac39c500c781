def m_X8_version (q : qM) (cl : Int32) (event : Int32) (years : Int32) (months : Int32) (all : Int32) (day : Int32) : Int32 × qM := (if (m_X8_isIn cl 0 7) = 0 then (0, (mq_i q 0 0 1)) else (if (m_X8_isVersion q cl event years months day) = 0 then (0, (mq_i q 0 0 2)) else (if (q.1 5 (Int32.toNatClampNeg cl)) = 6 then (0, (mq_i q 0 0 3)) else (if (m_X8_hasRoom q 1) = 0 then (0, (mq_i q 0 0 3)) else (((m_X8_write (mq_i (mq_i (mq_i (mq_i (mq_i (mq_i q 0 0 0) 4 (Int32.toNatClampNeg cl) event) 6 (Int32.toNatClampNeg ((6 * cl) + (q.1 5 (Int32.toNatClampNeg cl)))) ((12 * years) + months)) 7 (Int32.toNatClampNeg ((6 * cl) + (q.1 5 (Int32.toNatClampNeg cl)))) day) 8 (Int32.toNatClampNeg ((6 * cl) + (q.1 5 (Int32.toNatClampNeg cl)))) all) 5 (Int32.toNatClampNeg cl) ((q.1 5 (Int32.toNatClampNeg cl)) + 1)) 1 cl ((12 * years) + months) day).1 5 (Int32.toNatClampNeg cl)), (m_X8_write (mq_i (mq_i (mq_i (mq_i (mq_i (mq_i q 0 0 0) 4 (Int32.toNatClampNeg cl) event) 6 (Int32.toNatClampNeg ((6 * cl) + (q.1 5 (Int32.toNatClampNeg cl)))) ((12 * years) + months)) 7 (Int32.toNatClampNeg ((6 * cl) + (q.1 5 (Int32.toNatClampNeg cl)))) day) 8 (Int32.toNatClampNeg ((6 * cl) + (q.1 5 (Int32.toNatClampNeg cl)))) all) 5 (Int32.toNatClampNeg cl) ((q.1 5 (Int32.toNatClampNeg cl)) + 1)) 1 cl ((12 * years) + months) day))))))
set_option maxHeartbeats 4000000 in
set_option maxRecDepth 100000 in
theorem c_X8_version (l : Launch) (D : va_G) (b0 : Nat) (Pc : Nat → Nat → Option va_E) (cA : Nat → ClassId) (ad : Nat → Nat → Nat) (q : qM) (cl : Int32) (event : Int32) (years : Int32) (months : Int32) (all : Int32) (day : Int32) (hbo : vp_nar .boolean all = all) (hI : gI q) (hL : lI q) : mc_i l yX8_version wsX8_version 3 74 D b0 Pc cA ad q [.ref (ad 20 0), .int cl, .int event, .int years, .int months, .int all, .int day] (m_X8_version q cl event years months all day) := by
  refine mc_of (by decide) rfl (Nat.le_of_ble_eq_true rfl) ?_
  intro p e s m below meth c hx hb hml hr hlk hown hts hK hW ls hl
  have hown : s.vm.findClass RX8 = some m.cls := hown
  have hS : va_S (wA b0) s.heap s.heap [] := va_S.rf
  have hl : lv_has ls 8 [(0, .ref (ad 20 0)), (1, .int cl), (2, .int event), (3, .int years), (4, .int months), (5, .int all), (6, .int day)] := hl
  have hin : ∀ w ∈ wsX80, w ∈ wsX8_version := fun w h => List.mem_cons_of_mem _ (List.mem_append_right _ h)
  refine lv_aload_n hx hb dX8_version_0 rfl (lv_at hl 0 rfl) ?_
  refine lv_iload_n hx hb dX8_version_1 rfl (lv_at hl 1 rfl) ?_
  refine lv_iconst (v := 0) hx hb dX8_version_2 (by decide) ?_
  refine lv_bipush (v := 7) hx hb dX8_version_3 (by decide) ?_
  refine mm_callSi (n := 3) (As := [.int cl, .int 0, .int 7]) (rest := [.ref (ad 20 0)]) (r := (m_X8_isIn cl 0 7)) (q2 := q) ⟨hx, hb, hml, hown, hts⟩ (c_X8_isIn l D b0 Pc cA ad q cl 0 7) gX8_version_X8_isIn rfl (by decide +kernel) rfl ⟨Nat.le_of_ble_eq_true rfl, Nat.le_of_ble_eq_true rfl⟩ ⟨Nat.le_of_ble_eq_true rfl, Nat.le_of_ble_eq_true rfl⟩ hK hW hS hl.1 rfl (Nat.le_of_ble_eq_true rfl) dX8_version_5 (fun H locs hW hS => ?_)
  refine lv_if_ne (tgt := 15) hx hb dX8_version_8 (by decide) (fun c_1 => ?_) (fun c_1 => ?_)
  · refine lv_aload_n hx hb dX8_version_15 rfl (lv_at hl 0 rfl) ?_
    refine lv_iload_n hx hb dX8_version_16 rfl (lv_at hl 1 rfl) ?_
    refine lv_iload_n hx hb dX8_version_17 rfl (lv_at hl 2 rfl) ?_
    refine lv_iload_n hx hb dX8_version_18 rfl (lv_at hl 3 rfl) ?_
    refine lv_iload hx hb dX8_version_19 (lv_at hl 4 rfl) ?_
    refine lv_iload hx hb dX8_version_21 (lv_at hl 6 rfl) ?_
    have h_2 : 0 ≤ (cl : Int32).toInt ∧ (cl : Int32).toInt ≤ 7 := by
      have u_1 := rg_e cl
      have u_2 := rg_e event
      have u_3 := rg_e years
      have u_4 := rg_e months
      have u_5 := rg_e day
      have u_6 := rg_e (m_X8_isIn cl 0 7)
      have k_7 : (0 : Int32).toInt = 0 := rfl
      have v_8 := cv_ne c_1
      have k_9 : (7 : Int32).toInt = 7 := rfl
      have v_10 := is_t c_1
      have w_11 := hI.1 (Int32.toNatClampNeg cl)
      have w_12 := hL.2.2.2.2.2
      exact by omega
    refine mm_callVi (n := 5) (As := [.int cl, .int event, .int years, .int months, .int day]) (rest := [.ref (ad 20 0)]) (r := (m_X8_isVersion q cl event years months day)) (q2 := q) ⟨hx, hb, hml, hown, hts⟩ (c_X8_isVersion l D b0 Pc cA ad q cl event years months day h_2 hI) gX8_version_X8_isVersion rfl (by decide +kernel) rfl ⟨Nat.le_of_ble_eq_true rfl, Nat.le_of_ble_eq_true rfl⟩ ⟨Nat.le_of_ble_eq_true rfl, Nat.le_of_ble_eq_true rfl⟩ hK hW hS hl.1 rfl (Nat.le_of_ble_eq_true rfl) dX8_version_23 (fun H locs hW hS => ?_)
    refine lv_if_ne (tgt := 33) hx hb dX8_version_26 (by decide) (fun c_3 => ?_) (fun c_3 => ?_)
    · refine lv_aload_n hx hb dX8_version_33 rfl (lv_at hl 0 rfl) ?_
      refine mm_get (v := .ref (ad 21 5)) hx hb hts hin hown hK hW 5 (by decide) (List.mem_of_getElem? (i := 1) rfl) rfl rfl dX8_version_34 ?_
      refine lv_iload_n hx hb dX8_version_37 rfl (lv_at hl 1 rfl) ?_
      have b_4 : vp_in cl 8 := by
        have u_1 := rg_e cl
        have u_2 := rg_e (m_X8_isIn cl 0 7)
        have k_3 : (0 : Int32).toInt = 0 := rfl
        have v_4 := cv_ne c_1
        have k_5 : (7 : Int32).toInt = 7 := rfl
        have v_6 := is_t c_1
        have u_7 := rg_e (m_X8_isVersion q cl event years months day)
        have v_8 := cv_ne c_3
        have w_9 := hI.1 (Int32.toNatClampNeg cl)
        have w_10 := hL.2.2.2.2.2
        exact vp_in_iff.mpr (by omega)
      refine mm_iald (v := (q.1 5 (Int32.toNatClampNeg cl))) hx hb hK hW 5 8 rfl b_4 ((rfl)) dX8_version_38 ?_
      refine lv_bipush (v := 6) hx hb dX8_version_39 (by decide) ?_
      refine lv_icmp_eq (tgt := 52) hx hb dX8_version_41 (by decide) (fun c_5 => ?_) (fun c_5 => ?_)
      · refine lv_iconst (v := 3) hx hb dX8_version_52 (by decide) ?_
        refine lv_goto (tgt := 57) hx hb dX8_version_53 (by decide) ?_
        refine mm_put hx hb hts hin hown hK hW hS 0 (by decide) (List.mem_of_getElem? (i := 2) rfl) rfl rfl (by decide +kernel) rfl (ws_0 ad _ _) dX8_version_57 (fun H locs hW hS => ?_)
        refine lv_aload_n hx hb dX8_version_60 rfl (lv_at hl 0 rfl) ?_
        refine mm_gets (v := 3) hx hb hts hin hown hK hW 0 (by decide) (List.mem_of_getElem? (i := 2) rfl) rfl rfl (mq_same q 0 0 3) dX8_version_61 ?_
        refine lv_if_le (tgt := 69) hx hb dX8_version_64 (by decide) (fun h => absurd h (by decide)) (fun _ => ?_)
        refine lv_iconst (v := 0) hx hb dX8_version_67 (by decide) ?_
        exact mm_iret hx hb hr hlk hK hW hS (by rw [m_X8_version, if_neg c_1, if_neg c_3, if_pos c_5]) dX8_version_68
      · refine lv_aload_n hx hb dX8_version_44 rfl (lv_at hl 0 rfl) ?_
        refine lv_iconst (v := 1) hx hb dX8_version_45 (by decide) ?_
        refine mm_callVi (n := 1) (As := [.int 1]) (rest := [.ref (ad 20 0)]) (r := (m_X8_hasRoom q 1)) (q2 := q) ⟨hx, hb, hml, hown, hts⟩ (c_X8_hasRoom l D b0 Pc cA ad q 1) gX8_version_X8_hasRoom rfl (by decide +kernel) rfl ⟨Nat.le_of_ble_eq_true rfl, Nat.le_of_ble_eq_true rfl⟩ ⟨Nat.le_of_ble_eq_true rfl, Nat.le_of_ble_eq_true rfl⟩ hK hW hS hl.1 rfl (Nat.le_of_ble_eq_true rfl) dX8_version_46 (fun H locs hW hS => ?_)
        refine lv_if_ne (tgt := 56) hx hb dX8_version_49 (by decide) (fun c_6 => ?_) (fun c_6 => ?_)
        · refine lv_iconst (v := 0) hx hb dX8_version_56 (by decide) ?_
          refine mm_put hx hb hts hin hown hK hW hS 0 (by decide) (List.mem_of_getElem? (i := 2) rfl) rfl rfl (by decide +kernel) rfl (ws_0 ad _ _) dX8_version_57 (fun H locs hW hS => ?_)
          refine lv_aload_n hx hb dX8_version_60 rfl (lv_at hl 0 rfl) ?_
          refine mm_gets (v := 0) hx hb hts hin hown hK hW 0 (by decide) (List.mem_of_getElem? (i := 2) rfl) rfl rfl (mq_same q 0 0 0) dX8_version_61 ?_
          refine lv_if_le (tgt := 69) hx hb dX8_version_64 (by decide) (fun _ => ?_) (fun h => absurd h (by decide))
          refine lv_bipush (v := 6) hx hb dX8_version_69 (by decide) ?_
          refine lv_iload_n hx hb dX8_version_71 rfl (lv_at hl 1 rfl) ?_
          refine lv_imul hx hb dX8_version_72 ?_
          refine lv_aload_n hx hb dX8_version_73 rfl (lv_at hl 0 rfl) ?_
          refine mm_get (v := .ref (ad 21 5)) hx hb hts hin hown hK hW 5 (by decide) (List.mem_of_getElem? (i := 1) rfl) rfl rfl dX8_version_74 ?_
          refine lv_iload_n hx hb dX8_version_77 rfl (lv_at hl 1 rfl) ?_
          have b_7 : vp_in cl 8 := by
            have u_1 := rg_e cl
            have u_2 := rg_e (m_X8_isIn cl 0 7)
            have k_3 : (0 : Int32).toInt = 0 := rfl
            have v_4 := cv_ne c_1
            have k_5 : (7 : Int32).toInt = 7 := rfl
            have v_6 := is_t c_1
            have u_7 := rg_e (m_X8_isVersion q cl event years months day)
            have v_8 := cv_ne c_3
            have u_9 := rg_e (q.1 5 (Int32.toNatClampNeg cl))
            have k_10 : (6 : Int32).toInt = 6 := rfl
            have v_11 := cv_ne c_5
            have u_12 := rg_e (m_X8_hasRoom q 1)
            have v_13 := cv_ne c_6
            have k_14 : (1 : Int32).toInt = 1 := rfl
            have v_15 := hr_t c_6
            have w_16 := hI.1 (Int32.toNatClampNeg cl)
            have w_17 := hL.2.2.2.2.2
            exact vp_in_iff.mpr (by omega)
          refine mm_iald (v := (q.1 5 (Int32.toNatClampNeg cl))) hx hb hK hW 5 8 rfl b_7 ((mq_ne (by decide))) dX8_version_78 ?_
          refine lv_iadd hx hb dX8_version_79 ?_
          refine lv_istore (lv' := [(7, .int ((6 * cl) + (q.1 5 (Int32.toNatClampNeg cl)))), (0, .ref (ad 20 0)), (1, .int cl), (2, .int event), (3, .int years), (4, .int months), (5, .int all), (6, .int day)]) hx hb dX8_version_80 hl (by decide) rfl (fun ls hl => ?_)
          refine lv_aload_n hx hb dX8_version_82 rfl (lv_at hl 1 rfl) ?_
          refine mm_get (v := .ref (ad 21 4)) hx hb hts hin hown hK hW 4 (by decide) (List.mem_of_getElem? (i := 3) rfl) rfl rfl dX8_version_83 ?_
          refine lv_iload_n hx hb dX8_version_86 rfl (lv_at hl 2 rfl) ?_
          refine lv_iload_n hx hb dX8_version_87 rfl (lv_at hl 3 rfl) ?_
          have b_8 : vp_in cl 8 := by
            have u_1 := rg_e cl
            have u_2 := rg_e (m_X8_isIn cl 0 7)
            have k_3 : (0 : Int32).toInt = 0 := rfl
            have v_4 := cv_ne c_1
            have k_5 : (7 : Int32).toInt = 7 := rfl
            have v_6 := is_t c_1
            have u_7 := rg_e (m_X8_isVersion q cl event years months day)
            have v_8 := cv_ne c_3
            have u_9 := rg_e (q.1 5 (Int32.toNatClampNeg cl))
            have k_10 : (6 : Int32).toInt = 6 := rfl
            have v_11 := cv_ne c_5
            have u_12 := rg_e (m_X8_hasRoom q 1)
            have v_13 := cv_ne c_6
            have k_14 : (1 : Int32).toInt = 1 := rfl
            have v_15 := hr_t c_6
            have w_16 := hI.1 (Int32.toNatClampNeg cl)
            have w_17 := hL.2.2.2.2.2
            exact vp_in_iff.mpr (by omega)
          refine mm_iast hx hb hK hW hS 4 8 rfl b_8 dX8_version_88 (fun H locs hW hS => ?_)
          refine lv_aload_n hx hb dX8_version_89 rfl (lv_at hl 1 rfl) ?_
          refine mm_get (v := .ref (ad 21 6)) hx hb hts hin hown hK hW 6 (by decide) (List.mem_of_getElem? (i := 4) rfl) rfl rfl dX8_version_90 ?_
          refine lv_iload hx hb dX8_version_93 (lv_at hl 0 rfl) ?_
          refine lv_bipush (v := 12) hx hb dX8_version_95 (by decide) ?_
          refine lv_iload_n hx hb dX8_version_97 rfl (lv_at hl 4 rfl) ?_
          refine lv_imul hx hb dX8_version_98 ?_
          refine lv_iload hx hb dX8_version_99 (lv_at hl 5 rfl) ?_
          refine lv_iadd hx hb dX8_version_101 ?_
          have b_9 : vp_in ((6 * cl) + (q.1 5 (Int32.toNatClampNeg cl))) 48 := by
            have k_1 : (6 : Int32).toInt = 6 := rfl
            have u_2 := rg_e cl
            have u_4 := rg_e (q.1 5 (Int32.toNatClampNeg cl))
            have u_6 := rg_e (m_X8_isIn cl 0 7)
            have k_7 : (0 : Int32).toInt = 0 := rfl
            have v_8 := cv_ne c_1
            have k_9 : (7 : Int32).toInt = 7 := rfl
            have v_10 := is_t c_1
            have u_11 := rg_e (m_X8_isVersion q cl event years months day)
            have v_12 := cv_ne c_3
            have v_13 := cv_ne c_5
            have u_14 := rg_e (m_X8_hasRoom q 1)
            have v_15 := cv_ne c_6
            have k_16 : (1 : Int32).toInt = 1 := rfl
            have v_17 := hr_t c_6
            have w_18 := hI.1 (Int32.toNatClampNeg cl)
            have w_19 := hL.2.2.2.2.2
            have u_3 := mu_o 6 6 cl rfl
            have u_5 := ad_o (6 * cl) (q.1 5 (Int32.toNatClampNeg cl))
            exact vp_in_iff.mpr (by omega)
          refine mm_iast hx hb hK hW hS 6 48 rfl b_9 dX8_version_102 (fun H locs hW hS => ?_)
          refine lv_aload_n hx hb dX8_version_103 rfl (lv_at hl 1 rfl) ?_
          refine mm_get (v := .ref (ad 21 7)) hx hb hts hin hown hK hW 7 (by decide) (List.mem_of_getElem? (i := 5) rfl) rfl rfl dX8_version_104 ?_
          refine lv_iload hx hb dX8_version_107 (lv_at hl 0 rfl) ?_
          refine lv_iload hx hb dX8_version_109 (lv_at hl 7 rfl) ?_
          have b_10 : vp_in ((6 * cl) + (q.1 5 (Int32.toNatClampNeg cl))) 48 := by
            have k_1 : (6 : Int32).toInt = 6 := rfl
            have u_2 := rg_e cl
            have u_4 := rg_e (q.1 5 (Int32.toNatClampNeg cl))
            have u_6 := rg_e (m_X8_isIn cl 0 7)
            have k_7 : (0 : Int32).toInt = 0 := rfl
            have v_8 := cv_ne c_1
            have k_9 : (7 : Int32).toInt = 7 := rfl
            have v_10 := is_t c_1
            have u_11 := rg_e (m_X8_isVersion q cl event years months day)
            have v_12 := cv_ne c_3
            have v_13 := cv_ne c_5
            have u_14 := rg_e (m_X8_hasRoom q 1)
            have v_15 := cv_ne c_6
            have k_16 : (1 : Int32).toInt = 1 := rfl
            have v_17 := hr_t c_6
            have w_18 := hI.1 (Int32.toNatClampNeg cl)
            have w_19 := hL.2.2.2.2.2
            have u_3 := mu_o 6 6 cl rfl
            have u_5 := ad_o (6 * cl) (q.1 5 (Int32.toNatClampNeg cl))
            exact vp_in_iff.mpr (by omega)
          refine mm_iast hx hb hK hW hS 7 48 rfl b_10 dX8_version_111 (fun H locs hW hS => ?_)
          refine lv_aload_n hx hb dX8_version_112 rfl (lv_at hl 1 rfl) ?_
          refine mm_get (v := .ref (ad 21 8)) hx hb hts hin hown hK hW 8 (by decide) (List.mem_of_getElem? (i := 6) rfl) rfl rfl dX8_version_113 ?_
          refine lv_iload hx hb dX8_version_116 (lv_at hl 0 rfl) ?_
          refine lv_iload hx hb dX8_version_118 (lv_at hl 6 rfl) ?_
          have b_11 : vp_in ((6 * cl) + (q.1 5 (Int32.toNatClampNeg cl))) 48 := by
            have k_1 : (6 : Int32).toInt = 6 := rfl
            have u_2 := rg_e cl
            have u_4 := rg_e (q.1 5 (Int32.toNatClampNeg cl))
            have u_6 := rg_e (m_X8_isIn cl 0 7)
            have k_7 : (0 : Int32).toInt = 0 := rfl
            have v_8 := cv_ne c_1
            have k_9 : (7 : Int32).toInt = 7 := rfl
            have v_10 := is_t c_1
            have u_11 := rg_e (m_X8_isVersion q cl event years months day)
            have v_12 := cv_ne c_3
            have v_13 := cv_ne c_5
            have u_14 := rg_e (m_X8_hasRoom q 1)
            have v_15 := cv_ne c_6
            have k_16 : (1 : Int32).toInt = 1 := rfl
            have v_17 := hr_t c_6
            have w_18 := hI.1 (Int32.toNatClampNeg cl)
            have w_19 := hL.2.2.2.2.2
            have u_3 := mu_o 6 6 cl rfl
            have u_5 := ad_o (6 * cl) (q.1 5 (Int32.toNatClampNeg cl))
            exact vp_in_iff.mpr (by omega)
          refine mm_zast hx hb hK hW hS 8 48 rfl hbo b_11 dX8_version_120 (fun H locs hW hS => ?_)
          refine lv_aload_n hx hb dX8_version_121 rfl (lv_at hl 1 rfl) ?_
          refine mm_get (v := .ref (ad 21 5)) hx hb hts hin hown hK hW 5 (by decide) (List.mem_of_getElem? (i := 1) rfl) rfl rfl dX8_version_122 ?_
          refine lv_iload_n hx hb dX8_version_125 rfl (lv_at hl 2 rfl) ?_
          refine lv_dup2_11 hx hb dX8_version_126 rfl rfl ?_
          have b_12 : vp_in cl 8 := by
            have u_1 := rg_e cl
            have u_2 := rg_e (m_X8_isIn cl 0 7)
            have k_3 : (0 : Int32).toInt = 0 := rfl
            have v_4 := cv_ne c_1
            have k_5 : (7 : Int32).toInt = 7 := rfl
            have v_6 := is_t c_1
            have u_7 := rg_e (m_X8_isVersion q cl event years months day)
            have v_8 := cv_ne c_3
            have u_9 := rg_e (q.1 5 (Int32.toNatClampNeg cl))
            have k_10 : (6 : Int32).toInt = 6 := rfl
            have v_11 := cv_ne c_5
            have u_12 := rg_e (m_X8_hasRoom q 1)
            have v_13 := cv_ne c_6
            have k_14 : (1 : Int32).toInt = 1 := rfl
            have v_15 := hr_t c_6
            have w_16 := hI.1 (Int32.toNatClampNeg cl)
            have w_17 := hL.2.2.2.2.2
            exact vp_in_iff.mpr (by omega)
          refine mm_iald (v := (q.1 5 (Int32.toNatClampNeg cl))) hx hb hK hW 5 8 rfl b_12 (((mq_ne (by decide)).trans ((mq_ne (by decide)).trans ((mq_ne (by decide)).trans ((mq_ne (by decide)).trans (mq_ne (by decide))))))) dX8_version_127 ?_
          refine lv_iconst (v := 1) hx hb dX8_version_128 (by decide) ?_
          refine lv_iadd hx hb dX8_version_129 ?_
          have b_13 : vp_in cl 8 := by
            have u_1 := rg_e cl
            have u_2 := rg_e (m_X8_isIn cl 0 7)
            have k_3 : (0 : Int32).toInt = 0 := rfl
            have v_4 := cv_ne c_1
            have k_5 : (7 : Int32).toInt = 7 := rfl
            have v_6 := is_t c_1
            have u_7 := rg_e (m_X8_isVersion q cl event years months day)
            have v_8 := cv_ne c_3
            have u_9 := rg_e (q.1 5 (Int32.toNatClampNeg cl))
            have k_10 : (6 : Int32).toInt = 6 := rfl
            have v_11 := cv_ne c_5
            have u_12 := rg_e (m_X8_hasRoom q 1)
            have v_13 := cv_ne c_6
            have k_14 : (1 : Int32).toInt = 1 := rfl
            have v_15 := hr_t c_6
            have w_16 := hI.1 (Int32.toNatClampNeg cl)
            have w_17 := hL.2.2.2.2.2
            exact vp_in_iff.mpr (by omega)
          refine mm_iast hx hb hK hW hS 5 8 rfl b_13 dX8_version_130 (fun H locs hW hS => ?_)
          refine lv_aload_n hx hb dX8_version_131 rfl (lv_at hl 1 rfl) ?_
          refine lv_iconst (v := 1) hx hb dX8_version_132 (by decide) ?_
          refine lv_iload_n hx hb dX8_version_133 rfl (lv_at hl 2 rfl) ?_
          refine lv_aload_n hx hb dX8_version_134 rfl (lv_at hl 1 rfl) ?_
          refine mm_get (v := .ref (ad 21 6)) hx hb hts hin hown hK hW 6 (by decide) (List.mem_of_getElem? (i := 4) rfl) rfl rfl dX8_version_135 ?_
          refine lv_iload hx hb dX8_version_138 (lv_at hl 0 rfl) ?_
          have b_14 : vp_in ((6 * cl) + (q.1 5 (Int32.toNatClampNeg cl))) 48 := by
            have k_1 : (6 : Int32).toInt = 6 := rfl
            have u_2 := rg_e cl
            have u_4 := rg_e (q.1 5 (Int32.toNatClampNeg cl))
            have u_6 := rg_e (m_X8_isIn cl 0 7)
            have k_7 : (0 : Int32).toInt = 0 := rfl
            have v_8 := cv_ne c_1
            have k_9 : (7 : Int32).toInt = 7 := rfl
            have v_10 := is_t c_1
            have u_11 := rg_e (m_X8_isVersion q cl event years months day)
            have v_12 := cv_ne c_3
            have v_13 := cv_ne c_5
            have u_14 := rg_e (m_X8_hasRoom q 1)
            have v_15 := cv_ne c_6
            have k_16 : (1 : Int32).toInt = 1 := rfl
            have v_17 := hr_t c_6
            have w_18 := hI.1 (Int32.toNatClampNeg cl)
            have w_19 := hL.2.2.2.2.2
            have u_3 := mu_o 6 6 cl rfl
            have u_5 := ad_o (6 * cl) (q.1 5 (Int32.toNatClampNeg cl))
            exact vp_in_iff.mpr (by omega)
          refine mm_iald (v := ((12 * years) + months)) hx hb hK hW 6 48 rfl b_14 (((mq_ne (by decide)).trans ((mq_ne (by decide)).trans ((mq_ne (by decide)).trans (mq_same (mq_i (mq_i q 0 0 0) 4 (Int32.toNatClampNeg cl) event) 6 (Int32.toNatClampNeg ((6 * cl) + (q.1 5 (Int32.toNatClampNeg cl)))) ((12 * years) + months)))))) dX8_version_140 ?_
          refine lv_iload hx hb dX8_version_141 (lv_at hl 7 rfl) ?_
          have h_15 : 0 ≤ ((mq_i (mq_i (mq_i (mq_i (mq_i (mq_i q 0 0 0) 4 (Int32.toNatClampNeg cl) event) 6 (Int32.toNatClampNeg ((6 * cl) + (q.1 5 (Int32.toNatClampNeg cl)))) ((12 * years) + months)) 7 (Int32.toNatClampNeg ((6 * cl) + (q.1 5 (Int32.toNatClampNeg cl)))) day) 8 (Int32.toNatClampNeg ((6 * cl) + (q.1 5 (Int32.toNatClampNeg cl)))) all) 5 (Int32.toNatClampNeg cl) ((q.1 5 (Int32.toNatClampNeg cl)) + 1)).1 31 0).toInt ∧ ((mq_i (mq_i (mq_i (mq_i (mq_i (mq_i q 0 0 0) 4 (Int32.toNatClampNeg cl) event) 6 (Int32.toNatClampNeg ((6 * cl) + (q.1 5 (Int32.toNatClampNeg cl)))) ((12 * years) + months)) 7 (Int32.toNatClampNeg ((6 * cl) + (q.1 5 (Int32.toNatClampNeg cl)))) day) 8 (Int32.toNatClampNeg ((6 * cl) + (q.1 5 (Int32.toNatClampNeg cl)))) all) 5 (Int32.toNatClampNeg cl) ((q.1 5 (Int32.toNatClampNeg cl)) + 1)).1 31 0).toInt ≤ 399 := by
            rw [show (mq_i (mq_i (mq_i (mq_i (mq_i (mq_i q 0 0 0) 4 (Int32.toNatClampNeg cl) event) 6 (Int32.toNatClampNeg ((6 * cl) + (q.1 5 (Int32.toNatClampNeg cl)))) ((12 * years) + months)) 7 (Int32.toNatClampNeg ((6 * cl) + (q.1 5 (Int32.toNatClampNeg cl)))) day) 8 (Int32.toNatClampNeg ((6 * cl) + (q.1 5 (Int32.toNatClampNeg cl)))) all) 5 (Int32.toNatClampNeg cl) ((q.1 5 (Int32.toNatClampNeg cl)) + 1)).1 31 0 = (q.1 31 0) from ((mq_ne (by decide)).trans ((mq_ne (by decide)).trans ((mq_ne (by decide)).trans ((mq_ne (by decide)).trans ((mq_ne (by decide)).trans (mq_ne (by decide)))))))]
            have k_1 : (1 : Int32).toInt = 1 := rfl
            have u_2 := rg_e cl
            have k_3 : (12 : Int32).toInt = 12 := rfl
            have u_4 := rg_e years
            have u_6 := rg_e months
            have u_8 := rg_e day
            have u_9 := rg_e (m_X8_isIn cl 0 7)
            have k_10 : (0 : Int32).toInt = 0 := rfl
            have v_11 := cv_ne c_1
            have k_12 : (7 : Int32).toInt = 7 := rfl
            have v_13 := is_t c_1
            have u_14 := rg_e (m_X8_isVersion q cl event years months day)
            have v_15 := cv_ne c_3
            have u_16 := rg_e (q.1 5 (Int32.toNatClampNeg cl))
            have k_17 : (6 : Int32).toInt = 6 := rfl
            have v_18 := cv_ne c_5
            have u_19 := rg_e (m_X8_hasRoom q 1)
            have v_20 := cv_ne c_6
            have v_21 := hr_t c_6
            have w_22 := hI.1 (Int32.toNatClampNeg cl)
            have w_23 := hL.2.2.2.2.2
            have u_5 := mu_o 12 12 years rfl
            have u_7 := ad_o (12 * years) months
            exact by omega
          have h_16 : 0 ≤ ((mq_i (mq_i (mq_i (mq_i (mq_i (mq_i q 0 0 0) 4 (Int32.toNatClampNeg cl) event) 6 (Int32.toNatClampNeg ((6 * cl) + (q.1 5 (Int32.toNatClampNeg cl)))) ((12 * years) + months)) 7 (Int32.toNatClampNeg ((6 * cl) + (q.1 5 (Int32.toNatClampNeg cl)))) day) 8 (Int32.toNatClampNeg ((6 * cl) + (q.1 5 (Int32.toNatClampNeg cl)))) all) 5 (Int32.toNatClampNeg cl) ((q.1 5 (Int32.toNatClampNeg cl)) + 1)).1 12 0).toInt ∧ ((mq_i (mq_i (mq_i (mq_i (mq_i (mq_i q 0 0 0) 4 (Int32.toNatClampNeg cl) event) 6 (Int32.toNatClampNeg ((6 * cl) + (q.1 5 (Int32.toNatClampNeg cl)))) ((12 * years) + months)) 7 (Int32.toNatClampNeg ((6 * cl) + (q.1 5 (Int32.toNatClampNeg cl)))) day) 8 (Int32.toNatClampNeg ((6 * cl) + (q.1 5 (Int32.toNatClampNeg cl)))) all) 5 (Int32.toNatClampNeg cl) ((q.1 5 (Int32.toNatClampNeg cl)) + 1)).1 12 0).toInt ≤ 64 := by
            rw [show (mq_i (mq_i (mq_i (mq_i (mq_i (mq_i q 0 0 0) 4 (Int32.toNatClampNeg cl) event) 6 (Int32.toNatClampNeg ((6 * cl) + (q.1 5 (Int32.toNatClampNeg cl)))) ((12 * years) + months)) 7 (Int32.toNatClampNeg ((6 * cl) + (q.1 5 (Int32.toNatClampNeg cl)))) day) 8 (Int32.toNatClampNeg ((6 * cl) + (q.1 5 (Int32.toNatClampNeg cl)))) all) 5 (Int32.toNatClampNeg cl) ((q.1 5 (Int32.toNatClampNeg cl)) + 1)).1 12 0 = (q.1 12 0) from ((mq_ne (by decide)).trans ((mq_ne (by decide)).trans ((mq_ne (by decide)).trans ((mq_ne (by decide)).trans ((mq_ne (by decide)).trans (mq_ne (by decide)))))))]
            exact hI.2.2.2.1
          refine mm_callVv (n := 4) (As := [.int 1, .int cl, .int ((12 * years) + months), .int day]) (rest := []) (q2 := (m_X8_write (mq_i (mq_i (mq_i (mq_i (mq_i (mq_i q 0 0 0) 4 (Int32.toNatClampNeg cl) event) 6 (Int32.toNatClampNeg ((6 * cl) + (q.1 5 (Int32.toNatClampNeg cl)))) ((12 * years) + months)) 7 (Int32.toNatClampNeg ((6 * cl) + (q.1 5 (Int32.toNatClampNeg cl)))) day) 8 (Int32.toNatClampNeg ((6 * cl) + (q.1 5 (Int32.toNatClampNeg cl)))) all) 5 (Int32.toNatClampNeg cl) ((q.1 5 (Int32.toNatClampNeg cl)) + 1)) 1 cl ((12 * years) + months) day)) ⟨hx, hb, hml, hown, hts⟩ (c_X8_write l D b0 Pc cA ad (mq_i (mq_i (mq_i (mq_i (mq_i (mq_i q 0 0 0) 4 (Int32.toNatClampNeg cl) event) 6 (Int32.toNatClampNeg ((6 * cl) + (q.1 5 (Int32.toNatClampNeg cl)))) ((12 * years) + months)) 7 (Int32.toNatClampNeg ((6 * cl) + (q.1 5 (Int32.toNatClampNeg cl)))) day) 8 (Int32.toNatClampNeg ((6 * cl) + (q.1 5 (Int32.toNatClampNeg cl)))) all) 5 (Int32.toNatClampNeg cl) ((q.1 5 (Int32.toNatClampNeg cl)) + 1)) 1 cl ((12 * years) + months) day h_15 h_16) gX8_version_X8_write rfl (by decide +kernel) rfl ⟨Nat.le_of_ble_eq_true rfl, Nat.le_of_ble_eq_true rfl⟩ ⟨Nat.le_of_ble_eq_true rfl, Nat.le_of_ble_eq_true rfl⟩ hK hW hS hl.1 rfl (Nat.le_of_ble_eq_true rfl) dX8_version_143 (fun H locs hW hS => ?_)
          refine lv_aload_n hx hb dX8_version_146 rfl (lv_at hl 1 rfl) ?_
          refine mm_get (v := .ref (ad 21 5)) hx hb hts hin hown hK hW 5 (by decide) (List.mem_of_getElem? (i := 1) rfl) rfl rfl dX8_version_147 ?_
          refine lv_iload_n hx hb dX8_version_150 rfl (lv_at hl 2 rfl) ?_
          have b_17 : vp_in cl 8 := by
            have u_1 := rg_e cl
            have u_2 := rg_e (m_X8_isIn cl 0 7)
            have k_3 : (0 : Int32).toInt = 0 := rfl
            have v_4 := cv_ne c_1
            have k_5 : (7 : Int32).toInt = 7 := rfl
            have v_6 := is_t c_1
            have u_7 := rg_e (m_X8_isVersion q cl event years months day)
            have v_8 := cv_ne c_3
            have u_9 := rg_e (q.1 5 (Int32.toNatClampNeg cl))
            have k_10 : (6 : Int32).toInt = 6 := rfl
            have v_11 := cv_ne c_5
            have u_12 := rg_e (m_X8_hasRoom q 1)
            have v_13 := cv_ne c_6
            have k_14 : (1 : Int32).toInt = 1 := rfl
            have v_15 := hr_t c_6
            have w_16 := hI.1 (Int32.toNatClampNeg cl)
            have w_17 := hL.2.2.2.2.2
            exact vp_in_iff.mpr (by omega)
          refine mm_iald (v := ((m_X8_write (mq_i (mq_i (mq_i (mq_i (mq_i (mq_i q 0 0 0) 4 (Int32.toNatClampNeg cl) event) 6 (Int32.toNatClampNeg ((6 * cl) + (q.1 5 (Int32.toNatClampNeg cl)))) ((12 * years) + months)) 7 (Int32.toNatClampNeg ((6 * cl) + (q.1 5 (Int32.toNatClampNeg cl)))) day) 8 (Int32.toNatClampNeg ((6 * cl) + (q.1 5 (Int32.toNatClampNeg cl)))) all) 5 (Int32.toNatClampNeg cl) ((q.1 5 (Int32.toNatClampNeg cl)) + 1)) 1 cl ((12 * years) + months) day).1 5 (Int32.toNatClampNeg cl))) hx hb hK hW 5 8 rfl b_17 ((rfl)) dX8_version_151 ?_
          exact mm_iret hx hb hr hlk hK hW hS (by rw [m_X8_version, if_neg c_1, if_neg c_3, if_neg c_5, if_neg c_6]) dX8_version_152
        · refine lv_iconst (v := 3) hx hb dX8_version_52 (by decide) ?_
          refine lv_goto (tgt := 57) hx hb dX8_version_53 (by decide) ?_
          refine mm_put hx hb hts hin hown hK hW hS 0 (by decide) (List.mem_of_getElem? (i := 2) rfl) rfl rfl (by decide +kernel) rfl (ws_0 ad _ _) dX8_version_57 (fun H locs hW hS => ?_)
          refine lv_aload_n hx hb dX8_version_60 rfl (lv_at hl 0 rfl) ?_
          refine mm_gets (v := 3) hx hb hts hin hown hK hW 0 (by decide) (List.mem_of_getElem? (i := 2) rfl) rfl rfl (mq_same q 0 0 3) dX8_version_61 ?_
          refine lv_if_le (tgt := 69) hx hb dX8_version_64 (by decide) (fun h => absurd h (by decide)) (fun _ => ?_)
          refine lv_iconst (v := 0) hx hb dX8_version_67 (by decide) ?_
          exact mm_iret hx hb hr hlk hK hW hS (by rw [m_X8_version, if_neg c_1, if_neg c_3, if_neg c_5, if_pos c_6]) dX8_version_68
    · refine lv_iconst (v := 2) hx hb dX8_version_29 (by decide) ?_
      refine lv_goto (tgt := 57) hx hb dX8_version_30 (by decide) ?_
      refine mm_put hx hb hts hin hown hK hW hS 0 (by decide) (List.mem_of_getElem? (i := 2) rfl) rfl rfl (by decide +kernel) rfl (ws_0 ad _ _) dX8_version_57 (fun H locs hW hS => ?_)
      refine lv_aload_n hx hb dX8_version_60 rfl (lv_at hl 0 rfl) ?_
      refine mm_gets (v := 2) hx hb hts hin hown hK hW 0 (by decide) (List.mem_of_getElem? (i := 2) rfl) rfl rfl (mq_same q 0 0 2) dX8_version_61 ?_
      refine lv_if_le (tgt := 69) hx hb dX8_version_64 (by decide) (fun h => absurd h (by decide)) (fun _ => ?_)
      refine lv_iconst (v := 0) hx hb dX8_version_67 (by decide) ?_
      exact mm_iret hx hb hr hlk hK hW hS (by rw [m_X8_version, if_neg c_1, if_pos c_3]) dX8_version_68
  · refine lv_iconst (v := 1) hx hb dX8_version_11 (by decide) ?_
    refine lv_goto (tgt := 57) hx hb dX8_version_12 (by decide) ?_
    refine mm_put hx hb hts hin hown hK hW hS 0 (by decide) (List.mem_of_getElem? (i := 2) rfl) rfl rfl (by decide +kernel) rfl (ws_0 ad _ _) dX8_version_57 (fun H locs hW hS => ?_)
    refine lv_aload_n hx hb dX8_version_60 rfl (lv_at hl 0 rfl) ?_
    refine mm_gets (v := 1) hx hb hts hin hown hK hW 0 (by decide) (List.mem_of_getElem? (i := 2) rfl) rfl rfl (mq_same q 0 0 1) dX8_version_61 ?_
    refine lv_if_le (tgt := 69) hx hb dX8_version_64 (by decide) (fun h => absurd h (by decide)) (fun _ => ?_)
    refine lv_iconst (v := 0) hx hb dX8_version_67 (by decide) ?_
    exact mm_iret hx hb hr hlk hK hW hS (by rw [m_X8_version, if_pos c_1]) dX8_version_68
