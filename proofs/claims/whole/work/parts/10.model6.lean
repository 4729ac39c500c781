/-! laid by wip/whole/tools/model6.py -/
theorem pl_lp_rg {q : qM} (hL : lI q) (li r : Int32) : ∀ (n : Nat) (found k : Int32), 0 ≤ k.toInt → k.toInt ≤ 64 → 64 - k.toInt < (n : Int) → -1 ≤ found.toInt → found.toInt < (q.1 27 (Int32.toNatClampNeg li)).toInt → -1 ≤ (m_X8_placeOn_lp q li r n found k).toInt ∧ (m_X8_placeOn_lp q li r n found k).toInt < (q.1 27 (Int32.toNatClampNeg li)).toInt := by
  intro n
  have h9 := hL.2.1 (Int32.toNatClampNeg li)
  induction n with
  | zero => intro found k h1 h2 h3; omega
  | succ n ih =>
    intro found k h1 h2 h3 h4 h5
    rw [m_X8_placeOn_lp]
    by_cases h : (q.1 27 (Int32.toNatClampNeg li)) ≤ k
    · rw [if_pos h]; exact ⟨h4, h5⟩
    · rw [if_neg h]
      have g2 := cv_nle h
      have g4 := ad_o k 1
      have k1 : (1 : Int32).toInt = 1 := rfl
      split
      · exact ih k (k + 1) (by omega) (by omega) (by omega) (by omega) (by omega)
      · exact ih found (k + 1) (by omega) (by omega) (by omega) (by omega) (by omega)
theorem pl_rg {q : qM} (hL : lI q) (li r : Int32) : -1 ≤ (m_X8_placeOn q li r).toInt ∧ (m_X8_placeOn q li r).toInt < (q.1 27 (Int32.toNatClampNeg li)).toInt := by
  have h9 := hL.2.1 (Int32.toNatClampNeg li)
  have k1 : (-1 : Int32).toInt = -1 := rfl
  have k0 : (0 : Int32).toInt = 0 := rfl
  unfold m_X8_placeOn
  exact pl_lp_rg hL li r 66 (-1) 0 (by omega) (by omega) (by omega) (by omega) (by omega)

def m_X8_strike_lp (li : Int32) : Nat → Int32 → qM → qM
  | 0, _, q1 => q1
  | n + 1, k, q1 => (if (q1.1 27 (Int32.toNatClampNeg li)) ≤ k then q1 else (m_X8_strike_lp li n (k + 1) (mq_i q1 26 (Int32.toNatClampNeg ((64 * li) + k)) (q1.1 26 (Int32.toNatClampNeg (((64 * li) + k) + 1))))))
def m_X8_strike (q : qM) (li : Int32) (r : Int32) : Int32 × qM := (if (m_X8_noList q li) = 0 then (if (m_X8_placeOn q li r) = (-1) then (0, (mq_i q 0 0 1)) else (if (q.1 30 (Int32.toNatClampNeg li)) = 0 then (if (m_X8_hasRoom q 1) = 0 then (0, (mq_i q 0 0 2)) else (((m_X8_write (m_X8_strike_lp li 66 (m_X8_placeOn q li r) (mq_i (mq_i q 0 0 0) 27 (Int32.toNatClampNeg li) ((q.1 27 (Int32.toNatClampNeg li)) - 1))) 10 li r 0).1 27 (Int32.toNatClampNeg li)), (m_X8_write (m_X8_strike_lp li 66 (m_X8_placeOn q li r) (mq_i (mq_i q 0 0 0) 27 (Int32.toNatClampNeg li) ((q.1 27 (Int32.toNatClampNeg li)) - 1))) 10 li r 0))) else (0, (mq_i q 0 0 2)))) else (0, (mq_i q 0 0 1)))
set_option maxHeartbeats 4000000 in
set_option maxRecDepth 100000 in
theorem c_X8_strike (l : Launch) (D : va_G) (b0 : Nat) (Pc : Nat → Nat → Option va_E) (cA : Nat → ClassId) (ad : Nat → Nat → Nat) (q : qM) (li : Int32) (r : Int32) (hI : gI q) (hL : lI q) : mc_i l yX8_strike wsX8_strike 3 74 D b0 Pc cA ad q [.ref (ad 20 0), .int li, .int r] (m_X8_strike q li r) := by
  refine mc_of (by decide) rfl (Nat.le_of_ble_eq_true rfl) ?_
  intro p e s m below meth c hx hb hml hr hlk hown hts hK hW ls hl
  have hown : s.vm.findClass RX8 = some m.cls := hown
  have hS : va_S (wA b0) s.heap s.heap [] := va_S.rf
  have hl : lv_has ls 5 [(0, .ref (ad 20 0)), (1, .int li), (2, .int r)] := hl
  have hin : ∀ w ∈ wsX80, w ∈ wsX8_strike := fun w h => List.mem_cons_of_mem _ (List.mem_append_right _ h)
  refine lv_aload_n hx hb dX8_strike_0 rfl (lv_at hl 0 rfl) ?_
  refine lv_iload_n hx hb dX8_strike_1 rfl (lv_at hl 1 rfl) ?_
  refine mm_callVi (n := 1) (As := [.int li]) (rest := []) (r := (m_X8_noList q li)) (q2 := q) ⟨hx, hb, hml, hown, hts⟩ (c_X8_noList l D b0 Pc cA ad q li) gX8_strike_X8_noList rfl (by decide +kernel) rfl ⟨Nat.le_of_ble_eq_true rfl, Nat.le_of_ble_eq_true rfl⟩ ⟨Nat.le_of_ble_eq_true rfl, Nat.le_of_ble_eq_true rfl⟩ hK hW hS hl.1 rfl (Nat.le_of_ble_eq_true rfl) dX8_strike_2 (fun H locs hW hS => ?_)
  refine lv_if_eq (tgt := 12) hx hb dX8_strike_5 (by decide) (fun c_1 => ?_) (fun c_1 => ?_)
  · refine lv_aload_n hx hb dX8_strike_12 rfl (lv_at hl 0 rfl) ?_
    refine lv_iload_n hx hb dX8_strike_13 rfl (lv_at hl 1 rfl) ?_
    refine lv_iload_n hx hb dX8_strike_14 rfl (lv_at hl 2 rfl) ?_
    have h_2 : 0 ≤ (li : Int32).toInt ∧ (li : Int32).toInt ≤ 15 := by
      have u_1 := rg_e li
      have u_2 := rg_e r
      have u_3 := rg_e (m_X8_noList q li)
      have k_4 : (0 : Int32).toInt = 0 := rfl
      have v_5 := cv_eq c_1
      have v_6 := nl_t hL c_1
      have w_7 := hL.2.2.2.2.2
      have w_8 := hI.2.2.2.1
      have w_9 := hL.2.1 (Int32.toNatClampNeg li)
      have w_10 := su_o (q.1 27 (Int32.toNatClampNeg li)) 1
      have w_11 := (rfl : (1 : Int32).toInt = 1)
      exact by omega
    refine mm_callVi (n := 2) (As := [.int li, .int r]) (rest := []) (r := (m_X8_placeOn q li r)) (q2 := q) ⟨hx, hb, hml, hown, hts⟩ (c_X8_placeOn l D b0 Pc cA ad q li r h_2 hL) gX8_strike_X8_placeOn rfl (by decide +kernel) rfl ⟨Nat.le_of_ble_eq_true rfl, Nat.le_of_ble_eq_true rfl⟩ ⟨Nat.le_of_ble_eq_true rfl, Nat.le_of_ble_eq_true rfl⟩ hK hW hS hl.1 rfl (Nat.le_of_ble_eq_true rfl) dX8_strike_15 (fun H locs hW hS => ?_)
    refine lv_istore_n (lv' := [(3, .int (m_X8_placeOn q li r)), (0, .ref (ad 20 0)), (1, .int li), (2, .int r)]) hx hb dX8_strike_18 rfl hl (by decide) rfl (fun ls hl => ?_)
    refine lv_aload_n hx hb dX8_strike_19 rfl (lv_at hl 1 rfl) ?_
    refine lv_iload_n hx hb dX8_strike_20 rfl (lv_at hl 0 rfl) ?_
    refine lv_iconst (v := (-1)) hx hb dX8_strike_21 (by decide) ?_
    refine lv_icmp_ne (tgt := 29) hx hb dX8_strike_22 (by decide) (fun c_3 => ?_) (fun c_3 => ?_)
    · refine lv_aload_n hx hb dX8_strike_29 rfl (lv_at hl 1 rfl) ?_
      refine mm_get (v := .ref (ad 21 30)) hx hb hts hin hown hK hW 30 (by decide) (List.mem_of_getElem? (i := 1) rfl) rfl rfl dX8_strike_30 ?_
      refine lv_iload_n hx hb dX8_strike_33 rfl (lv_at hl 2 rfl) ?_
      have b_4 : vp_in li 16 := by
        have u_1 := rg_e li
        have u_2 := rg_e (m_X8_noList q li)
        have k_3 : (0 : Int32).toInt = 0 := rfl
        have v_4 := cv_eq c_1
        have v_5 := nl_t hL c_1
        have u_6 := rg_e (m_X8_placeOn q li r)
        have u_7 := rg_e r
        have k_9 : ((-1) : Int32).toInt = -1 := rfl
        have v_10 := cv_ne c_3
        have w_11 := hL.2.2.2.2.2
        have w_12 := hI.2.2.2.1
        have w_13 := hL.2.1 (Int32.toNatClampNeg li)
        have w_14 := su_o (q.1 27 (Int32.toNatClampNeg li)) 1
        have w_15 := (rfl : (1 : Int32).toInt = 1)
        have u_8 := pl_rg hL li r
        exact vp_in_iff.mpr (by omega)
      refine mm_zald (v := (q.1 30 (Int32.toNatClampNeg li))) hx hb hK hW 30 16 rfl b_4 ((rfl)) dX8_strike_34 ?_
      refine lv_if_ne (tgt := 46) hx hb dX8_strike_35 (by decide) (fun c_5 => ?_) (fun c_5 => ?_)
      · refine lv_iconst (v := 2) hx hb dX8_strike_46 (by decide) ?_
        refine lv_goto (tgt := 51) hx hb dX8_strike_47 (by decide) ?_
        refine mm_put hx hb hts hin hown hK hW hS 0 (by decide) (List.mem_of_getElem? (i := 2) rfl) rfl rfl (by decide +kernel) rfl (ws_0 ad _ _) dX8_strike_51 (fun H locs hW hS => ?_)
        refine lv_aload_n hx hb dX8_strike_54 rfl (lv_at hl 1 rfl) ?_
        refine mm_gets (v := 2) hx hb hts hin hown hK hW 0 (by decide) (List.mem_of_getElem? (i := 2) rfl) rfl rfl (mq_same q 0 0 2) dX8_strike_55 ?_
        refine lv_if_le (tgt := 63) hx hb dX8_strike_58 (by decide) (fun h => absurd h (by decide)) (fun _ => ?_)
        refine lv_iconst (v := 0) hx hb dX8_strike_61 (by decide) ?_
        exact mm_iret hx hb hr hlk hK hW hS (by rw [m_X8_strike, if_pos c_1, if_neg c_3, if_neg c_5]) dX8_strike_62
      · refine lv_aload_n hx hb dX8_strike_38 rfl (lv_at hl 1 rfl) ?_
        refine lv_iconst (v := 1) hx hb dX8_strike_39 (by decide) ?_
        refine mm_callVi (n := 1) (As := [.int 1]) (rest := [.ref (ad 20 0)]) (r := (m_X8_hasRoom q 1)) (q2 := q) ⟨hx, hb, hml, hown, hts⟩ (c_X8_hasRoom l D b0 Pc cA ad q 1) gX8_strike_X8_hasRoom rfl (by decide +kernel) rfl ⟨Nat.le_of_ble_eq_true rfl, Nat.le_of_ble_eq_true rfl⟩ ⟨Nat.le_of_ble_eq_true rfl, Nat.le_of_ble_eq_true rfl⟩ hK hW hS hl.1 rfl (Nat.le_of_ble_eq_true rfl) dX8_strike_40 (fun H locs hW hS => ?_)
        refine lv_if_ne (tgt := 50) hx hb dX8_strike_43 (by decide) (fun c_6 => ?_) (fun c_6 => ?_)
        · refine lv_iconst (v := 0) hx hb dX8_strike_50 (by decide) ?_
          refine mm_put hx hb hts hin hown hK hW hS 0 (by decide) (List.mem_of_getElem? (i := 2) rfl) rfl rfl (by decide +kernel) rfl (ws_0 ad _ _) dX8_strike_51 (fun H locs hW hS => ?_)
          refine lv_aload_n hx hb dX8_strike_54 rfl (lv_at hl 1 rfl) ?_
          refine mm_gets (v := 0) hx hb hts hin hown hK hW 0 (by decide) (List.mem_of_getElem? (i := 2) rfl) rfl rfl (mq_same q 0 0 0) dX8_strike_55 ?_
          refine lv_if_le (tgt := 63) hx hb dX8_strike_58 (by decide) (fun _ => ?_) (fun h => absurd h (by decide))
          refine lv_aload_n hx hb dX8_strike_63 rfl (lv_at hl 1 rfl) ?_
          refine mm_get (v := .ref (ad 21 27)) hx hb hts hin hown hK hW 27 (by decide) (List.mem_of_getElem? (i := 3) rfl) rfl rfl dX8_strike_64 ?_
          refine lv_iload_n hx hb dX8_strike_67 rfl (lv_at hl 2 rfl) ?_
          refine lv_dup2_11 hx hb dX8_strike_68 rfl rfl ?_
          have b_7 : vp_in li 16 := by
            have u_1 := rg_e li
            have u_2 := rg_e (m_X8_noList q li)
            have k_3 : (0 : Int32).toInt = 0 := rfl
            have v_4 := cv_eq c_1
            have v_5 := nl_t hL c_1
            have u_6 := rg_e (m_X8_placeOn q li r)
            have u_7 := rg_e r
            have k_9 : ((-1) : Int32).toInt = -1 := rfl
            have v_10 := cv_ne c_3
            have u_11 := rg_e (q.1 30 (Int32.toNatClampNeg li))
            have v_12 := cv_eq c_5
            have u_13 := rg_e (m_X8_hasRoom q 1)
            have v_14 := cv_ne c_6
            have k_15 : (1 : Int32).toInt = 1 := rfl
            have v_16 := hr_t c_6
            have w_17 := hL.2.2.2.2.2
            have w_18 := hI.2.2.2.1
            have w_19 := hL.2.1 (Int32.toNatClampNeg li)
            have w_20 := su_o (q.1 27 (Int32.toNatClampNeg li)) 1
            have w_21 := (rfl : (1 : Int32).toInt = 1)
            have u_8 := pl_rg hL li r
            exact vp_in_iff.mpr (by omega)
          refine mm_iald (v := (q.1 27 (Int32.toNatClampNeg li))) hx hb hK hW 27 16 rfl b_7 ((mq_ne (by decide))) dX8_strike_69 ?_
          refine lv_iconst (v := 1) hx hb dX8_strike_70 (by decide) ?_
          refine lv_isub hx hb dX8_strike_71 ?_
          have b_8 : vp_in li 16 := by
            have u_1 := rg_e li
            have u_2 := rg_e (m_X8_noList q li)
            have k_3 : (0 : Int32).toInt = 0 := rfl
            have v_4 := cv_eq c_1
            have v_5 := nl_t hL c_1
            have u_6 := rg_e (m_X8_placeOn q li r)
            have u_7 := rg_e r
            have k_9 : ((-1) : Int32).toInt = -1 := rfl
            have v_10 := cv_ne c_3
            have u_11 := rg_e (q.1 30 (Int32.toNatClampNeg li))
            have v_12 := cv_eq c_5
            have u_13 := rg_e (m_X8_hasRoom q 1)
            have v_14 := cv_ne c_6
            have k_15 : (1 : Int32).toInt = 1 := rfl
            have v_16 := hr_t c_6
            have w_17 := hL.2.2.2.2.2
            have w_18 := hI.2.2.2.1
            have w_19 := hL.2.1 (Int32.toNatClampNeg li)
            have w_20 := su_o (q.1 27 (Int32.toNatClampNeg li)) 1
            have w_21 := (rfl : (1 : Int32).toInt = 1)
            have u_8 := pl_rg hL li r
            exact vp_in_iff.mpr (by omega)
          refine mm_iast hx hb hK hW hS 27 16 rfl b_8 dX8_strike_72 (fun H locs hW hS => ?_)
          refine lv_iload_n hx hb dX8_strike_73 rfl (lv_at hl 0 rfl) ?_
          refine lv_istore (lv' := [(4, .int (m_X8_placeOn q li r)), (3, .int (m_X8_placeOn q li r)), (0, .ref (ad 20 0)), (1, .int li), (2, .int r)]) hx hb dX8_strike_74 hl (by decide) rfl (fun ls hl => ?_)
          have lp_18 : ∀ (Q : State → Prop) (n : Nat) (k : Int32) (q1 : qM), (0 ≤ k.toInt ∧ k.toInt ≤ 64) → (q1.1 31 0 = q.1 31 0 ∧ q1.1 12 0 = q.1 12 0 ∧ q1.1 27 (Int32.toNatClampNeg li) = (q.1 27 (Int32.toNatClampNeg li)) - 1) → 64 - k.toInt < (n : Int) → (∀ o_9 : qM, o_9 = (m_X8_strike_lp li n k q1) → (o_9.1 31 0 = q.1 31 0 ∧ o_9.1 12 0 = q.1 12 0 ∧ o_9.1 27 (Int32.toNatClampNeg li) = (q.1 27 (Int32.toNatClampNeg li)) - 1) → ∀ (H : Heap) (locs : List Loc), wd D (wA b0) (PW Pc cA ad o_9) ad H → va_S (wA b0) s.heap H locs → ∀ ls : Array Slot, lv_has ls 5 [(3, .int (m_X8_placeOn q li r)), (0, .ref (ad 20 0)), (1, .int li), (2, .int r)] → W p l e { frames := 3, cells := 0, slots := 0, locals := 74 } s m [.ref (ad 20 0), .int li, .int r].toArray below meth c H locs 0 0 Q (F0 m 119 ls [])) → ∀ (H : Heap) (locs : List Loc), wd D (wA b0) (PW Pc cA ad q1) ad H → va_S (wA b0) s.heap H locs → ∀ ls : Array Slot, lv_has ls 5 [(4, .int k), (3, .int (m_X8_placeOn q li r)), (0, .ref (ad 20 0)), (1, .int li), (2, .int r)] → W p l e { frames := 3, cells := 0, slots := 0, locals := 74 } s m [.ref (ad 20 0), .int li, .int r].toArray below meth c H locs 0 0 Q (F0 m 76 ls []) := by
            intro Q n
            induction n with
            | zero =>
              intro k q1 i1 i2 hm
              have hz : 0 ≤ 64 - k.toInt := by
                have w_1 := hL.2.2.2.2.2
                have w_2 := hI.2.2.2.1
                have w_3 := hL.2.1 (Int32.toNatClampNeg li)
                have w_4 := su_o (q.1 27 (Int32.toNatClampNeg li)) 1
                have w_5 := (rfl : (1 : Int32).toInt = 1)
                have w_6 := congrArg Int32.toInt i2.1
                have w_7 := congrArg Int32.toInt i2.2.1
                have w_8 := congrArg Int32.toInt i2.2.2
                have w_9 := i1
                omega
              exact absurd hm (by omega)
            | succ n ih =>
              intro k q1 i1 i2 hm kk H locs hW hS ls hl
              refine lv_iload hx hb dX8_strike_76 (lv_at hl 0 rfl) ?_
              refine lv_aload_n hx hb dX8_strike_78 rfl (lv_at hl 2 rfl) ?_
              refine mm_get (v := .ref (ad 21 27)) hx hb hts hin hown hK hW 27 (by decide) (List.mem_of_getElem? (i := 3) rfl) rfl rfl dX8_strike_79 ?_
              refine lv_iload_n hx hb dX8_strike_82 rfl (lv_at hl 3 rfl) ?_
              have b_10 : vp_in li 16 := by
                have u_1 := rg_e li
                have u_2 := rg_e (m_X8_noList q li)
                have k_3 : (0 : Int32).toInt = 0 := rfl
                have v_4 := cv_eq c_1
                have v_5 := nl_t hL c_1
                have u_6 := rg_e (m_X8_placeOn q li r)
                have u_7 := rg_e r
                have k_9 : ((-1) : Int32).toInt = -1 := rfl
                have v_10 := cv_ne c_3
                have u_11 := rg_e (q.1 30 (Int32.toNatClampNeg li))
                have v_12 := cv_eq c_5
                have u_13 := rg_e (m_X8_hasRoom q 1)
                have v_14 := cv_ne c_6
                have k_15 : (1 : Int32).toInt = 1 := rfl
                have v_16 := hr_t c_6
                have w_17 := hL.2.2.2.2.2
                have w_18 := hI.2.2.2.1
                have w_19 := hL.2.1 (Int32.toNatClampNeg li)
                have w_20 := su_o (q.1 27 (Int32.toNatClampNeg li)) 1
                have w_21 := (rfl : (1 : Int32).toInt = 1)
                have w_22 := congrArg Int32.toInt i2.1
                have w_23 := congrArg Int32.toInt i2.2.1
                have w_24 := congrArg Int32.toInt i2.2.2
                have w_25 := i1
                have u_8 := pl_rg hL li r
                exact vp_in_iff.mpr (by omega)
              refine mm_iald (v := (q1.1 27 (Int32.toNatClampNeg li))) hx hb hK hW 27 16 rfl b_10 ((rfl)) dX8_strike_83 ?_
              refine lv_icmp_ge (tgt := 119) hx hb dX8_strike_84 (by decide) (fun c_11 => ?_) (fun c_11 => ?_)
              · have h_12 : q1.1 31 0 = q.1 31 0 ∧ q1.1 12 0 = q.1 12 0 ∧ q1.1 27 (Int32.toNatClampNeg li) = (q.1 27 (Int32.toNatClampNeg li)) - 1 := i2
                exact kk q1 (by rw [m_X8_strike_lp, if_pos c_11]) h_12 H locs hW hS ls (lv_sub hl [1, 2, 3, 4] rfl)
              · refine lv_aload_n hx hb dX8_strike_87 rfl (lv_at hl 2 rfl) ?_
                refine mm_get (v := .ref (ad 21 26)) hx hb hts hin hown hK hW 26 (by decide) (List.mem_of_getElem? (i := 4) rfl) rfl rfl dX8_strike_88 ?_
                refine lv_bipush (v := 64) hx hb dX8_strike_91 (by decide) ?_
                refine lv_iload_n hx hb dX8_strike_93 rfl (lv_at hl 3 rfl) ?_
                refine lv_imul hx hb dX8_strike_94 ?_
                refine lv_iload hx hb dX8_strike_95 (lv_at hl 0 rfl) ?_
                refine lv_iadd hx hb dX8_strike_97 ?_
                refine lv_aload_n hx hb dX8_strike_98 rfl (lv_at hl 2 rfl) ?_
                refine mm_get (v := .ref (ad 21 26)) hx hb hts hin hown hK hW 26 (by decide) (List.mem_of_getElem? (i := 4) rfl) rfl rfl dX8_strike_99 ?_
                refine lv_bipush (v := 64) hx hb dX8_strike_102 (by decide) ?_
                refine lv_iload_n hx hb dX8_strike_104 rfl (lv_at hl 3 rfl) ?_
                refine lv_imul hx hb dX8_strike_105 ?_
                refine lv_iload hx hb dX8_strike_106 (lv_at hl 0 rfl) ?_
                refine lv_iadd hx hb dX8_strike_108 ?_
                refine lv_iconst (v := 1) hx hb dX8_strike_109 (by decide) ?_
                refine lv_iadd hx hb dX8_strike_110 ?_
                have b_13 : vp_in (((64 * li) + k) + 1) 1024 := by
                  have k_1 : (64 : Int32).toInt = 64 := rfl
                  have u_2 := rg_e li
                  have u_4 := rg_e k
                  have k_6 : (1 : Int32).toInt = 1 := rfl
                  have u_8 := rg_e (m_X8_noList q li)
                  have k_9 : (0 : Int32).toInt = 0 := rfl
                  have v_10 := cv_eq c_1
                  have v_11 := nl_t hL c_1
                  have u_12 := rg_e (m_X8_placeOn q li r)
                  have u_13 := rg_e r
                  have k_15 : ((-1) : Int32).toInt = -1 := rfl
                  have v_16 := cv_ne c_3
                  have u_17 := rg_e (q.1 30 (Int32.toNatClampNeg li))
                  have v_18 := cv_eq c_5
                  have u_19 := rg_e (m_X8_hasRoom q 1)
                  have v_20 := cv_ne c_6
                  have v_21 := hr_t c_6
                  have u_22 := rg_e (q1.1 27 (Int32.toNatClampNeg li))
                  have v_23 := cv_nle c_11
                  have w_24 := hL.2.2.2.2.2
                  have w_25 := hI.2.2.2.1
                  have w_26 := hL.2.1 (Int32.toNatClampNeg li)
                  have w_27 := su_o (q.1 27 (Int32.toNatClampNeg li)) 1
                  have w_28 := (rfl : (1 : Int32).toInt = 1)
                  have w_29 := congrArg Int32.toInt i2.1
                  have w_30 := congrArg Int32.toInt i2.2.1
                  have w_31 := congrArg Int32.toInt i2.2.2
                  have w_32 := i1
                  have u_3 := mu_o 64 64 li rfl
                  have u_5 := ad_o (64 * li) k
                  have u_7 := ad_o ((64 * li) + k) 1
                  have u_14 := pl_rg hL li r
                  exact vp_in_iff.mpr (by omega)
                refine mm_iald (v := (q1.1 26 (Int32.toNatClampNeg (((64 * li) + k) + 1)))) hx hb hK hW 26 1024 rfl b_13 ((rfl)) dX8_strike_111 ?_
                have b_14 : vp_in ((64 * li) + k) 1024 := by
                  have k_1 : (64 : Int32).toInt = 64 := rfl
                  have u_2 := rg_e li
                  have u_4 := rg_e k
                  have u_6 := rg_e (m_X8_noList q li)
                  have k_7 : (0 : Int32).toInt = 0 := rfl
                  have v_8 := cv_eq c_1
                  have v_9 := nl_t hL c_1
                  have u_10 := rg_e (m_X8_placeOn q li r)
                  have u_11 := rg_e r
                  have k_13 : ((-1) : Int32).toInt = -1 := rfl
                  have v_14 := cv_ne c_3
                  have u_15 := rg_e (q.1 30 (Int32.toNatClampNeg li))
                  have v_16 := cv_eq c_5
                  have u_17 := rg_e (m_X8_hasRoom q 1)
                  have v_18 := cv_ne c_6
                  have k_19 : (1 : Int32).toInt = 1 := rfl
                  have v_20 := hr_t c_6
                  have u_21 := rg_e (q1.1 27 (Int32.toNatClampNeg li))
                  have v_22 := cv_nle c_11
                  have w_23 := hL.2.2.2.2.2
                  have w_24 := hI.2.2.2.1
                  have w_25 := hL.2.1 (Int32.toNatClampNeg li)
                  have w_26 := su_o (q.1 27 (Int32.toNatClampNeg li)) 1
                  have w_27 := (rfl : (1 : Int32).toInt = 1)
                  have w_28 := congrArg Int32.toInt i2.1
                  have w_29 := congrArg Int32.toInt i2.2.1
                  have w_30 := congrArg Int32.toInt i2.2.2
                  have w_31 := i1
                  have u_3 := mu_o 64 64 li rfl
                  have u_5 := ad_o (64 * li) k
                  have u_12 := pl_rg hL li r
                  exact vp_in_iff.mpr (by omega)
                refine mm_iast hx hb hK hW hS 26 1024 rfl b_14 dX8_strike_112 (fun H locs hW hS => ?_)
                refine lv_iinc (v := (k + 1)) (lv' := [(4, .int (k + 1)), (3, .int (m_X8_placeOn q li r)), (0, .ref (ad 20 0)), (1, .int li), (2, .int r)]) hx hb dX8_strike_113 hl (k := 0) rfl (by first | rfl | decide) (by decide) rfl (fun ls hl => ?_)
                refine lv_goto (tgt := 76) hx hb dX8_strike_116 (by decide) ?_
                have h_15 : 0 ≤ (k + 1).toInt ∧ (k + 1).toInt ≤ 64 := by
                  have u_1 := rg_e k
                  have k_2 : (1 : Int32).toInt = 1 := rfl
                  have u_4 := rg_e (m_X8_noList q li)
                  have k_5 : (0 : Int32).toInt = 0 := rfl
                  have v_6 := cv_eq c_1
                  have u_7 := rg_e li
                  have v_8 := nl_t hL c_1
                  have u_9 := rg_e (m_X8_placeOn q li r)
                  have u_10 := rg_e r
                  have k_12 : ((-1) : Int32).toInt = -1 := rfl
                  have v_13 := cv_ne c_3
                  have u_14 := rg_e (q.1 30 (Int32.toNatClampNeg li))
                  have v_15 := cv_eq c_5
                  have u_16 := rg_e (m_X8_hasRoom q 1)
                  have v_17 := cv_ne c_6
                  have v_18 := hr_t c_6
                  have u_19 := rg_e (q1.1 27 (Int32.toNatClampNeg li))
                  have v_20 := cv_nle c_11
                  have w_21 := hL.2.2.2.2.2
                  have w_22 := hI.2.2.2.1
                  have w_23 := hL.2.1 (Int32.toNatClampNeg li)
                  have w_24 := su_o (q.1 27 (Int32.toNatClampNeg li)) 1
                  have w_25 := (rfl : (1 : Int32).toInt = 1)
                  have w_26 := congrArg Int32.toInt i2.1
                  have w_27 := congrArg Int32.toInt i2.2.1
                  have w_28 := congrArg Int32.toInt i2.2.2
                  have w_29 := i1
                  have u_3 := ad_o k 1
                  have u_11 := pl_rg hL li r
                  omega
                have h_16 : (mq_i q1 26 (Int32.toNatClampNeg ((64 * li) + k)) (q1.1 26 (Int32.toNatClampNeg (((64 * li) + k) + 1)))).1 31 0 = q.1 31 0 ∧ (mq_i q1 26 (Int32.toNatClampNeg ((64 * li) + k)) (q1.1 26 (Int32.toNatClampNeg (((64 * li) + k) + 1)))).1 12 0 = q.1 12 0 ∧ (mq_i q1 26 (Int32.toNatClampNeg ((64 * li) + k)) (q1.1 26 (Int32.toNatClampNeg (((64 * li) + k) + 1)))).1 27 (Int32.toNatClampNeg li) = (q.1 27 (Int32.toNatClampNeg li)) - 1 := ⟨(mq_ne (by decide)).trans i2.1, (mq_ne (by decide)).trans i2.2.1, (mq_ne (by decide)).trans i2.2.2⟩
                have h_17 : 64 - (k + 1).toInt < (n : Int) := by
                  have u_1 := rg_e k
                  have k_2 : (1 : Int32).toInt = 1 := rfl
                  have u_4 := rg_e (m_X8_noList q li)
                  have k_5 : (0 : Int32).toInt = 0 := rfl
                  have v_6 := cv_eq c_1
                  have u_7 := rg_e li
                  have v_8 := nl_t hL c_1
                  have u_9 := rg_e (m_X8_placeOn q li r)
                  have u_10 := rg_e r
                  have k_12 : ((-1) : Int32).toInt = -1 := rfl
                  have v_13 := cv_ne c_3
                  have u_14 := rg_e (q.1 30 (Int32.toNatClampNeg li))
                  have v_15 := cv_eq c_5
                  have u_16 := rg_e (m_X8_hasRoom q 1)
                  have v_17 := cv_ne c_6
                  have v_18 := hr_t c_6
                  have u_19 := rg_e (q1.1 27 (Int32.toNatClampNeg li))
                  have v_20 := cv_nle c_11
                  have w_21 := hL.2.2.2.2.2
                  have w_22 := hI.2.2.2.1
                  have w_23 := hL.2.1 (Int32.toNatClampNeg li)
                  have w_24 := su_o (q.1 27 (Int32.toNatClampNeg li)) 1
                  have w_25 := (rfl : (1 : Int32).toInt = 1)
                  have w_26 := congrArg Int32.toInt i2.1
                  have w_27 := congrArg Int32.toInt i2.2.1
                  have w_28 := congrArg Int32.toInt i2.2.2
                  have w_29 := i1
                  have w_30 := hm
                  have u_3 := ad_o k 1
                  have u_11 := pl_rg hL li r
                  omega
                exact ih (k + 1) (mq_i q1 26 (Int32.toNatClampNeg ((64 * li) + k)) (q1.1 26 (Int32.toNatClampNeg (((64 * li) + k) + 1)))) h_15 h_16 h_17 (fun o_9 eo_9 => kk o_9 (eo_9.trans (by rw [m_X8_strike_lp, if_neg c_11]))) _ _ hW hS ls (lv_sub hl [0, 1, 2, 3, 4] rfl)
          have h_19 : 0 ≤ (m_X8_placeOn q li r).toInt ∧ (m_X8_placeOn q li r).toInt ≤ 64 := by
            have u_1 := rg_e (m_X8_placeOn q li r)
            have u_2 := rg_e li
            have u_3 := rg_e r
            have u_5 := rg_e (m_X8_noList q li)
            have k_6 : (0 : Int32).toInt = 0 := rfl
            have v_7 := cv_eq c_1
            have v_8 := nl_t hL c_1
            have k_9 : ((-1) : Int32).toInt = -1 := rfl
            have v_10 := cv_ne c_3
            have u_11 := rg_e (q.1 30 (Int32.toNatClampNeg li))
            have v_12 := cv_eq c_5
            have u_13 := rg_e (m_X8_hasRoom q 1)
            have v_14 := cv_ne c_6
            have k_15 : (1 : Int32).toInt = 1 := rfl
            have v_16 := hr_t c_6
            have w_17 := hL.2.2.2.2.2
            have w_18 := hI.2.2.2.1
            have w_19 := hL.2.1 (Int32.toNatClampNeg li)
            have w_20 := su_o (q.1 27 (Int32.toNatClampNeg li)) 1
            have w_21 := (rfl : (1 : Int32).toInt = 1)
            have u_4 := pl_rg hL li r
            omega
          have h_20 : (mq_i (mq_i q 0 0 0) 27 (Int32.toNatClampNeg li) ((q.1 27 (Int32.toNatClampNeg li)) - 1)).1 31 0 = q.1 31 0 ∧ (mq_i (mq_i q 0 0 0) 27 (Int32.toNatClampNeg li) ((q.1 27 (Int32.toNatClampNeg li)) - 1)).1 12 0 = q.1 12 0 ∧ (mq_i (mq_i q 0 0 0) 27 (Int32.toNatClampNeg li) ((q.1 27 (Int32.toNatClampNeg li)) - 1)).1 27 (Int32.toNatClampNeg li) = (q.1 27 (Int32.toNatClampNeg li)) - 1 := ⟨(mq_ne (by decide)).trans (mq_ne (by decide)), (mq_ne (by decide)).trans (mq_ne (by decide)), mq_same _ _ _ _⟩
          have h_21 : 64 - (m_X8_placeOn q li r).toInt < ((66 : Nat) : Int) := by
            have u_1 := rg_e (m_X8_placeOn q li r)
            have u_2 := rg_e li
            have u_3 := rg_e r
            have u_5 := rg_e (m_X8_noList q li)
            have k_6 : (0 : Int32).toInt = 0 := rfl
            have v_7 := cv_eq c_1
            have v_8 := nl_t hL c_1
            have k_9 : ((-1) : Int32).toInt = -1 := rfl
            have v_10 := cv_ne c_3
            have u_11 := rg_e (q.1 30 (Int32.toNatClampNeg li))
            have v_12 := cv_eq c_5
            have u_13 := rg_e (m_X8_hasRoom q 1)
            have v_14 := cv_ne c_6
            have k_15 : (1 : Int32).toInt = 1 := rfl
            have v_16 := hr_t c_6
            have w_17 := hL.2.2.2.2.2
            have w_18 := hI.2.2.2.1
            have w_19 := hL.2.1 (Int32.toNatClampNeg li)
            have w_20 := su_o (q.1 27 (Int32.toNatClampNeg li)) 1
            have w_21 := (rfl : (1 : Int32).toInt = 1)
            have u_4 := pl_rg hL li r
            omega
          refine lp_18 _ 66 (m_X8_placeOn q li r) (mq_i (mq_i q 0 0 0) 27 (Int32.toNatClampNeg li) ((q.1 27 (Int32.toNatClampNeg li)) - 1)) h_19 h_20 h_21 (fun o_9 eo_9 ho_9 H locs hW hS ls hl => ?_) _ _ hW hS ls (lv_sub hl [0, 1, 2, 3, 4] rfl)
          refine lv_aload_n hx hb dX8_strike_119 rfl (lv_at hl 1 rfl) ?_
          refine lv_bipush (v := 10) hx hb dX8_strike_120 (by decide) ?_
          refine lv_iload_n hx hb dX8_strike_122 rfl (lv_at hl 2 rfl) ?_
          refine lv_iload_n hx hb dX8_strike_123 rfl (lv_at hl 3 rfl) ?_
          refine lv_iconst (v := 0) hx hb dX8_strike_124 (by decide) ?_
          have h_22 : 0 ≤ (o_9.1 31 0).toInt ∧ (o_9.1 31 0).toInt ≤ 399 := by
            have k_1 : (10 : Int32).toInt = 10 := rfl
            have u_2 := rg_e li
            have u_3 := rg_e r
            have k_4 : (0 : Int32).toInt = 0 := rfl
            have u_5 := rg_e (m_X8_noList q li)
            have v_6 := cv_eq c_1
            have v_7 := nl_t hL c_1
            have u_8 := rg_e (m_X8_placeOn q li r)
            have k_10 : ((-1) : Int32).toInt = -1 := rfl
            have v_11 := cv_ne c_3
            have u_12 := rg_e (q.1 30 (Int32.toNatClampNeg li))
            have v_13 := cv_eq c_5
            have u_14 := rg_e (m_X8_hasRoom q 1)
            have v_15 := cv_ne c_6
            have k_16 : (1 : Int32).toInt = 1 := rfl
            have v_17 := hr_t c_6
            have w_18 := hL.2.2.2.2.2
            have w_19 := hI.2.2.2.1
            have w_20 := hL.2.1 (Int32.toNatClampNeg li)
            have w_21 := su_o (q.1 27 (Int32.toNatClampNeg li)) 1
            have w_22 := (rfl : (1 : Int32).toInt = 1)
            have w_23 := congrArg Int32.toInt ho_9.1
            have w_24 := congrArg Int32.toInt ho_9.2.1
            have w_25 := congrArg Int32.toInt ho_9.2.2
            have u_9 := pl_rg hL li r
            exact by omega
          have h_23 : 0 ≤ (o_9.1 12 0).toInt ∧ (o_9.1 12 0).toInt ≤ 64 := by
            have k_1 : (10 : Int32).toInt = 10 := rfl
            have u_2 := rg_e li
            have u_3 := rg_e r
            have k_4 : (0 : Int32).toInt = 0 := rfl
            have u_5 := rg_e (m_X8_noList q li)
            have v_6 := cv_eq c_1
            have v_7 := nl_t hL c_1
            have u_8 := rg_e (m_X8_placeOn q li r)
            have k_10 : ((-1) : Int32).toInt = -1 := rfl
            have v_11 := cv_ne c_3
            have u_12 := rg_e (q.1 30 (Int32.toNatClampNeg li))
            have v_13 := cv_eq c_5
            have u_14 := rg_e (m_X8_hasRoom q 1)
            have v_15 := cv_ne c_6
            have k_16 : (1 : Int32).toInt = 1 := rfl
            have v_17 := hr_t c_6
            have w_18 := hL.2.2.2.2.2
            have w_19 := hI.2.2.2.1
            have w_20 := hL.2.1 (Int32.toNatClampNeg li)
            have w_21 := su_o (q.1 27 (Int32.toNatClampNeg li)) 1
            have w_22 := (rfl : (1 : Int32).toInt = 1)
            have w_23 := congrArg Int32.toInt ho_9.1
            have w_24 := congrArg Int32.toInt ho_9.2.1
            have w_25 := congrArg Int32.toInt ho_9.2.2
            have u_9 := pl_rg hL li r
            exact by omega
          refine mm_callVv (n := 4) (As := [.int 10, .int li, .int r, .int 0]) (rest := []) (q2 := (m_X8_write o_9 10 li r 0)) ⟨hx, hb, hml, hown, hts⟩ (c_X8_write l D b0 Pc cA ad o_9 10 li r 0 h_22 h_23) gX8_strike_X8_write rfl (by decide +kernel) rfl ⟨Nat.le_of_ble_eq_true rfl, Nat.le_of_ble_eq_true rfl⟩ ⟨Nat.le_of_ble_eq_true rfl, Nat.le_of_ble_eq_true rfl⟩ hK hW hS hl.1 rfl (Nat.le_of_ble_eq_true rfl) dX8_strike_125 (fun H locs hW hS => ?_)
          refine lv_aload_n hx hb dX8_strike_128 rfl (lv_at hl 1 rfl) ?_
          refine mm_get (v := .ref (ad 21 27)) hx hb hts hin hown hK hW 27 (by decide) (List.mem_of_getElem? (i := 3) rfl) rfl rfl dX8_strike_129 ?_
          refine lv_iload_n hx hb dX8_strike_132 rfl (lv_at hl 2 rfl) ?_
          have b_24 : vp_in li 16 := by
            have u_1 := rg_e li
            have u_2 := rg_e (m_X8_noList q li)
            have k_3 : (0 : Int32).toInt = 0 := rfl
            have v_4 := cv_eq c_1
            have v_5 := nl_t hL c_1
            have u_6 := rg_e (m_X8_placeOn q li r)
            have u_7 := rg_e r
            have k_9 : ((-1) : Int32).toInt = -1 := rfl
            have v_10 := cv_ne c_3
            have u_11 := rg_e (q.1 30 (Int32.toNatClampNeg li))
            have v_12 := cv_eq c_5
            have u_13 := rg_e (m_X8_hasRoom q 1)
            have v_14 := cv_ne c_6
            have k_15 : (1 : Int32).toInt = 1 := rfl
            have v_16 := hr_t c_6
            have w_17 := hL.2.2.2.2.2
            have w_18 := hI.2.2.2.1
            have w_19 := hL.2.1 (Int32.toNatClampNeg li)
            have w_20 := su_o (q.1 27 (Int32.toNatClampNeg li)) 1
            have w_21 := (rfl : (1 : Int32).toInt = 1)
            have w_22 := congrArg Int32.toInt ho_9.1
            have w_23 := congrArg Int32.toInt ho_9.2.1
            have w_24 := congrArg Int32.toInt ho_9.2.2
            have u_8 := pl_rg hL li r
            exact vp_in_iff.mpr (by omega)
          refine mm_iald (v := ((m_X8_write o_9 10 li r 0).1 27 (Int32.toNatClampNeg li))) hx hb hK hW 27 16 rfl b_24 ((rfl)) dX8_strike_133 ?_
          exact mm_iret hx hb hr hlk hK hW hS (by rw [m_X8_strike, if_pos c_1, if_neg c_3, if_pos c_5, if_neg c_6, ← eo_9]) dX8_strike_134
        · refine lv_iconst (v := 2) hx hb dX8_strike_46 (by decide) ?_
          refine lv_goto (tgt := 51) hx hb dX8_strike_47 (by decide) ?_
          refine mm_put hx hb hts hin hown hK hW hS 0 (by decide) (List.mem_of_getElem? (i := 2) rfl) rfl rfl (by decide +kernel) rfl (ws_0 ad _ _) dX8_strike_51 (fun H locs hW hS => ?_)
          refine lv_aload_n hx hb dX8_strike_54 rfl (lv_at hl 1 rfl) ?_
          refine mm_gets (v := 2) hx hb hts hin hown hK hW 0 (by decide) (List.mem_of_getElem? (i := 2) rfl) rfl rfl (mq_same q 0 0 2) dX8_strike_55 ?_
          refine lv_if_le (tgt := 63) hx hb dX8_strike_58 (by decide) (fun h => absurd h (by decide)) (fun _ => ?_)
          refine lv_iconst (v := 0) hx hb dX8_strike_61 (by decide) ?_
          exact mm_iret hx hb hr hlk hK hW hS (by rw [m_X8_strike, if_pos c_1, if_neg c_3, if_pos c_5, if_pos c_6]) dX8_strike_62
    · refine lv_iconst (v := 1) hx hb dX8_strike_25 (by decide) ?_
      refine lv_goto (tgt := 51) hx hb dX8_strike_26 (by decide) ?_
      refine mm_put hx hb hts hin hown hK hW hS 0 (by decide) (List.mem_of_getElem? (i := 2) rfl) rfl rfl (by decide +kernel) rfl (ws_0 ad _ _) dX8_strike_51 (fun H locs hW hS => ?_)
      refine lv_aload_n hx hb dX8_strike_54 rfl (lv_at hl 1 rfl) ?_
      refine mm_gets (v := 1) hx hb hts hin hown hK hW 0 (by decide) (List.mem_of_getElem? (i := 2) rfl) rfl rfl (mq_same q 0 0 1) dX8_strike_55 ?_
      refine lv_if_le (tgt := 63) hx hb dX8_strike_58 (by decide) (fun h => absurd h (by decide)) (fun _ => ?_)
      refine lv_iconst (v := 0) hx hb dX8_strike_61 (by decide) ?_
      exact mm_iret hx hb hr hlk hK hW hS (by rw [m_X8_strike, if_pos c_1, if_pos c_3]) dX8_strike_62
  · refine lv_iconst (v := (-1)) hx hb dX8_strike_8 (by decide) ?_
    refine lv_goto (tgt := 18) hx hb dX8_strike_9 (by decide) ?_
    refine lv_istore_n (lv' := [(3, .int (-1)), (0, .ref (ad 20 0)), (1, .int li), (2, .int r)]) hx hb dX8_strike_18 rfl hl (by decide) rfl (fun ls hl => ?_)
    refine lv_aload_n hx hb dX8_strike_19 rfl (lv_at hl 1 rfl) ?_
    refine lv_iload_n hx hb dX8_strike_20 rfl (lv_at hl 0 rfl) ?_
    refine lv_iconst (v := (-1)) hx hb dX8_strike_21 (by decide) ?_
    refine lv_icmp_ne (tgt := 29) hx hb dX8_strike_22 (by decide) (fun h => absurd h (by decide)) (fun _ => ?_)
    refine lv_iconst (v := 1) hx hb dX8_strike_25 (by decide) ?_
    refine lv_goto (tgt := 51) hx hb dX8_strike_26 (by decide) ?_
    refine mm_put hx hb hts hin hown hK hW hS 0 (by decide) (List.mem_of_getElem? (i := 2) rfl) rfl rfl (by decide +kernel) rfl (ws_0 ad _ _) dX8_strike_51 (fun H locs hW hS => ?_)
    refine lv_aload_n hx hb dX8_strike_54 rfl (lv_at hl 1 rfl) ?_
    refine mm_gets (v := 1) hx hb hts hin hown hK hW 0 (by decide) (List.mem_of_getElem? (i := 2) rfl) rfl rfl (mq_same q 0 0 1) dX8_strike_55 ?_
    refine lv_if_le (tgt := 63) hx hb dX8_strike_58 (by decide) (fun h => absurd h (by decide)) (fun _ => ?_)
    refine lv_iconst (v := 0) hx hb dX8_strike_61 (by decide) ?_
    exact mm_iret hx hb hr hlk hK hW hS (by rw [m_X8_strike, if_neg c_1]) dX8_strike_62

def m_X8_draw_lp1 (q : qM) (officer : Int32) (day : Int32) : Nat → Int32 → Int32 → Int32
  | 0, _, _ => 0
  | n + 1, n9, r => (if (q.1 12 0) ≤ r then n9 else (m_X8_draw_lp1 q officer day n ((if (m_X8_mayGo q r day) = 0 then n9 else (n9 + 1)) : Int32) (r + 1)))
def m_X8_draw_lp2 (day : Int32) (dl : Int32) : Nat → Int32 → qM → qM
  | 0, _, q1 => q1
  | n + 1, r, q1 => (if (q1.1 12 0) ≤ r then q1 else (if (m_X8_mayGo q1 r day) = 0 then (m_X8_draw_lp2 day dl n (r + 1) q1) else (m_X8_draw_lp2 day dl n (r + 1) (mq_i (mq_i q1 26 (Int32.toNatClampNeg ((64 * dl) + (q1.1 27 (Int32.toNatClampNeg dl)))) r) 27 (Int32.toNatClampNeg dl) ((q1.1 27 (Int32.toNatClampNeg dl)) + 1)))))
def m_X8_draw (q : qM) (officer : Int32) (day : Int32) : Int32 × qM := (if (m_X8_noOfficer officer) = 0 then (if (m_X8_isDay q day) = 0 then (0, (mq_i q 0 0 2)) else (if (m_X8_hasRight q officer 1) = 0 then (0, (mq_i q 0 0 3)) else (if (m_X8_draw_lp1 q officer day 66 0 0) = 0 then (0, (mq_i q 0 0 3)) else (if (q.1 25 0) = 16 then (0, (mq_i q 0 0 3)) else (if (m_X8_hasRoom q 1) = 0 then (0, (mq_i q 0 0 3)) else ((q.1 25 0), (m_X8_write (mq_i (m_X8_draw_lp2 day (q.1 25 0) 66 0 (mq_i (mq_i (mq_i q 0 0 0) 25 0 ((q.1 25 0) + 1)) 28 (Int32.toNatClampNeg (q.1 25 0)) officer)) 3 0 day) 8 (q.1 25 0) day (m_X8_draw_lp1 q officer day 66 0 0)))))))) else (0, (mq_i q 0 0 1)))
set_option maxHeartbeats 4000000 in
set_option maxRecDepth 100000 in
theorem c_X8_draw (l : Launch) (D : va_G) (b0 : Nat) (Pc : Nat → Nat → Option va_E) (cA : Nat → ClassId) (ad : Nat → Nat → Nat) (q : qM) (officer : Int32) (day : Int32) (hI : gI q) (hL : lI q) : mc_i l yX8_draw wsX8_draw 5 116 D b0 Pc cA ad q [.ref (ad 20 0), .int officer, .int day] (m_X8_draw q officer day) := by
  refine mc_of (by decide) rfl (Nat.le_of_ble_eq_true rfl) ?_
  intro p e s m below meth c hx hb hml hr hlk hown hts hK hW ls hl
  have hown : s.vm.findClass RX8 = some m.cls := hown
  have hS : va_S (wA b0) s.heap s.heap [] := va_S.rf
  have hl : lv_has ls 6 [(0, .ref (ad 20 0)), (1, .int officer), (2, .int day)] := hl
  have hin : ∀ w ∈ wsX80, w ∈ wsX8_draw := fun w h => List.mem_cons_of_mem _ (List.mem_append_right _ h)
  refine lv_iconst (v := 0) hx hb dX8_draw_0 (by decide) ?_
  refine lv_istore_n (lv' := [(3, .int 0), (0, .ref (ad 20 0)), (1, .int officer), (2, .int day)]) hx hb dX8_draw_1 rfl hl (by decide) rfl (fun ls hl => ?_)
  refine lv_iconst (v := 0) hx hb dX8_draw_2 (by decide) ?_
  refine lv_istore (lv' := [(4, .int 0), (3, .int 0), (0, .ref (ad 20 0)), (1, .int officer), (2, .int day)]) hx hb dX8_draw_3 hl (by decide) rfl (fun ls hl => ?_)
  have lp_11 : ∀ (Q : State → Prop) (n : Nat) (n9 : Int32) (r : Int32), (0 ≤ r.toInt ∧ r.toInt ≤ 64 ∧ 0 ≤ n9.toInt ∧ n9.toInt ≤ r.toInt) → 64 - r.toInt < (n : Int) → (∀ o_1 : Int32, o_1 = (m_X8_draw_lp1 q officer day n n9 r) → (0 ≤ (o_1).toInt ∧ (o_1).toInt ≤ 64) → ∀ (H : Heap) (locs : List Loc), wd D (wA b0) (PW Pc cA ad q) ad H → va_S (wA b0) s.heap H locs → ∀ ls : Array Slot, lv_has ls 6 [(3, .int o_1), (0, .ref (ad 20 0)), (1, .int officer), (2, .int day)] → W p l e { frames := 5, cells := 0, slots := 0, locals := 116 } s m [.ref (ad 20 0), .int officer, .int day].toArray below meth c H locs 0 0 Q (F0 m 38 ls [])) → ∀ (H : Heap) (locs : List Loc), wd D (wA b0) (PW Pc cA ad q) ad H → va_S (wA b0) s.heap H locs → ∀ ls : Array Slot, lv_has ls 6 [(3, .int n9), (4, .int r), (0, .ref (ad 20 0)), (1, .int officer), (2, .int day)] → W p l e { frames := 5, cells := 0, slots := 0, locals := 116 } s m [.ref (ad 20 0), .int officer, .int day].toArray below meth c H locs 0 0 Q (F0 m 5 ls []) := by
    intro Q n
    induction n with
    | zero =>
      intro n9 r i1 hm
      have hz : 0 ≤ 64 - r.toInt := by
        have w_1 := hL.2.2.2.2.2
        have w_2 := hI.2.2.2.1
        have w_3 := hL.1
        have w_4 := hL.2.2.2.2.1 (Int32.toNatClampNeg (q.1 25 0))
        have w_5 := tn_e hL.1.1
        have w_6 := ad_o n9 1
        have w_7 := (rfl : (1 : Int32).toInt = 1)
        have w_8 := i1
        omega
      exact absurd hm (by omega)
    | succ n ih =>
      intro n9 r i1 hm kk H locs hW hS ls hl
      refine lv_iload hx hb dX8_draw_5 (lv_at hl 1 rfl) ?_
      refine lv_aload_n hx hb dX8_draw_7 rfl (lv_at hl 2 rfl) ?_
      refine mm_gets (v := (q.1 12 0)) hx hb hts hin hown hK hW 12 (by decide) (List.mem_of_getElem? (i := 1) rfl) rfl rfl (rfl) dX8_draw_8 ?_
      refine lv_icmp_ge (tgt := 38) hx hb dX8_draw_11 (by decide) (fun c_2 => ?_) (fun c_2 => ?_)
      · have h_3 : 0 ≤ (n9).toInt ∧ (n9).toInt ≤ 64 := by
          have u_1 := rg_e n9
          have u_2 := rg_e (q.1 12 0)
          have u_3 := rg_e r
          have v_4 := cv_le c_2
          have w_5 := hL.2.2.2.2.2
          have w_6 := hI.2.2.2.1
          have w_7 := hL.1
          have w_8 := hL.2.2.2.2.1 (Int32.toNatClampNeg (q.1 25 0))
          have w_9 := tn_e hL.1.1
          have w_10 := ad_o n9 1
          have w_11 := (rfl : (1 : Int32).toInt = 1)
          have w_12 := i1
          omega
        exact kk n9 (by rw [m_X8_draw_lp1, if_pos c_2]) h_3 H locs hW hS ls (lv_sub hl [0, 2, 3, 4] rfl)
      · refine jn_w (J := 31) (rest := []) (Wd := fun H locs => wd D (wA b0) (PW Pc cA ad q) ad H ∧ va_S (wA b0) s.heap H locs) ((if (m_X8_mayGo q r day) = 0 then n9 else (n9 + 1)) : Int32) ⟨hW, hS⟩ (fun H locs hWS => ?_) (fun hj => ?_)
        · obtain ⟨hW, hS⟩ := hWS
          have fj_8 : ∀ z : Int32, z = ((if (m_X8_mayGo q r day) = 0 then n9 else (n9 + 1)) : Int32) → z.toInt = (n9 : Int32).toInt ∨ z.toInt = ((n9 + 1) : Int32).toInt := by
            intro z hz
            rw [hz]
            repeat' split
            all_goals simp
          obtain ⟨j_8, ej_8⟩ : ∃ z : Int32, z = ((if (m_X8_mayGo q r day) = 0 then n9 else (n9 + 1)) : Int32) := ⟨_, rfl⟩
          rw [← ej_8]
          refine lv_istore_n (lv' := [(3, .int j_8), (4, .int r), (0, .ref (ad 20 0)), (1, .int officer), (2, .int day)]) hx hb dX8_draw_31 rfl hl (by decide) rfl (fun ls hl => ?_)
          refine lv_iinc (v := (r + 1)) (lv' := [(4, .int (r + 1)), (3, .int j_8), (0, .ref (ad 20 0)), (1, .int officer), (2, .int day)]) hx hb dX8_draw_32 hl (k := 1) rfl (by first | rfl | decide) (by decide) rfl (fun ls hl => ?_)
          refine lv_goto (tgt := 5) hx hb dX8_draw_35 (by decide) ?_
          have h_9 : 0 ≤ (r + 1).toInt ∧ (r + 1).toInt ≤ 64 ∧ 0 ≤ j_8.toInt ∧ j_8.toInt ≤ (r + 1).toInt := by
            have u_1 := rg_e j_8
            have u_2 := rg_e r
            have k_3 : (1 : Int32).toInt = 1 := rfl
            have u_5 := rg_e (q.1 12 0)
            have v_6 := cv_nle c_2
            have w_7 := hL.2.2.2.2.2
            have w_8 := hI.2.2.2.1
            have w_9 := hL.1
            have w_10 := hL.2.2.2.2.1 (Int32.toNatClampNeg (q.1 25 0))
            have w_11 := tn_e hL.1.1
            have w_12 := ad_o n9 1
            have w_13 := (rfl : (1 : Int32).toInt = 1)
            have w_14 := i1
            have w_15 := fj_8 j_8 ej_8
            have u_4 := ad_o r 1
            omega
          have h_10 : 64 - (r + 1).toInt < (n : Int) := by
            have u_1 := rg_e j_8
            have u_2 := rg_e r
            have k_3 : (1 : Int32).toInt = 1 := rfl
            have u_5 := rg_e (q.1 12 0)
            have v_6 := cv_nle c_2
            have w_7 := hL.2.2.2.2.2
            have w_8 := hI.2.2.2.1
            have w_9 := hL.1
            have w_10 := hL.2.2.2.2.1 (Int32.toNatClampNeg (q.1 25 0))
            have w_11 := tn_e hL.1.1
            have w_12 := ad_o n9 1
            have w_13 := (rfl : (1 : Int32).toInt = 1)
            have w_14 := i1
            have w_15 := fj_8 j_8 ej_8
            have w_16 := hm
            have u_4 := ad_o r 1
            omega
          exact ih j_8 (r + 1) h_9 h_10 (fun o_1 eo_1 => kk o_1 (eo_1.trans (by rw [m_X8_draw_lp1, if_neg c_2, ← ej_8]))) _ _ hW hS ls (lv_sub hl [1, 0, 2, 3, 4] rfl)
        · refine lv_aload_n hx hb dX8_draw_14 rfl (lv_at hl 2 rfl) ?_
          refine lv_iload hx hb dX8_draw_15 (lv_at hl 1 rfl) ?_
          refine lv_iload_n hx hb dX8_draw_17 rfl (lv_at hl 4 rfl) ?_
          have h_4 : 0 ≤ (r : Int32).toInt ∧ (r : Int32).toInt < (q.1 12 0).toInt := by
            have u_1 := rg_e r
            have u_2 := rg_e day
            have u_3 := rg_e (q.1 12 0)
            have v_4 := cv_nle c_2
            have w_5 := hL.2.2.2.2.2
            have w_6 := hI.2.2.2.1
            have w_7 := hL.1
            have w_8 := hL.2.2.2.2.1 (Int32.toNatClampNeg (q.1 25 0))
            have w_9 := tn_e hL.1.1
            have w_10 := ad_o n9 1
            have w_11 := (rfl : (1 : Int32).toInt = 1)
            have w_12 := i1
            exact by omega
          refine mm_callVi (n := 2) (As := [.int r, .int day]) (rest := []) (r := (m_X8_mayGo q r day)) (q2 := q) ⟨hx, hb, hml, hown, hts⟩ (c_X8_mayGo l D b0 Pc cA ad q r day h_4 hI) gX8_draw_X8_mayGo rfl (by decide +kernel) rfl ⟨Nat.le_of_ble_eq_true rfl, Nat.le_of_ble_eq_true rfl⟩ ⟨Nat.le_of_ble_eq_true rfl, Nat.le_of_ble_eq_true rfl⟩ hK hW hS hl.1 rfl (Nat.le_of_ble_eq_true rfl) dX8_draw_18 (fun H locs hW hS => ?_)
          refine lv_if_eq (tgt := 30) hx hb dX8_draw_21 (by decide) (fun c_5 => ?_) (fun c_5 => ?_)
          · refine lv_iload_n hx hb dX8_draw_30 rfl (lv_at hl 0 rfl) ?_
            have e_6 : ((if (m_X8_mayGo q r day) = 0 then n9 else (n9 + 1)) : Int32) = n9 := by rw [if_pos c_5]
            exact hj _ _ _ e_6 ⟨hW, hS⟩
          · refine lv_iload_n hx hb dX8_draw_24 rfl (lv_at hl 0 rfl) ?_
            refine lv_iconst (v := 1) hx hb dX8_draw_25 (by decide) ?_
            refine lv_iadd hx hb dX8_draw_26 ?_
            refine lv_goto (tgt := 31) hx hb dX8_draw_27 (by decide) ?_
            have e_7 : ((if (m_X8_mayGo q r day) = 0 then n9 else (n9 + 1)) : Int32) = (n9 + 1) := by rw [if_neg c_5]
            exact hj _ _ _ e_7 ⟨hW, hS⟩
  have h_12 : 0 ≤ (0 : Int32).toInt ∧ (0 : Int32).toInt ≤ 64 ∧ 0 ≤ (0 : Int32).toInt ∧ (0 : Int32).toInt ≤ (0 : Int32).toInt := by
    have k_1 : (0 : Int32).toInt = 0 := rfl
    have w_2 := hL.2.2.2.2.2
    have w_3 := hI.2.2.2.1
    have w_4 := hL.1
    have w_5 := hL.2.2.2.2.1 (Int32.toNatClampNeg (q.1 25 0))
    have w_6 := tn_e hL.1.1
    omega
  have h_13 : 64 - (0 : Int32).toInt < ((66 : Nat) : Int) := by
    have k_1 : (0 : Int32).toInt = 0 := rfl
    have w_2 := hL.2.2.2.2.2
    have w_3 := hI.2.2.2.1
    have w_4 := hL.1
    have w_5 := hL.2.2.2.2.1 (Int32.toNatClampNeg (q.1 25 0))
    have w_6 := tn_e hL.1.1
    omega
  refine lp_11 _ 66 0 0 h_12 h_13 (fun o_1 eo_1 ho_1 H locs hW hS ls hl => ?_) _ _ hW hS ls (lv_sub hl [1, 0, 2, 3, 4] rfl)
  refine lv_aload_n hx hb dX8_draw_38 rfl (lv_at hl 1 rfl) ?_
  refine lv_aload_n hx hb dX8_draw_39 rfl (lv_at hl 1 rfl) ?_
  refine lv_iload_n hx hb dX8_draw_40 rfl (lv_at hl 2 rfl) ?_
  refine mm_callVi (n := 1) (As := [.int officer]) (rest := [.ref (ad 20 0)]) (r := (m_X8_noOfficer officer)) (q2 := q) ⟨hx, hb, hml, hown, hts⟩ (c_X8_noOfficer l D b0 Pc cA ad q officer) gX8_draw_X8_noOfficer rfl (by decide +kernel) rfl ⟨Nat.le_of_ble_eq_true rfl, Nat.le_of_ble_eq_true rfl⟩ ⟨Nat.le_of_ble_eq_true rfl, Nat.le_of_ble_eq_true rfl⟩ hK hW hS hl.1 rfl (Nat.le_of_ble_eq_true rfl) dX8_draw_41 (fun H locs hW hS => ?_)
  refine lv_if_eq (tgt := 51) hx hb dX8_draw_44 (by decide) (fun c_14 => ?_) (fun c_14 => ?_)
  · refine lv_aload_n hx hb dX8_draw_51 rfl (lv_at hl 1 rfl) ?_
    refine lv_iload_n hx hb dX8_draw_52 rfl (lv_at hl 3 rfl) ?_
    refine mm_callVi (n := 1) (As := [.int day]) (rest := [.ref (ad 20 0)]) (r := (m_X8_isDay q day)) (q2 := q) ⟨hx, hb, hml, hown, hts⟩ (c_X8_isDay l D b0 Pc cA ad q day) gX8_draw_X8_isDay rfl (by decide +kernel) rfl ⟨Nat.le_of_ble_eq_true rfl, Nat.le_of_ble_eq_true rfl⟩ ⟨Nat.le_of_ble_eq_true rfl, Nat.le_of_ble_eq_true rfl⟩ hK hW hS hl.1 rfl (Nat.le_of_ble_eq_true rfl) dX8_draw_53 (fun H locs hW hS => ?_)
    refine lv_if_ne (tgt := 63) hx hb dX8_draw_56 (by decide) (fun c_15 => ?_) (fun c_15 => ?_)
    · refine lv_aload_n hx hb dX8_draw_63 rfl (lv_at hl 1 rfl) ?_
      refine lv_iload_n hx hb dX8_draw_64 rfl (lv_at hl 2 rfl) ?_
      refine lv_iconst (v := 1) hx hb dX8_draw_65 (by decide) ?_
      have h_16 : 0 ≤ (officer : Int32).toInt ∧ (officer : Int32).toInt ≤ 7 := by
        have u_1 := rg_e officer
        have k_2 : (1 : Int32).toInt = 1 := rfl
        have u_3 := rg_e (m_X8_noOfficer officer)
        have k_4 : (0 : Int32).toInt = 0 := rfl
        have v_5 := cv_eq c_14
        have v_6 := no_t c_14
        have u_7 := rg_e (m_X8_isDay q day)
        have v_8 := cv_ne c_15
        have u_9 := rg_e day
        have v_10 := dy_t c_15
        have w_11 := hL.2.2.2.2.2
        have w_12 := hI.2.2.2.1
        have w_13 := hL.1
        have w_14 := hL.2.2.2.2.1 (Int32.toNatClampNeg (q.1 25 0))
        have w_15 := tn_e hL.1.1
        have w_16 := ho_1
        exact by omega
      refine mm_callVi (n := 2) (As := [.int officer, .int 1]) (rest := [.ref (ad 20 0)]) (r := (m_X8_hasRight q officer 1)) (q2 := q) ⟨hx, hb, hml, hown, hts⟩ (c_X8_hasRight l D b0 Pc cA ad q officer 1 h_16) gX8_draw_X8_hasRight rfl (by decide +kernel) rfl ⟨Nat.le_of_ble_eq_true rfl, Nat.le_of_ble_eq_true rfl⟩ ⟨Nat.le_of_ble_eq_true rfl, Nat.le_of_ble_eq_true rfl⟩ hK hW hS hl.1 rfl (Nat.le_of_ble_eq_true rfl) dX8_draw_66 (fun H locs hW hS => ?_)
      refine lv_if_eq (tgt := 93) hx hb dX8_draw_69 (by decide) (fun c_17 => ?_) (fun c_17 => ?_)
      · refine lv_iconst (v := 3) hx hb dX8_draw_93 (by decide) ?_
        refine lv_goto (tgt := 98) hx hb dX8_draw_94 (by decide) ?_
        refine mm_put hx hb hts hin hown hK hW hS 0 (by decide) (List.mem_of_getElem? (i := 3) rfl) rfl rfl (by decide +kernel) rfl (ws_0 ad _ _) dX8_draw_98 (fun H locs hW hS => ?_)
        refine lv_aload_n hx hb dX8_draw_101 rfl (lv_at hl 1 rfl) ?_
        refine mm_gets (v := 3) hx hb hts hin hown hK hW 0 (by decide) (List.mem_of_getElem? (i := 3) rfl) rfl rfl (mq_same q 0 0 3) dX8_draw_102 ?_
        refine lv_if_le (tgt := 110) hx hb dX8_draw_105 (by decide) (fun h => absurd h (by decide)) (fun _ => ?_)
        refine lv_iconst (v := 0) hx hb dX8_draw_108 (by decide) ?_
        exact mm_iret hx hb hr hlk hK hW hS (by rw [m_X8_draw, ← eo_1, if_pos c_14, if_neg c_15, if_pos c_17]) dX8_draw_109
      · refine lv_iload_n hx hb dX8_draw_72 rfl (lv_at hl 0 rfl) ?_
        refine lv_if_eq (tgt := 93) hx hb dX8_draw_73 (by decide) (fun c_18 => ?_) (fun c_18 => ?_)
        · refine lv_iconst (v := 3) hx hb dX8_draw_93 (by decide) ?_
          refine lv_goto (tgt := 98) hx hb dX8_draw_94 (by decide) ?_
          refine mm_put hx hb hts hin hown hK hW hS 0 (by decide) (List.mem_of_getElem? (i := 3) rfl) rfl rfl (by decide +kernel) rfl (ws_0 ad _ _) dX8_draw_98 (fun H locs hW hS => ?_)
          refine lv_aload_n hx hb dX8_draw_101 rfl (lv_at hl 1 rfl) ?_
          refine mm_gets (v := 3) hx hb hts hin hown hK hW 0 (by decide) (List.mem_of_getElem? (i := 3) rfl) rfl rfl (mq_same q 0 0 3) dX8_draw_102 ?_
          refine lv_if_le (tgt := 110) hx hb dX8_draw_105 (by decide) (fun h => absurd h (by decide)) (fun _ => ?_)
          refine lv_iconst (v := 0) hx hb dX8_draw_108 (by decide) ?_
          exact mm_iret hx hb hr hlk hK hW hS (by rw [m_X8_draw, ← eo_1, if_pos c_14, if_neg c_15, if_neg c_17, if_pos c_18]) dX8_draw_109
        · refine lv_aload_n hx hb dX8_draw_76 rfl (lv_at hl 1 rfl) ?_
          refine mm_gets (v := (q.1 25 0)) hx hb hts hin hown hK hW 25 (by decide) (List.mem_of_getElem? (i := 2) rfl) rfl rfl (rfl) dX8_draw_77 ?_
          refine lv_bipush (v := 16) hx hb dX8_draw_80 (by decide) ?_
          refine lv_icmp_eq (tgt := 93) hx hb dX8_draw_82 (by decide) (fun c_19 => ?_) (fun c_19 => ?_)
          · refine lv_iconst (v := 3) hx hb dX8_draw_93 (by decide) ?_
            refine lv_goto (tgt := 98) hx hb dX8_draw_94 (by decide) ?_
            refine mm_put hx hb hts hin hown hK hW hS 0 (by decide) (List.mem_of_getElem? (i := 3) rfl) rfl rfl (by decide +kernel) rfl (ws_0 ad _ _) dX8_draw_98 (fun H locs hW hS => ?_)
            refine lv_aload_n hx hb dX8_draw_101 rfl (lv_at hl 1 rfl) ?_
            refine mm_gets (v := 3) hx hb hts hin hown hK hW 0 (by decide) (List.mem_of_getElem? (i := 3) rfl) rfl rfl (mq_same q 0 0 3) dX8_draw_102 ?_
            refine lv_if_le (tgt := 110) hx hb dX8_draw_105 (by decide) (fun h => absurd h (by decide)) (fun _ => ?_)
            refine lv_iconst (v := 0) hx hb dX8_draw_108 (by decide) ?_
            exact mm_iret hx hb hr hlk hK hW hS (by rw [m_X8_draw, ← eo_1, if_pos c_14, if_neg c_15, if_neg c_17, if_neg c_18, if_pos c_19]) dX8_draw_109
          · refine lv_aload_n hx hb dX8_draw_85 rfl (lv_at hl 1 rfl) ?_
            refine lv_iconst (v := 1) hx hb dX8_draw_86 (by decide) ?_
            refine mm_callVi (n := 1) (As := [.int 1]) (rest := [.ref (ad 20 0)]) (r := (m_X8_hasRoom q 1)) (q2 := q) ⟨hx, hb, hml, hown, hts⟩ (c_X8_hasRoom l D b0 Pc cA ad q 1) gX8_draw_X8_hasRoom rfl (by decide +kernel) rfl ⟨Nat.le_of_ble_eq_true rfl, Nat.le_of_ble_eq_true rfl⟩ ⟨Nat.le_of_ble_eq_true rfl, Nat.le_of_ble_eq_true rfl⟩ hK hW hS hl.1 rfl (Nat.le_of_ble_eq_true rfl) dX8_draw_87 (fun H locs hW hS => ?_)
            refine lv_if_ne (tgt := 97) hx hb dX8_draw_90 (by decide) (fun c_20 => ?_) (fun c_20 => ?_)
            · refine lv_iconst (v := 0) hx hb dX8_draw_97 (by decide) ?_
              refine mm_put hx hb hts hin hown hK hW hS 0 (by decide) (List.mem_of_getElem? (i := 3) rfl) rfl rfl (by decide +kernel) rfl (ws_0 ad _ _) dX8_draw_98 (fun H locs hW hS => ?_)
              refine lv_aload_n hx hb dX8_draw_101 rfl (lv_at hl 1 rfl) ?_
              refine mm_gets (v := 0) hx hb hts hin hown hK hW 0 (by decide) (List.mem_of_getElem? (i := 3) rfl) rfl rfl (mq_same q 0 0 0) dX8_draw_102 ?_
              refine lv_if_le (tgt := 110) hx hb dX8_draw_105 (by decide) (fun _ => ?_) (fun h => absurd h (by decide))
              refine lv_aload_n hx hb dX8_draw_110 rfl (lv_at hl 1 rfl) ?_
              refine mm_gets (v := (q.1 25 0)) hx hb hts hin hown hK hW 25 (by decide) (List.mem_of_getElem? (i := 2) rfl) rfl rfl (mq_ne (by decide)) dX8_draw_111 ?_
              refine lv_istore (lv' := [(4, .int (q.1 25 0)), (3, .int o_1), (0, .ref (ad 20 0)), (1, .int officer), (2, .int day)]) hx hb dX8_draw_114 hl (by decide) rfl (fun ls hl => ?_)
              refine lv_aload_n hx hb dX8_draw_116 rfl (lv_at hl 2 rfl) ?_
              refine lv_dup hx hb dX8_draw_117 rfl ?_
              refine mm_gets (v := (q.1 25 0)) hx hb hts hin hown hK hW 25 (by decide) (List.mem_of_getElem? (i := 2) rfl) rfl rfl (mq_ne (by decide)) dX8_draw_118 ?_
              refine lv_iconst (v := 1) hx hb dX8_draw_121 (by decide) ?_
              refine lv_iadd hx hb dX8_draw_122 ?_
              refine mm_put hx hb hts hin hown hK hW hS 25 (by decide) (List.mem_of_getElem? (i := 2) rfl) rfl rfl (by decide +kernel) rfl (ws_25 ad _ _) dX8_draw_123 (fun H locs hW hS => ?_)
              refine lv_aload_n hx hb dX8_draw_126 rfl (lv_at hl 2 rfl) ?_
              refine mm_get (v := .ref (ad 21 28)) hx hb hts hin hown hK hW 28 (by decide) (List.mem_of_getElem? (i := 4) rfl) rfl rfl dX8_draw_127 ?_
              refine lv_iload hx hb dX8_draw_130 (lv_at hl 0 rfl) ?_
              refine lv_iload_n hx hb dX8_draw_132 rfl (lv_at hl 3 rfl) ?_
              have b_21 : vp_in (q.1 25 0) 16 := by
                have u_1 := rg_e (q.1 25 0)
                have u_2 := rg_e (m_X8_noOfficer officer)
                have k_3 : (0 : Int32).toInt = 0 := rfl
                have v_4 := cv_eq c_14
                have u_5 := rg_e officer
                have v_6 := no_t c_14
                have u_7 := rg_e (m_X8_isDay q day)
                have v_8 := cv_ne c_15
                have u_9 := rg_e day
                have v_10 := dy_t c_15
                have u_11 := rg_e (m_X8_hasRight q officer 1)
                have v_12 := cv_ne c_17
                have u_13 := rg_e o_1
                have v_14 := cv_ne c_18
                have k_15 : (16 : Int32).toInt = 16 := rfl
                have v_16 := cv_ne c_19
                have u_17 := rg_e (m_X8_hasRoom q 1)
                have v_18 := cv_ne c_20
                have k_19 : (1 : Int32).toInt = 1 := rfl
                have v_20 := hr_t c_20
                have w_21 := hL.2.2.2.2.2
                have w_22 := hI.2.2.2.1
                have w_23 := hL.1
                have w_24 := hL.2.2.2.2.1 (Int32.toNatClampNeg (q.1 25 0))
                have w_25 := tn_e hL.1.1
                have w_26 := ho_1
                exact vp_in_iff.mpr (by omega)
              refine mm_iast hx hb hK hW hS 28 16 rfl b_21 dX8_draw_133 (fun H locs hW hS => ?_)
              refine lv_iconst (v := 0) hx hb dX8_draw_134 (by decide) ?_
              refine lv_istore (lv' := [(5, .int 0), (4, .int (q.1 25 0)), (3, .int o_1), (0, .ref (ad 20 0)), (1, .int officer), (2, .int day)]) hx hb dX8_draw_135 hl (by decide) rfl (fun ls hl => ?_)
              have lp_41 : ∀ (Q : State → Prop) (n : Nat) (r : Int32) (q1 : qM), (0 ≤ r.toInt ∧ r.toInt ≤ 64) → (gI q1) → (q1.1 12 0 = q.1 12 0 ∧ q1.1 31 0 = q.1 31 0) → (0 ≤ (q1.1 27 (Int32.toNatClampNeg (q.1 25 0))).toInt ∧ (q1.1 27 (Int32.toNatClampNeg (q.1 25 0))).toInt ≤ r.toInt) → 64 - r.toInt < (n : Int) → (∀ o_22 : qM, o_22 = (m_X8_draw_lp2 day (q.1 25 0) n r q1) → ((o_22).1 12 0 = q.1 12 0 ∧ (o_22).1 31 0 = q.1 31 0) → ∀ (H : Heap) (locs : List Loc), wd D (wA b0) (PW Pc cA ad o_22) ad H → va_S (wA b0) s.heap H locs → ∀ ls : Array Slot, lv_has ls 6 [(4, .int (q.1 25 0)), (3, .int o_1), (0, .ref (ad 20 0)), (1, .int officer), (2, .int day)] → W p l e { frames := 5, cells := 0, slots := 0, locals := 116 } s m [.ref (ad 20 0), .int officer, .int day].toArray below meth c H locs 0 0 Q (F0 m 193 ls [])) → ∀ (H : Heap) (locs : List Loc), wd D (wA b0) (PW Pc cA ad q1) ad H → va_S (wA b0) s.heap H locs → ∀ ls : Array Slot, lv_has ls 6 [(5, .int r), (4, .int (q.1 25 0)), (3, .int o_1), (0, .ref (ad 20 0)), (1, .int officer), (2, .int day)] → W p l e { frames := 5, cells := 0, slots := 0, locals := 116 } s m [.ref (ad 20 0), .int officer, .int day].toArray below meth c H locs 0 0 Q (F0 m 137 ls []) := by
                intro Q n
                induction n with
                | zero =>
                  intro r q1 i1 i2 i3 i4 hm
                  have hz : 0 ≤ 64 - r.toInt := by
                    have w_1 := hL.2.2.2.2.2
                    have w_2 := hI.2.2.2.1
                    have w_3 := hL.1
                    have w_4 := hL.2.2.2.2.1 (Int32.toNatClampNeg (q.1 25 0))
                    have w_5 := tn_e hL.1.1
                    have w_6 := ho_1
                    have w_7 := congrArg Int32.toInt i3.1
                    have w_8 := congrArg Int32.toInt i3.2
                    have w_9 := i2.2.2.2.1
                    have w_10 := (rfl : (1 : Int32).toInt = 1)
                    have w_11 := i1
                    have w_12 := i4
                    omega
                  exact absurd hm (by omega)
                | succ n ih =>
                  intro r q1 i1 i2 i3 i4 hm kk H locs hW hS ls hl
                  refine lv_iload hx hb dX8_draw_137 (lv_at hl 0 rfl) ?_
                  refine lv_aload_n hx hb dX8_draw_139 rfl (lv_at hl 3 rfl) ?_
                  refine mm_gets (v := (q1.1 12 0)) hx hb hts hin hown hK hW 12 (by decide) (List.mem_of_getElem? (i := 1) rfl) rfl rfl (rfl) dX8_draw_140 ?_
                  refine lv_icmp_ge (tgt := 193) hx hb dX8_draw_143 (by decide) (fun c_23 => ?_) (fun c_23 => ?_)
                  · have h_24 : (q1).1 12 0 = q.1 12 0 ∧ (q1).1 31 0 = q.1 31 0 := i3
                    exact kk q1 (by rw [m_X8_draw_lp2, if_pos c_23]) h_24 H locs hW hS ls (lv_sub hl [1, 2, 3, 4, 5] rfl)
                  · refine lv_aload_n hx hb dX8_draw_146 rfl (lv_at hl 3 rfl) ?_
                    refine lv_iload hx hb dX8_draw_147 (lv_at hl 0 rfl) ?_
                    refine lv_iload_n hx hb dX8_draw_149 rfl (lv_at hl 5 rfl) ?_
                    have h_25 : 0 ≤ (r : Int32).toInt ∧ (r : Int32).toInt < (q1.1 12 0).toInt := by
                      have u_1 := rg_e r
                      have u_2 := rg_e day
                      have u_3 := rg_e (m_X8_noOfficer officer)
                      have k_4 : (0 : Int32).toInt = 0 := rfl
                      have v_5 := cv_eq c_14
                      have u_6 := rg_e officer
                      have v_7 := no_t c_14
                      have u_8 := rg_e (m_X8_isDay q day)
                      have v_9 := cv_ne c_15
                      have v_10 := dy_t c_15
                      have u_11 := rg_e (m_X8_hasRight q officer 1)
                      have v_12 := cv_ne c_17
                      have u_13 := rg_e o_1
                      have v_14 := cv_ne c_18
                      have u_15 := rg_e (q.1 25 0)
                      have k_16 : (16 : Int32).toInt = 16 := rfl
                      have v_17 := cv_ne c_19
                      have u_18 := rg_e (m_X8_hasRoom q 1)
                      have v_19 := cv_ne c_20
                      have k_20 : (1 : Int32).toInt = 1 := rfl
                      have v_21 := hr_t c_20
                      have u_22 := rg_e (q1.1 12 0)
                      have v_23 := cv_nle c_23
                      have w_24 := hL.2.2.2.2.2
                      have w_25 := hI.2.2.2.1
                      have w_26 := hL.1
                      have w_27 := hL.2.2.2.2.1 (Int32.toNatClampNeg (q.1 25 0))
                      have w_28 := tn_e hL.1.1
                      have w_29 := ho_1
                      have w_30 := congrArg Int32.toInt i3.1
                      have w_31 := congrArg Int32.toInt i3.2
                      have w_32 := i2.2.2.2.1
                      have w_33 := (rfl : (1 : Int32).toInt = 1)
                      have w_34 := i1
                      have w_35 := i4
                      exact by omega
                    refine mm_callVi (n := 2) (As := [.int r, .int day]) (rest := []) (r := (m_X8_mayGo q1 r day)) (q2 := q1) ⟨hx, hb, hml, hown, hts⟩ (c_X8_mayGo l D b0 Pc cA ad q1 r day h_25 i2) gX8_draw_X8_mayGo rfl (by decide +kernel) rfl ⟨Nat.le_of_ble_eq_true rfl, Nat.le_of_ble_eq_true rfl⟩ ⟨Nat.le_of_ble_eq_true rfl, Nat.le_of_ble_eq_true rfl⟩ hK hW hS hl.1 rfl (Nat.le_of_ble_eq_true rfl) dX8_draw_150 (fun H locs hW hS => ?_)
                    refine lv_if_eq (tgt := 187) hx hb dX8_draw_153 (by decide) (fun c_26 => ?_) (fun c_26 => ?_)
                    · refine lv_iinc (v := (r + 1)) (lv' := [(5, .int (r + 1)), (4, .int (q.1 25 0)), (3, .int o_1), (0, .ref (ad 20 0)), (1, .int officer), (2, .int day)]) hx hb dX8_draw_187 hl (k := 0) rfl (by first | rfl | decide) (by decide) rfl (fun ls hl => ?_)
                      refine lv_goto (tgt := 137) hx hb dX8_draw_190 (by decide) ?_
                      have h_27 : 0 ≤ (r + 1).toInt ∧ (r + 1).toInt ≤ 64 := by
                        have u_1 := rg_e r
                        have k_2 : (1 : Int32).toInt = 1 := rfl
                        have u_4 := rg_e (m_X8_noOfficer officer)
                        have k_5 : (0 : Int32).toInt = 0 := rfl
                        have v_6 := cv_eq c_14
                        have u_7 := rg_e officer
                        have v_8 := no_t c_14
                        have u_9 := rg_e (m_X8_isDay q day)
                        have v_10 := cv_ne c_15
                        have u_11 := rg_e day
                        have v_12 := dy_t c_15
                        have u_13 := rg_e (m_X8_hasRight q officer 1)
                        have v_14 := cv_ne c_17
                        have u_15 := rg_e o_1
                        have v_16 := cv_ne c_18
                        have u_17 := rg_e (q.1 25 0)
                        have k_18 : (16 : Int32).toInt = 16 := rfl
                        have v_19 := cv_ne c_19
                        have u_20 := rg_e (m_X8_hasRoom q 1)
                        have v_21 := cv_ne c_20
                        have v_22 := hr_t c_20
                        have u_23 := rg_e (q1.1 12 0)
                        have v_24 := cv_nle c_23
                        have u_25 := rg_e (m_X8_mayGo q1 r day)
                        have v_26 := cv_eq c_26
                        have w_27 := hL.2.2.2.2.2
                        have w_28 := hI.2.2.2.1
                        have w_29 := hL.1
                        have w_30 := hL.2.2.2.2.1 (Int32.toNatClampNeg (q.1 25 0))
                        have w_31 := tn_e hL.1.1
                        have w_32 := ho_1
                        have w_33 := congrArg Int32.toInt i3.1
                        have w_34 := congrArg Int32.toInt i3.2
                        have w_35 := i2.2.2.2.1
                        have w_36 := (rfl : (1 : Int32).toInt = 1)
                        have w_37 := i1
                        have w_38 := i4
                        have u_3 := ad_o r 1
                        omega
                      have h_28 : gI q1 := i2
                      have h_29 : q1.1 12 0 = q.1 12 0 ∧ q1.1 31 0 = q.1 31 0 := i3
                      have h_30 : 0 ≤ (q1.1 27 (Int32.toNatClampNeg (q.1 25 0))).toInt ∧ (q1.1 27 (Int32.toNatClampNeg (q.1 25 0))).toInt ≤ (r + 1).toInt := by
                        have u_1 := rg_e r
                        have k_2 : (1 : Int32).toInt = 1 := rfl
                        have u_4 := rg_e (m_X8_noOfficer officer)
                        have k_5 : (0 : Int32).toInt = 0 := rfl
                        have v_6 := cv_eq c_14
                        have u_7 := rg_e officer
                        have v_8 := no_t c_14
                        have u_9 := rg_e (m_X8_isDay q day)
                        have v_10 := cv_ne c_15
                        have u_11 := rg_e day
                        have v_12 := dy_t c_15
                        have u_13 := rg_e (m_X8_hasRight q officer 1)
                        have v_14 := cv_ne c_17
                        have u_15 := rg_e o_1
                        have v_16 := cv_ne c_18
                        have u_17 := rg_e (q.1 25 0)
                        have k_18 : (16 : Int32).toInt = 16 := rfl
                        have v_19 := cv_ne c_19
                        have u_20 := rg_e (m_X8_hasRoom q 1)
                        have v_21 := cv_ne c_20
                        have v_22 := hr_t c_20
                        have u_23 := rg_e (q1.1 12 0)
                        have v_24 := cv_nle c_23
                        have u_25 := rg_e (m_X8_mayGo q1 r day)
                        have v_26 := cv_eq c_26
                        have w_27 := hL.2.2.2.2.2
                        have w_28 := hI.2.2.2.1
                        have w_29 := hL.1
                        have w_30 := hL.2.2.2.2.1 (Int32.toNatClampNeg (q.1 25 0))
                        have w_31 := tn_e hL.1.1
                        have w_32 := ho_1
                        have w_33 := congrArg Int32.toInt i3.1
                        have w_34 := congrArg Int32.toInt i3.2
                        have w_35 := i2.2.2.2.1
                        have w_36 := (rfl : (1 : Int32).toInt = 1)
                        have w_37 := i1
                        have w_38 := i4
                        have u_3 := ad_o r 1
                        omega
                      have h_31 : 64 - (r + 1).toInt < (n : Int) := by
                        have u_1 := rg_e r
                        have k_2 : (1 : Int32).toInt = 1 := rfl
                        have u_4 := rg_e (m_X8_noOfficer officer)
                        have k_5 : (0 : Int32).toInt = 0 := rfl
                        have v_6 := cv_eq c_14
                        have u_7 := rg_e officer
                        have v_8 := no_t c_14
                        have u_9 := rg_e (m_X8_isDay q day)
                        have v_10 := cv_ne c_15
                        have u_11 := rg_e day
                        have v_12 := dy_t c_15
                        have u_13 := rg_e (m_X8_hasRight q officer 1)
                        have v_14 := cv_ne c_17
                        have u_15 := rg_e o_1
                        have v_16 := cv_ne c_18
                        have u_17 := rg_e (q.1 25 0)
                        have k_18 : (16 : Int32).toInt = 16 := rfl
                        have v_19 := cv_ne c_19
                        have u_20 := rg_e (m_X8_hasRoom q 1)
                        have v_21 := cv_ne c_20
                        have v_22 := hr_t c_20
                        have u_23 := rg_e (q1.1 12 0)
                        have v_24 := cv_nle c_23
                        have u_25 := rg_e (m_X8_mayGo q1 r day)
                        have v_26 := cv_eq c_26
                        have w_27 := hL.2.2.2.2.2
                        have w_28 := hI.2.2.2.1
                        have w_29 := hL.1
                        have w_30 := hL.2.2.2.2.1 (Int32.toNatClampNeg (q.1 25 0))
                        have w_31 := tn_e hL.1.1
                        have w_32 := ho_1
                        have w_33 := congrArg Int32.toInt i3.1
                        have w_34 := congrArg Int32.toInt i3.2
                        have w_35 := i2.2.2.2.1
                        have w_36 := (rfl : (1 : Int32).toInt = 1)
                        have w_37 := i1
                        have w_38 := i4
                        have w_39 := hm
                        have u_3 := ad_o r 1
                        omega
                      exact ih (r + 1) q1 h_27 h_28 h_29 h_30 h_31 (fun o_22 eo_22 => kk o_22 (eo_22.trans (by rw [m_X8_draw_lp2, if_neg c_23, if_pos c_26]))) _ _ hW hS ls (lv_sub hl [0, 1, 2, 3, 4, 5] rfl)
                    · refine lv_aload_n hx hb dX8_draw_156 rfl (lv_at hl 3 rfl) ?_
                      refine mm_get (v := .ref (ad 21 26)) hx hb hts hin hown hK hW 26 (by decide) (List.mem_of_getElem? (i := 5) rfl) rfl rfl dX8_draw_157 ?_
                      refine lv_bipush (v := 64) hx hb dX8_draw_160 (by decide) ?_
                      refine lv_iload hx hb dX8_draw_162 (lv_at hl 1 rfl) ?_
                      refine lv_imul hx hb dX8_draw_164 ?_
                      refine lv_aload_n hx hb dX8_draw_165 rfl (lv_at hl 3 rfl) ?_
                      refine mm_get (v := .ref (ad 21 27)) hx hb hts hin hown hK hW 27 (by decide) (List.mem_of_getElem? (i := 6) rfl) rfl rfl dX8_draw_166 ?_
                      refine lv_iload hx hb dX8_draw_169 (lv_at hl 1 rfl) ?_
                      have b_32 : vp_in (q.1 25 0) 16 := by
                        have u_1 := rg_e (q.1 25 0)
                        have u_2 := rg_e (m_X8_noOfficer officer)
                        have k_3 : (0 : Int32).toInt = 0 := rfl
                        have v_4 := cv_eq c_14
                        have u_5 := rg_e officer
                        have v_6 := no_t c_14
                        have u_7 := rg_e (m_X8_isDay q day)
                        have v_8 := cv_ne c_15
                        have u_9 := rg_e day
                        have v_10 := dy_t c_15
                        have u_11 := rg_e (m_X8_hasRight q officer 1)
                        have v_12 := cv_ne c_17
                        have u_13 := rg_e o_1
                        have v_14 := cv_ne c_18
                        have k_15 : (16 : Int32).toInt = 16 := rfl
                        have v_16 := cv_ne c_19
                        have u_17 := rg_e (m_X8_hasRoom q 1)
                        have v_18 := cv_ne c_20
                        have k_19 : (1 : Int32).toInt = 1 := rfl
                        have v_20 := hr_t c_20
                        have u_21 := rg_e (q1.1 12 0)
                        have u_22 := rg_e r
                        have v_23 := cv_nle c_23
                        have u_24 := rg_e (m_X8_mayGo q1 r day)
                        have v_25 := cv_ne c_26
                        have w_26 := hL.2.2.2.2.2
                        have w_27 := hI.2.2.2.1
                        have w_28 := hL.1
                        have w_29 := hL.2.2.2.2.1 (Int32.toNatClampNeg (q.1 25 0))
                        have w_30 := tn_e hL.1.1
                        have w_31 := ho_1
                        have w_32 := congrArg Int32.toInt i3.1
                        have w_33 := congrArg Int32.toInt i3.2
                        have w_34 := i2.2.2.2.1
                        have w_35 := (rfl : (1 : Int32).toInt = 1)
                        have w_36 := i1
                        have w_37 := i4
                        exact vp_in_iff.mpr (by omega)
                      refine mm_iald (v := (q1.1 27 (Int32.toNatClampNeg (q.1 25 0)))) hx hb hK hW 27 16 rfl b_32 ((rfl)) dX8_draw_171 ?_
                      refine lv_iadd hx hb dX8_draw_172 ?_
                      refine lv_iload hx hb dX8_draw_173 (lv_at hl 0 rfl) ?_
                      have b_33 : vp_in ((64 * (q.1 25 0)) + (q1.1 27 (Int32.toNatClampNeg (q.1 25 0)))) 1024 := by
                        have k_1 : (64 : Int32).toInt = 64 := rfl
                        have u_2 := rg_e (q.1 25 0)
                        have u_4 := rg_e (q1.1 27 (Int32.toNatClampNeg (q.1 25 0)))
                        have u_6 := rg_e (m_X8_noOfficer officer)
                        have k_7 : (0 : Int32).toInt = 0 := rfl
                        have v_8 := cv_eq c_14
                        have u_9 := rg_e officer
                        have v_10 := no_t c_14
                        have u_11 := rg_e (m_X8_isDay q day)
                        have v_12 := cv_ne c_15
                        have u_13 := rg_e day
                        have v_14 := dy_t c_15
                        have u_15 := rg_e (m_X8_hasRight q officer 1)
                        have v_16 := cv_ne c_17
                        have u_17 := rg_e o_1
                        have v_18 := cv_ne c_18
                        have k_19 : (16 : Int32).toInt = 16 := rfl
                        have v_20 := cv_ne c_19
                        have u_21 := rg_e (m_X8_hasRoom q 1)
                        have v_22 := cv_ne c_20
                        have k_23 : (1 : Int32).toInt = 1 := rfl
                        have v_24 := hr_t c_20
                        have u_25 := rg_e (q1.1 12 0)
                        have u_26 := rg_e r
                        have v_27 := cv_nle c_23
                        have u_28 := rg_e (m_X8_mayGo q1 r day)
                        have v_29 := cv_ne c_26
                        have w_30 := hL.2.2.2.2.2
                        have w_31 := hI.2.2.2.1
                        have w_32 := hL.1
                        have w_33 := hL.2.2.2.2.1 (Int32.toNatClampNeg (q.1 25 0))
                        have w_34 := tn_e hL.1.1
                        have w_35 := ho_1
                        have w_36 := congrArg Int32.toInt i3.1
                        have w_37 := congrArg Int32.toInt i3.2
                        have w_38 := i2.2.2.2.1
                        have w_39 := (rfl : (1 : Int32).toInt = 1)
                        have w_40 := i1
                        have w_41 := i4
                        have u_3 := mu_o 64 64 (q.1 25 0) rfl
                        have u_5 := ad_o (64 * (q.1 25 0)) (q1.1 27 (Int32.toNatClampNeg (q.1 25 0)))
                        exact vp_in_iff.mpr (by omega)
                      refine mm_iast hx hb hK hW hS 26 1024 rfl b_33 dX8_draw_175 (fun H locs hW hS => ?_)
                      refine lv_aload_n hx hb dX8_draw_176 rfl (lv_at hl 3 rfl) ?_
                      refine mm_get (v := .ref (ad 21 27)) hx hb hts hin hown hK hW 27 (by decide) (List.mem_of_getElem? (i := 6) rfl) rfl rfl dX8_draw_177 ?_
                      refine lv_iload hx hb dX8_draw_180 (lv_at hl 1 rfl) ?_
                      refine lv_dup2_11 hx hb dX8_draw_182 rfl rfl ?_
                      have b_34 : vp_in (q.1 25 0) 16 := by
                        have u_1 := rg_e (q.1 25 0)
                        have u_2 := rg_e (m_X8_noOfficer officer)
                        have k_3 : (0 : Int32).toInt = 0 := rfl
                        have v_4 := cv_eq c_14
                        have u_5 := rg_e officer
                        have v_6 := no_t c_14
                        have u_7 := rg_e (m_X8_isDay q day)
                        have v_8 := cv_ne c_15
                        have u_9 := rg_e day
                        have v_10 := dy_t c_15
                        have u_11 := rg_e (m_X8_hasRight q officer 1)
                        have v_12 := cv_ne c_17
                        have u_13 := rg_e o_1
                        have v_14 := cv_ne c_18
                        have k_15 : (16 : Int32).toInt = 16 := rfl
                        have v_16 := cv_ne c_19
                        have u_17 := rg_e (m_X8_hasRoom q 1)
                        have v_18 := cv_ne c_20
                        have k_19 : (1 : Int32).toInt = 1 := rfl
                        have v_20 := hr_t c_20
                        have u_21 := rg_e (q1.1 12 0)
                        have u_22 := rg_e r
                        have v_23 := cv_nle c_23
                        have u_24 := rg_e (m_X8_mayGo q1 r day)
                        have v_25 := cv_ne c_26
                        have w_26 := hL.2.2.2.2.2
                        have w_27 := hI.2.2.2.1
                        have w_28 := hL.1
                        have w_29 := hL.2.2.2.2.1 (Int32.toNatClampNeg (q.1 25 0))
                        have w_30 := tn_e hL.1.1
                        have w_31 := ho_1
                        have w_32 := congrArg Int32.toInt i3.1
                        have w_33 := congrArg Int32.toInt i3.2
                        have w_34 := i2.2.2.2.1
                        have w_35 := (rfl : (1 : Int32).toInt = 1)
                        have w_36 := i1
                        have w_37 := i4
                        exact vp_in_iff.mpr (by omega)
                      refine mm_iald (v := (q1.1 27 (Int32.toNatClampNeg (q.1 25 0)))) hx hb hK hW 27 16 rfl b_34 ((mq_ne (by decide))) dX8_draw_183 ?_
                      refine lv_iconst (v := 1) hx hb dX8_draw_184 (by decide) ?_
                      refine lv_iadd hx hb dX8_draw_185 ?_
                      have b_35 : vp_in (q.1 25 0) 16 := by
                        have u_1 := rg_e (q.1 25 0)
                        have u_2 := rg_e (m_X8_noOfficer officer)
                        have k_3 : (0 : Int32).toInt = 0 := rfl
                        have v_4 := cv_eq c_14
                        have u_5 := rg_e officer
                        have v_6 := no_t c_14
                        have u_7 := rg_e (m_X8_isDay q day)
                        have v_8 := cv_ne c_15
                        have u_9 := rg_e day
                        have v_10 := dy_t c_15
                        have u_11 := rg_e (m_X8_hasRight q officer 1)
                        have v_12 := cv_ne c_17
                        have u_13 := rg_e o_1
                        have v_14 := cv_ne c_18
                        have k_15 : (16 : Int32).toInt = 16 := rfl
                        have v_16 := cv_ne c_19
                        have u_17 := rg_e (m_X8_hasRoom q 1)
                        have v_18 := cv_ne c_20
                        have k_19 : (1 : Int32).toInt = 1 := rfl
                        have v_20 := hr_t c_20
                        have u_21 := rg_e (q1.1 12 0)
                        have u_22 := rg_e r
                        have v_23 := cv_nle c_23
                        have u_24 := rg_e (m_X8_mayGo q1 r day)
                        have v_25 := cv_ne c_26
                        have w_26 := hL.2.2.2.2.2
                        have w_27 := hI.2.2.2.1
                        have w_28 := hL.1
                        have w_29 := hL.2.2.2.2.1 (Int32.toNatClampNeg (q.1 25 0))
                        have w_30 := tn_e hL.1.1
                        have w_31 := ho_1
                        have w_32 := congrArg Int32.toInt i3.1
                        have w_33 := congrArg Int32.toInt i3.2
                        have w_34 := i2.2.2.2.1
                        have w_35 := (rfl : (1 : Int32).toInt = 1)
                        have w_36 := i1
                        have w_37 := i4
                        exact vp_in_iff.mpr (by omega)
                      refine mm_iast hx hb hK hW hS 27 16 rfl b_35 dX8_draw_186 (fun H locs hW hS => ?_)
                      refine lv_iinc (v := (r + 1)) (lv' := [(5, .int (r + 1)), (4, .int (q.1 25 0)), (3, .int o_1), (0, .ref (ad 20 0)), (1, .int officer), (2, .int day)]) hx hb dX8_draw_187 hl (k := 0) rfl (by first | rfl | decide) (by decide) rfl (fun ls hl => ?_)
                      refine lv_goto (tgt := 137) hx hb dX8_draw_190 (by decide) ?_
                      have h_36 : 0 ≤ (r + 1).toInt ∧ (r + 1).toInt ≤ 64 := by
                        have u_1 := rg_e r
                        have k_2 : (1 : Int32).toInt = 1 := rfl
                        have u_4 := rg_e (m_X8_noOfficer officer)
                        have k_5 : (0 : Int32).toInt = 0 := rfl
                        have v_6 := cv_eq c_14
                        have u_7 := rg_e officer
                        have v_8 := no_t c_14
                        have u_9 := rg_e (m_X8_isDay q day)
                        have v_10 := cv_ne c_15
                        have u_11 := rg_e day
                        have v_12 := dy_t c_15
                        have u_13 := rg_e (m_X8_hasRight q officer 1)
                        have v_14 := cv_ne c_17
                        have u_15 := rg_e o_1
                        have v_16 := cv_ne c_18
                        have u_17 := rg_e (q.1 25 0)
                        have k_18 : (16 : Int32).toInt = 16 := rfl
                        have v_19 := cv_ne c_19
                        have u_20 := rg_e (m_X8_hasRoom q 1)
                        have v_21 := cv_ne c_20
                        have v_22 := hr_t c_20
                        have u_23 := rg_e (q1.1 12 0)
                        have v_24 := cv_nle c_23
                        have u_25 := rg_e (m_X8_mayGo q1 r day)
                        have v_26 := cv_ne c_26
                        have w_27 := hL.2.2.2.2.2
                        have w_28 := hI.2.2.2.1
                        have w_29 := hL.1
                        have w_30 := hL.2.2.2.2.1 (Int32.toNatClampNeg (q.1 25 0))
                        have w_31 := tn_e hL.1.1
                        have w_32 := ho_1
                        have w_33 := congrArg Int32.toInt i3.1
                        have w_34 := congrArg Int32.toInt i3.2
                        have w_35 := i2.2.2.2.1
                        have w_36 := (rfl : (1 : Int32).toInt = 1)
                        have w_37 := i1
                        have w_38 := i4
                        have u_3 := ad_o r 1
                        omega
                      have h_37 : gI (mq_i (mq_i q1 26 (Int32.toNatClampNeg ((64 * (q.1 25 0)) + (q1.1 27 (Int32.toNatClampNeg (q.1 25 0))))) r) 27 (Int32.toNatClampNeg (q.1 25 0)) ((q1.1 27 (Int32.toNatClampNeg (q.1 25 0))) + 1)) := (gI_i (by decide) (gI_i (by decide) i2))
                      have h_38 : (mq_i (mq_i q1 26 (Int32.toNatClampNeg ((64 * (q.1 25 0)) + (q1.1 27 (Int32.toNatClampNeg (q.1 25 0))))) r) 27 (Int32.toNatClampNeg (q.1 25 0)) ((q1.1 27 (Int32.toNatClampNeg (q.1 25 0))) + 1)).1 12 0 = q.1 12 0 ∧ (mq_i (mq_i q1 26 (Int32.toNatClampNeg ((64 * (q.1 25 0)) + (q1.1 27 (Int32.toNatClampNeg (q.1 25 0))))) r) 27 (Int32.toNatClampNeg (q.1 25 0)) ((q1.1 27 (Int32.toNatClampNeg (q.1 25 0))) + 1)).1 31 0 = q.1 31 0 := ⟨((mq_ne (by decide)).trans ((mq_ne (by decide)).trans i3.1)), ((mq_ne (by decide)).trans ((mq_ne (by decide)).trans i3.2))⟩
                      have h_39 : 0 ≤ ((mq_i (mq_i q1 26 (Int32.toNatClampNeg ((64 * (q.1 25 0)) + (q1.1 27 (Int32.toNatClampNeg (q.1 25 0))))) r) 27 (Int32.toNatClampNeg (q.1 25 0)) ((q1.1 27 (Int32.toNatClampNeg (q.1 25 0))) + 1)).1 27 (Int32.toNatClampNeg (q.1 25 0))).toInt ∧ ((mq_i (mq_i q1 26 (Int32.toNatClampNeg ((64 * (q.1 25 0)) + (q1.1 27 (Int32.toNatClampNeg (q.1 25 0))))) r) 27 (Int32.toNatClampNeg (q.1 25 0)) ((q1.1 27 (Int32.toNatClampNeg (q.1 25 0))) + 1)).1 27 (Int32.toNatClampNeg (q.1 25 0))).toInt ≤ (r + 1).toInt := by
                        have u_1 := rg_e r
                        have k_2 : (1 : Int32).toInt = 1 := rfl
                        have u_4 := rg_e (m_X8_noOfficer officer)
                        have k_5 : (0 : Int32).toInt = 0 := rfl
                        have v_6 := cv_eq c_14
                        have u_7 := rg_e officer
                        have v_8 := no_t c_14
                        have u_9 := rg_e (m_X8_isDay q day)
                        have v_10 := cv_ne c_15
                        have u_11 := rg_e day
                        have v_12 := dy_t c_15
                        have u_13 := rg_e (m_X8_hasRight q officer 1)
                        have v_14 := cv_ne c_17
                        have u_15 := rg_e o_1
                        have v_16 := cv_ne c_18
                        have u_17 := rg_e (q.1 25 0)
                        have k_18 : (16 : Int32).toInt = 16 := rfl
                        have v_19 := cv_ne c_19
                        have u_20 := rg_e (m_X8_hasRoom q 1)
                        have v_21 := cv_ne c_20
                        have v_22 := hr_t c_20
                        have u_23 := rg_e (q1.1 12 0)
                        have v_24 := cv_nle c_23
                        have u_25 := rg_e (m_X8_mayGo q1 r day)
                        have v_26 := cv_ne c_26
                        have w_27 := hL.2.2.2.2.2
                        have w_28 := hI.2.2.2.1
                        have w_29 := hL.1
                        have w_30 := hL.2.2.2.2.1 (Int32.toNatClampNeg (q.1 25 0))
                        have w_31 := tn_e hL.1.1
                        have w_32 := ho_1
                        have w_33 := congrArg Int32.toInt i3.1
                        have w_34 := congrArg Int32.toInt i3.2
                        have w_35 := i2.2.2.2.1
                        have w_36 := (rfl : (1 : Int32).toInt = 1)
                        have w_37 := i1
                        have w_38 := i4
                        have u_3 := ad_o r 1
                        rw [mq_same]; have g9 := ad_o (q1.1 27 (Int32.toNatClampNeg (q.1 25 0))) 1; omega
                      have h_40 : 64 - (r + 1).toInt < (n : Int) := by
                        have u_1 := rg_e r
                        have k_2 : (1 : Int32).toInt = 1 := rfl
                        have u_4 := rg_e (m_X8_noOfficer officer)
                        have k_5 : (0 : Int32).toInt = 0 := rfl
                        have v_6 := cv_eq c_14
                        have u_7 := rg_e officer
                        have v_8 := no_t c_14
                        have u_9 := rg_e (m_X8_isDay q day)
                        have v_10 := cv_ne c_15
                        have u_11 := rg_e day
                        have v_12 := dy_t c_15
                        have u_13 := rg_e (m_X8_hasRight q officer 1)
                        have v_14 := cv_ne c_17
                        have u_15 := rg_e o_1
                        have v_16 := cv_ne c_18
                        have u_17 := rg_e (q.1 25 0)
                        have k_18 : (16 : Int32).toInt = 16 := rfl
                        have v_19 := cv_ne c_19
                        have u_20 := rg_e (m_X8_hasRoom q 1)
                        have v_21 := cv_ne c_20
                        have v_22 := hr_t c_20
                        have u_23 := rg_e (q1.1 12 0)
                        have v_24 := cv_nle c_23
                        have u_25 := rg_e (m_X8_mayGo q1 r day)
                        have v_26 := cv_ne c_26
                        have w_27 := hL.2.2.2.2.2
                        have w_28 := hI.2.2.2.1
                        have w_29 := hL.1
                        have w_30 := hL.2.2.2.2.1 (Int32.toNatClampNeg (q.1 25 0))
                        have w_31 := tn_e hL.1.1
                        have w_32 := ho_1
                        have w_33 := congrArg Int32.toInt i3.1
                        have w_34 := congrArg Int32.toInt i3.2
                        have w_35 := i2.2.2.2.1
                        have w_36 := (rfl : (1 : Int32).toInt = 1)
                        have w_37 := i1
                        have w_38 := i4
                        have w_39 := hm
                        have u_3 := ad_o r 1
                        omega
                      exact ih (r + 1) (mq_i (mq_i q1 26 (Int32.toNatClampNeg ((64 * (q.1 25 0)) + (q1.1 27 (Int32.toNatClampNeg (q.1 25 0))))) r) 27 (Int32.toNatClampNeg (q.1 25 0)) ((q1.1 27 (Int32.toNatClampNeg (q.1 25 0))) + 1)) h_36 h_37 h_38 h_39 h_40 (fun o_22 eo_22 => kk o_22 (eo_22.trans (by rw [m_X8_draw_lp2, if_neg c_23, if_neg c_26]))) _ _ hW hS ls (lv_sub hl [0, 1, 2, 3, 4, 5] rfl)
              have h_42 : 0 ≤ (0 : Int32).toInt ∧ (0 : Int32).toInt ≤ 64 := by
                have k_1 : (0 : Int32).toInt = 0 := rfl
                have u_2 := rg_e (m_X8_noOfficer officer)
                have v_3 := cv_eq c_14
                have u_4 := rg_e officer
                have v_5 := no_t c_14
                have u_6 := rg_e (m_X8_isDay q day)
                have v_7 := cv_ne c_15
                have u_8 := rg_e day
                have v_9 := dy_t c_15
                have u_10 := rg_e (m_X8_hasRight q officer 1)
                have v_11 := cv_ne c_17
                have u_12 := rg_e o_1
                have v_13 := cv_ne c_18
                have u_14 := rg_e (q.1 25 0)
                have k_15 : (16 : Int32).toInt = 16 := rfl
                have v_16 := cv_ne c_19
                have u_17 := rg_e (m_X8_hasRoom q 1)
                have v_18 := cv_ne c_20
                have k_19 : (1 : Int32).toInt = 1 := rfl
                have v_20 := hr_t c_20
                have w_21 := hL.2.2.2.2.2
                have w_22 := hI.2.2.2.1
                have w_23 := hL.1
                have w_24 := hL.2.2.2.2.1 (Int32.toNatClampNeg (q.1 25 0))
                have w_25 := tn_e hL.1.1
                have w_26 := ho_1
                omega
              have h_43 : gI (mq_i (mq_i (mq_i q 0 0 0) 25 0 ((q.1 25 0) + 1)) 28 (Int32.toNatClampNeg (q.1 25 0)) officer) := gI_i (by decide) (gI_i (by decide) (gI_i (by decide) hI))
              have h_44 : (mq_i (mq_i (mq_i q 0 0 0) 25 0 ((q.1 25 0) + 1)) 28 (Int32.toNatClampNeg (q.1 25 0)) officer).1 12 0 = q.1 12 0 ∧ (mq_i (mq_i (mq_i q 0 0 0) 25 0 ((q.1 25 0) + 1)) 28 (Int32.toNatClampNeg (q.1 25 0)) officer).1 31 0 = q.1 31 0 := ⟨(mq_ne (by decide)).trans ((mq_ne (by decide)).trans (mq_ne (by decide))), (mq_ne (by decide)).trans ((mq_ne (by decide)).trans (mq_ne (by decide)))⟩
              have h_45 : 0 ≤ ((mq_i (mq_i (mq_i q 0 0 0) 25 0 ((q.1 25 0) + 1)) 28 (Int32.toNatClampNeg (q.1 25 0)) officer).1 27 (Int32.toNatClampNeg (q.1 25 0))).toInt ∧ ((mq_i (mq_i (mq_i q 0 0 0) 25 0 ((q.1 25 0) + 1)) 28 (Int32.toNatClampNeg (q.1 25 0)) officer).1 27 (Int32.toNatClampNeg (q.1 25 0))).toInt ≤ (0 : Int32).toInt := by
                have k_1 : (0 : Int32).toInt = 0 := rfl
                have u_2 := rg_e (m_X8_noOfficer officer)
                have v_3 := cv_eq c_14
                have u_4 := rg_e officer
                have v_5 := no_t c_14
                have u_6 := rg_e (m_X8_isDay q day)
                have v_7 := cv_ne c_15
                have u_8 := rg_e day
                have v_9 := dy_t c_15
                have u_10 := rg_e (m_X8_hasRight q officer 1)
                have v_11 := cv_ne c_17
                have u_12 := rg_e o_1
                have v_13 := cv_ne c_18
                have u_14 := rg_e (q.1 25 0)
                have k_15 : (16 : Int32).toInt = 16 := rfl
                have v_16 := cv_ne c_19
                have u_17 := rg_e (m_X8_hasRoom q 1)
                have v_18 := cv_ne c_20
                have k_19 : (1 : Int32).toInt = 1 := rfl
                have v_20 := hr_t c_20
                have w_21 := hL.2.2.2.2.2
                have w_22 := hI.2.2.2.1
                have w_23 := hL.1
                have w_24 := hL.2.2.2.2.1 (Int32.toNatClampNeg (q.1 25 0))
                have w_25 := tn_e hL.1.1
                have w_26 := ho_1
                rw [show ∀ st0 : qM, (mq_i (mq_i (mq_i st0 0 0 0) 25 0 ((q.1 25 0) + 1)) 28 (Int32.toNatClampNeg (q.1 25 0)) officer).1 27 (Int32.toNatClampNeg (q.1 25 0)) = st0.1 27 (Int32.toNatClampNeg (q.1 25 0)) from fun _ => (mq_ne (by decide)).trans ((mq_ne (by decide)).trans (mq_ne (by decide)))]; omega
              have h_46 : 64 - (0 : Int32).toInt < ((66 : Nat) : Int) := by
                have k_1 : (0 : Int32).toInt = 0 := rfl
                have u_2 := rg_e (m_X8_noOfficer officer)
                have v_3 := cv_eq c_14
                have u_4 := rg_e officer
                have v_5 := no_t c_14
                have u_6 := rg_e (m_X8_isDay q day)
                have v_7 := cv_ne c_15
                have u_8 := rg_e day
                have v_9 := dy_t c_15
                have u_10 := rg_e (m_X8_hasRight q officer 1)
                have v_11 := cv_ne c_17
                have u_12 := rg_e o_1
                have v_13 := cv_ne c_18
                have u_14 := rg_e (q.1 25 0)
                have k_15 : (16 : Int32).toInt = 16 := rfl
                have v_16 := cv_ne c_19
                have u_17 := rg_e (m_X8_hasRoom q 1)
                have v_18 := cv_ne c_20
                have k_19 : (1 : Int32).toInt = 1 := rfl
                have v_20 := hr_t c_20
                have w_21 := hL.2.2.2.2.2
                have w_22 := hI.2.2.2.1
                have w_23 := hL.1
                have w_24 := hL.2.2.2.2.1 (Int32.toNatClampNeg (q.1 25 0))
                have w_25 := tn_e hL.1.1
                have w_26 := ho_1
                omega
              refine lp_41 _ 66 0 (mq_i (mq_i (mq_i q 0 0 0) 25 0 ((q.1 25 0) + 1)) 28 (Int32.toNatClampNeg (q.1 25 0)) officer) h_42 h_43 h_44 h_45 h_46 (fun o_22 eo_22 ho_22 H locs hW hS ls hl => ?_) _ _ hW hS ls (lv_sub hl [0, 1, 2, 3, 4, 5] rfl)
              refine lv_aload_n hx hb dX8_draw_193 rfl (lv_at hl 2 rfl) ?_
              refine lv_iload_n hx hb dX8_draw_194 rfl (lv_at hl 4 rfl) ?_
              refine mm_put hx hb hts hin hown hK hW hS 3 (by decide) (List.mem_of_getElem? (i := 7) rfl) rfl rfl (by decide +kernel) rfl (ws_3 ad _ _) dX8_draw_195 (fun H locs hW hS => ?_)
              refine lv_aload_n hx hb dX8_draw_198 rfl (lv_at hl 2 rfl) ?_
              refine lv_bipush (v := 8) hx hb dX8_draw_199 (by decide) ?_
              refine lv_iload hx hb dX8_draw_201 (lv_at hl 0 rfl) ?_
              refine lv_iload_n hx hb dX8_draw_203 rfl (lv_at hl 4 rfl) ?_
              refine lv_iload_n hx hb dX8_draw_204 rfl (lv_at hl 1 rfl) ?_
              have h_47 : 0 ≤ ((mq_i o_22 3 0 day).1 31 0).toInt ∧ ((mq_i o_22 3 0 day).1 31 0).toInt ≤ 399 := by
                rw [show (mq_i o_22 3 0 day).1 31 0 = (o_22.1 31 0) from (mq_ne (by decide))]
                have k_1 : (8 : Int32).toInt = 8 := rfl
                have u_2 := rg_e (q.1 25 0)
                have u_3 := rg_e day
                have u_4 := rg_e o_1
                have u_5 := rg_e (m_X8_noOfficer officer)
                have k_6 : (0 : Int32).toInt = 0 := rfl
                have v_7 := cv_eq c_14
                have u_8 := rg_e officer
                have v_9 := no_t c_14
                have u_10 := rg_e (m_X8_isDay q day)
                have v_11 := cv_ne c_15
                have v_12 := dy_t c_15
                have u_13 := rg_e (m_X8_hasRight q officer 1)
                have v_14 := cv_ne c_17
                have v_15 := cv_ne c_18
                have k_16 : (16 : Int32).toInt = 16 := rfl
                have v_17 := cv_ne c_19
                have u_18 := rg_e (m_X8_hasRoom q 1)
                have v_19 := cv_ne c_20
                have k_20 : (1 : Int32).toInt = 1 := rfl
                have v_21 := hr_t c_20
                have w_22 := hL.2.2.2.2.2
                have w_23 := hI.2.2.2.1
                have w_24 := hL.1
                have w_25 := hL.2.2.2.2.1 (Int32.toNatClampNeg (q.1 25 0))
                have w_26 := tn_e hL.1.1
                have w_27 := ho_1
                have w_28 := congrArg Int32.toInt ho_22.1
                have w_29 := congrArg Int32.toInt ho_22.2
                exact by omega
              have h_48 : 0 ≤ ((mq_i o_22 3 0 day).1 12 0).toInt ∧ ((mq_i o_22 3 0 day).1 12 0).toInt ≤ 64 := by
                rw [show (mq_i o_22 3 0 day).1 12 0 = (o_22.1 12 0) from (mq_ne (by decide))]
                have k_1 : (8 : Int32).toInt = 8 := rfl
                have u_2 := rg_e (q.1 25 0)
                have u_3 := rg_e day
                have u_4 := rg_e o_1
                have u_5 := rg_e (m_X8_noOfficer officer)
                have k_6 : (0 : Int32).toInt = 0 := rfl
                have v_7 := cv_eq c_14
                have u_8 := rg_e officer
                have v_9 := no_t c_14
                have u_10 := rg_e (m_X8_isDay q day)
                have v_11 := cv_ne c_15
                have v_12 := dy_t c_15
                have u_13 := rg_e (m_X8_hasRight q officer 1)
                have v_14 := cv_ne c_17
                have v_15 := cv_ne c_18
                have k_16 : (16 : Int32).toInt = 16 := rfl
                have v_17 := cv_ne c_19
                have u_18 := rg_e (m_X8_hasRoom q 1)
                have v_19 := cv_ne c_20
                have k_20 : (1 : Int32).toInt = 1 := rfl
                have v_21 := hr_t c_20
                have w_22 := hL.2.2.2.2.2
                have w_23 := hI.2.2.2.1
                have w_24 := hL.1
                have w_25 := hL.2.2.2.2.1 (Int32.toNatClampNeg (q.1 25 0))
                have w_26 := tn_e hL.1.1
                have w_27 := ho_1
                have w_28 := congrArg Int32.toInt ho_22.1
                have w_29 := congrArg Int32.toInt ho_22.2
                exact by omega
              refine mm_callVv (n := 4) (As := [.int 8, .int (q.1 25 0), .int day, .int o_1]) (rest := []) (q2 := (m_X8_write (mq_i o_22 3 0 day) 8 (q.1 25 0) day o_1)) ⟨hx, hb, hml, hown, hts⟩ (c_X8_write l D b0 Pc cA ad (mq_i o_22 3 0 day) 8 (q.1 25 0) day o_1 h_47 h_48) gX8_draw_X8_write rfl (by decide +kernel) rfl ⟨Nat.le_of_ble_eq_true rfl, Nat.le_of_ble_eq_true rfl⟩ ⟨Nat.le_of_ble_eq_true rfl, Nat.le_of_ble_eq_true rfl⟩ hK hW hS hl.1 rfl (Nat.le_of_ble_eq_true rfl) dX8_draw_205 (fun H locs hW hS => ?_)
              refine lv_iload hx hb dX8_draw_208 (lv_at hl 0 rfl) ?_
              exact mm_iret hx hb hr hlk hK hW hS (by rw [m_X8_draw, ← eo_1, if_pos c_14, if_neg c_15, if_neg c_17, if_neg c_18, if_neg c_19, if_neg c_20, ← eo_22]) dX8_draw_210
            · refine lv_iconst (v := 3) hx hb dX8_draw_93 (by decide) ?_
              refine lv_goto (tgt := 98) hx hb dX8_draw_94 (by decide) ?_
              refine mm_put hx hb hts hin hown hK hW hS 0 (by decide) (List.mem_of_getElem? (i := 3) rfl) rfl rfl (by decide +kernel) rfl (ws_0 ad _ _) dX8_draw_98 (fun H locs hW hS => ?_)
              refine lv_aload_n hx hb dX8_draw_101 rfl (lv_at hl 1 rfl) ?_
              refine mm_gets (v := 3) hx hb hts hin hown hK hW 0 (by decide) (List.mem_of_getElem? (i := 3) rfl) rfl rfl (mq_same q 0 0 3) dX8_draw_102 ?_
              refine lv_if_le (tgt := 110) hx hb dX8_draw_105 (by decide) (fun h => absurd h (by decide)) (fun _ => ?_)
              refine lv_iconst (v := 0) hx hb dX8_draw_108 (by decide) ?_
              exact mm_iret hx hb hr hlk hK hW hS (by rw [m_X8_draw, ← eo_1, if_pos c_14, if_neg c_15, if_neg c_17, if_neg c_18, if_neg c_19, if_pos c_20]) dX8_draw_109
    · refine lv_iconst (v := 2) hx hb dX8_draw_59 (by decide) ?_
      refine lv_goto (tgt := 98) hx hb dX8_draw_60 (by decide) ?_
      refine mm_put hx hb hts hin hown hK hW hS 0 (by decide) (List.mem_of_getElem? (i := 3) rfl) rfl rfl (by decide +kernel) rfl (ws_0 ad _ _) dX8_draw_98 (fun H locs hW hS => ?_)
      refine lv_aload_n hx hb dX8_draw_101 rfl (lv_at hl 1 rfl) ?_
      refine mm_gets (v := 2) hx hb hts hin hown hK hW 0 (by decide) (List.mem_of_getElem? (i := 3) rfl) rfl rfl (mq_same q 0 0 2) dX8_draw_102 ?_
      refine lv_if_le (tgt := 110) hx hb dX8_draw_105 (by decide) (fun h => absurd h (by decide)) (fun _ => ?_)
      refine lv_iconst (v := 0) hx hb dX8_draw_108 (by decide) ?_
      exact mm_iret hx hb hr hlk hK hW hS (by rw [m_X8_draw, ← eo_1, if_pos c_14, if_pos c_15]) dX8_draw_109
  · refine lv_iconst (v := 1) hx hb dX8_draw_47 (by decide) ?_
    refine lv_goto (tgt := 98) hx hb dX8_draw_48 (by decide) ?_
    refine mm_put hx hb hts hin hown hK hW hS 0 (by decide) (List.mem_of_getElem? (i := 3) rfl) rfl rfl (by decide +kernel) rfl (ws_0 ad _ _) dX8_draw_98 (fun H locs hW hS => ?_)
    refine lv_aload_n hx hb dX8_draw_101 rfl (lv_at hl 1 rfl) ?_
    refine mm_gets (v := 1) hx hb hts hin hown hK hW 0 (by decide) (List.mem_of_getElem? (i := 3) rfl) rfl rfl (mq_same q 0 0 1) dX8_draw_102 ?_
    refine lv_if_le (tgt := 110) hx hb dX8_draw_105 (by decide) (fun h => absurd h (by decide)) (fun _ => ?_)
    refine lv_iconst (v := 0) hx hb dX8_draw_108 (by decide) ?_
    exact mm_iret hx hb hr hlk hK hW hS (by rw [m_X8_draw, ← eo_1, if_neg c_14]) dX8_draw_109
