def m_X8_write (q : qM) (kind : Int32) (na : Int32) (nb : Int32) (nc : Int32) : qM := (mq_i (mq_l (mq_i (mq_i (mq_i (mq_i q 32 (Int32.toNatClampNeg (4 * (q.1 31 0))) kind) 32 (Int32.toNatClampNeg ((4 * (q.1 31 0)) + 1)) na) 32 (Int32.toNatClampNeg ((4 * (q.1 31 0)) + 2)) nb) 32 (Int32.toNatClampNeg ((4 * (q.1 31 0)) + 3)) nc) 33 (Int32.toNatClampNeg (q.1 31 0)) (m_X8_linkOf (mq_i (mq_i (mq_i (mq_i q 32 (Int32.toNatClampNeg (4 * (q.1 31 0))) kind) 32 (Int32.toNatClampNeg ((4 * (q.1 31 0)) + 1)) na) 32 (Int32.toNatClampNeg ((4 * (q.1 31 0)) + 2)) nb) 32 (Int32.toNatClampNeg ((4 * (q.1 31 0)) + 3)) nc) (q.1 31 0))) 31 0 ((q.1 31 0) + 1))
set_option maxHeartbeats 4000000 in
set_option maxRecDepth 100000 in
theorem c_X8_write (l : Launch) (D : va_G) (b0 : Nat) (Pc : Nat → Nat → Option va_E) (cA : Nat → ClassId) (ad : Nat → Nat → Nat) (q : qM) (kind : Int32) (na : Int32) (nb : Int32) (nc : Int32) (ha : 0 ≤ (q.1 31 0).toInt ∧ (q.1 31 0).toInt ≤ 399) (hrc : 0 ≤ (q.1 12 0).toInt ∧ (q.1 12 0).toInt ≤ 64) : mc_v l yX8_write wsX8_write 2 50 D b0 Pc cA ad q [.ref (ad 20 0), .int kind, .int na, .int nb, .int nc] (m_X8_write q kind na nb nc) := by
  refine mc_of (by decide) rfl (Nat.le_of_ble_eq_true rfl) ?_
  intro p e s m below meth c hx hb hml hr hlk hown hts hK hW ls hl
  have hown : s.vm.findClass RX8 = some m.cls := hown
  have hS : va_S (wA b0) s.heap s.heap [] := va_S.rf
  have hl : lv_has ls 5 [(0, .ref (ad 20 0)), (1, .int kind), (2, .int na), (3, .int nb), (4, .int nc)] := hl
  have hin : ∀ w ∈ wsX80, w ∈ wsX8_write := fun w h => List.mem_cons_of_mem _ (List.mem_append_right _ h)
  refine lv_aload_n hx hb dX8_write_0 rfl (lv_at hl 0 rfl) ?_
  refine mm_get (v := .ref (ad 21 32)) hx hb hts hin hown hK hW 32 (by decide) (List.mem_of_getElem? (i := 1) rfl) rfl rfl dX8_write_1 ?_
  refine lv_iconst (v := 4) hx hb dX8_write_4 (by decide) ?_
  refine lv_aload_n hx hb dX8_write_5 rfl (lv_at hl 0 rfl) ?_
  refine mm_gets (v := (q.1 31 0)) hx hb hts hin hown hK hW 31 (by decide) (List.mem_of_getElem? (i := 2) rfl) rfl rfl (rfl) dX8_write_6 ?_
  refine lv_imul hx hb dX8_write_9 ?_
  refine lv_iload_n hx hb dX8_write_10 rfl (lv_at hl 1 rfl) ?_
  have b_1 : vp_in (4 * (q.1 31 0)) 1600 := by
    have k_1 : (4 : Int32).toInt = 4 := rfl
    have u_2 := rg_e (q.1 31 0)
    have w_4 := ha
    have w_5 := hrc
    have u_3 := mu_o 4 4 (q.1 31 0) rfl
    exact vp_in_iff.mpr (by omega)
  refine mm_iast hx hb hK hW hS 32 1600 rfl b_1 dX8_write_11 (fun H locs hW hS => ?_)
  refine lv_aload_n hx hb dX8_write_12 rfl (lv_at hl 0 rfl) ?_
  refine mm_get (v := .ref (ad 21 32)) hx hb hts hin hown hK hW 32 (by decide) (List.mem_of_getElem? (i := 1) rfl) rfl rfl dX8_write_13 ?_
  refine lv_iconst (v := 4) hx hb dX8_write_16 (by decide) ?_
  refine lv_aload_n hx hb dX8_write_17 rfl (lv_at hl 0 rfl) ?_
  refine mm_gets (v := (q.1 31 0)) hx hb hts hin hown hK hW 31 (by decide) (List.mem_of_getElem? (i := 2) rfl) rfl rfl (mq_ne (by decide)) dX8_write_18 ?_
  refine lv_imul hx hb dX8_write_21 ?_
  refine lv_iconst (v := 1) hx hb dX8_write_22 (by decide) ?_
  refine lv_iadd hx hb dX8_write_23 ?_
  refine lv_iload_n hx hb dX8_write_24 rfl (lv_at hl 2 rfl) ?_
  have b_2 : vp_in ((4 * (q.1 31 0)) + 1) 1600 := by
    have k_1 : (4 : Int32).toInt = 4 := rfl
    have u_2 := rg_e (q.1 31 0)
    have k_4 : (1 : Int32).toInt = 1 := rfl
    have w_6 := ha
    have w_7 := hrc
    have u_3 := mu_o 4 4 (q.1 31 0) rfl
    have u_5 := ad_o (4 * (q.1 31 0)) 1
    exact vp_in_iff.mpr (by omega)
  refine mm_iast hx hb hK hW hS 32 1600 rfl b_2 dX8_write_25 (fun H locs hW hS => ?_)
  refine lv_aload_n hx hb dX8_write_26 rfl (lv_at hl 0 rfl) ?_
  refine mm_get (v := .ref (ad 21 32)) hx hb hts hin hown hK hW 32 (by decide) (List.mem_of_getElem? (i := 1) rfl) rfl rfl dX8_write_27 ?_
  refine lv_iconst (v := 4) hx hb dX8_write_30 (by decide) ?_
  refine lv_aload_n hx hb dX8_write_31 rfl (lv_at hl 0 rfl) ?_
  refine mm_gets (v := (q.1 31 0)) hx hb hts hin hown hK hW 31 (by decide) (List.mem_of_getElem? (i := 2) rfl) rfl rfl ((mq_ne (by decide)).trans (mq_ne (by decide))) dX8_write_32 ?_
  refine lv_imul hx hb dX8_write_35 ?_
  refine lv_iconst (v := 2) hx hb dX8_write_36 (by decide) ?_
  refine lv_iadd hx hb dX8_write_37 ?_
  refine lv_iload_n hx hb dX8_write_38 rfl (lv_at hl 3 rfl) ?_
  have b_3 : vp_in ((4 * (q.1 31 0)) + 2) 1600 := by
    have k_1 : (4 : Int32).toInt = 4 := rfl
    have u_2 := rg_e (q.1 31 0)
    have k_4 : (2 : Int32).toInt = 2 := rfl
    have w_6 := ha
    have w_7 := hrc
    have u_3 := mu_o 4 4 (q.1 31 0) rfl
    have u_5 := ad_o (4 * (q.1 31 0)) 2
    exact vp_in_iff.mpr (by omega)
  refine mm_iast hx hb hK hW hS 32 1600 rfl b_3 dX8_write_39 (fun H locs hW hS => ?_)
  refine lv_aload_n hx hb dX8_write_40 rfl (lv_at hl 0 rfl) ?_
  refine mm_get (v := .ref (ad 21 32)) hx hb hts hin hown hK hW 32 (by decide) (List.mem_of_getElem? (i := 1) rfl) rfl rfl dX8_write_41 ?_
  refine lv_iconst (v := 4) hx hb dX8_write_44 (by decide) ?_
  refine lv_aload_n hx hb dX8_write_45 rfl (lv_at hl 0 rfl) ?_
  refine mm_gets (v := (q.1 31 0)) hx hb hts hin hown hK hW 31 (by decide) (List.mem_of_getElem? (i := 2) rfl) rfl rfl ((mq_ne (by decide)).trans ((mq_ne (by decide)).trans (mq_ne (by decide)))) dX8_write_46 ?_
  refine lv_imul hx hb dX8_write_49 ?_
  refine lv_iconst (v := 3) hx hb dX8_write_50 (by decide) ?_
  refine lv_iadd hx hb dX8_write_51 ?_
  refine lv_iload hx hb dX8_write_52 (lv_at hl 4 rfl) ?_
  have b_4 : vp_in ((4 * (q.1 31 0)) + 3) 1600 := by
    have k_1 : (4 : Int32).toInt = 4 := rfl
    have u_2 := rg_e (q.1 31 0)
    have k_4 : (3 : Int32).toInt = 3 := rfl
    have w_6 := ha
    have w_7 := hrc
    have u_3 := mu_o 4 4 (q.1 31 0) rfl
    have u_5 := ad_o (4 * (q.1 31 0)) 3
    exact vp_in_iff.mpr (by omega)
  refine mm_iast hx hb hK hW hS 32 1600 rfl b_4 dX8_write_54 (fun H locs hW hS => ?_)
  refine lv_aload_n hx hb dX8_write_55 rfl (lv_at hl 0 rfl) ?_
  refine mm_get (v := .ref (ad 21 33)) hx hb hts hin hown hK hW 33 (by decide) (List.mem_of_getElem? (i := 3) rfl) rfl rfl dX8_write_56 ?_
  refine lv_aload_n hx hb dX8_write_59 rfl (lv_at hl 0 rfl) ?_
  refine mm_gets (v := (q.1 31 0)) hx hb hts hin hown hK hW 31 (by decide) (List.mem_of_getElem? (i := 2) rfl) rfl rfl ((mq_ne (by decide)).trans ((mq_ne (by decide)).trans ((mq_ne (by decide)).trans (mq_ne (by decide))))) dX8_write_60 ?_
  refine lv_aload_n hx hb dX8_write_63 rfl (lv_at hl 0 rfl) ?_
  refine lv_aload_n hx hb dX8_write_64 rfl (lv_at hl 0 rfl) ?_
  refine mm_gets (v := (q.1 31 0)) hx hb hts hin hown hK hW 31 (by decide) (List.mem_of_getElem? (i := 2) rfl) rfl rfl ((mq_ne (by decide)).trans ((mq_ne (by decide)).trans ((mq_ne (by decide)).trans (mq_ne (by decide))))) dX8_write_65 ?_
  have h_5 : 0 ≤ ((q.1 31 0) : Int32).toInt ∧ ((q.1 31 0) : Int32).toInt ≤ 399 := by
    exact ha
  have h_6 : 0 ≤ ((mq_i (mq_i (mq_i (mq_i q 32 (Int32.toNatClampNeg (4 * (q.1 31 0))) kind) 32 (Int32.toNatClampNeg ((4 * (q.1 31 0)) + 1)) na) 32 (Int32.toNatClampNeg ((4 * (q.1 31 0)) + 2)) nb) 32 (Int32.toNatClampNeg ((4 * (q.1 31 0)) + 3)) nc).1 12 0).toInt ∧ ((mq_i (mq_i (mq_i (mq_i q 32 (Int32.toNatClampNeg (4 * (q.1 31 0))) kind) 32 (Int32.toNatClampNeg ((4 * (q.1 31 0)) + 1)) na) 32 (Int32.toNatClampNeg ((4 * (q.1 31 0)) + 2)) nb) 32 (Int32.toNatClampNeg ((4 * (q.1 31 0)) + 3)) nc).1 12 0).toInt ≤ 64 := by
    rw [show (mq_i (mq_i (mq_i (mq_i q 32 (Int32.toNatClampNeg (4 * (q.1 31 0))) kind) 32 (Int32.toNatClampNeg ((4 * (q.1 31 0)) + 1)) na) 32 (Int32.toNatClampNeg ((4 * (q.1 31 0)) + 2)) nb) 32 (Int32.toNatClampNeg ((4 * (q.1 31 0)) + 3)) nc).1 12 0 = (q.1 12 0) from ((mq_ne (by decide)).trans ((mq_ne (by decide)).trans ((mq_ne (by decide)).trans (mq_ne (by decide)))))]
    exact hrc
  refine mm_callVl (n := 1) (As := [.int (q.1 31 0)]) (rest := [.int (q.1 31 0), .ref (ad 21 33)]) (r := (m_X8_linkOf (mq_i (mq_i (mq_i (mq_i q 32 (Int32.toNatClampNeg (4 * (q.1 31 0))) kind) 32 (Int32.toNatClampNeg ((4 * (q.1 31 0)) + 1)) na) 32 (Int32.toNatClampNeg ((4 * (q.1 31 0)) + 2)) nb) 32 (Int32.toNatClampNeg ((4 * (q.1 31 0)) + 3)) nc) (q.1 31 0))) (q2 := (mq_i (mq_i (mq_i (mq_i q 32 (Int32.toNatClampNeg (4 * (q.1 31 0))) kind) 32 (Int32.toNatClampNeg ((4 * (q.1 31 0)) + 1)) na) 32 (Int32.toNatClampNeg ((4 * (q.1 31 0)) + 2)) nb) 32 (Int32.toNatClampNeg ((4 * (q.1 31 0)) + 3)) nc)) ⟨hx, hb, hml, hown, hts⟩ (c_X8_linkOf l D b0 Pc cA ad (mq_i (mq_i (mq_i (mq_i q 32 (Int32.toNatClampNeg (4 * (q.1 31 0))) kind) 32 (Int32.toNatClampNeg ((4 * (q.1 31 0)) + 1)) na) 32 (Int32.toNatClampNeg ((4 * (q.1 31 0)) + 2)) nb) 32 (Int32.toNatClampNeg ((4 * (q.1 31 0)) + 3)) nc) (q.1 31 0) h_5 h_6) gX8_write_X8_linkOf rfl (by decide +kernel) rfl ⟨Nat.le_of_ble_eq_true rfl, Nat.le_of_ble_eq_true rfl⟩ ⟨Nat.le_of_ble_eq_true rfl, Nat.le_of_ble_eq_true rfl⟩ hK hW hS hl.1 rfl (Nat.le_of_ble_eq_true rfl) dX8_write_68 (fun H locs hW hS => ?_)
  have b_7 : vp_in (q.1 31 0) 400 := by
    have u_1 := rg_e (q.1 31 0)
    have w_2 := ha
    have w_3 := hrc
    exact vp_in_iff.mpr (by omega)
  refine mm_last hx hb hK hW hS 33 400 rfl b_7 dX8_write_71 (fun H locs hW hS => ?_)
  refine lv_aload_n hx hb dX8_write_72 rfl (lv_at hl 0 rfl) ?_
  refine lv_dup hx hb dX8_write_73 rfl ?_
  refine mm_gets (v := (q.1 31 0)) hx hb hts hin hown hK hW 31 (by decide) (List.mem_of_getElem? (i := 2) rfl) rfl rfl ((mq_nel).trans ((mq_ne (by decide)).trans ((mq_ne (by decide)).trans ((mq_ne (by decide)).trans (mq_ne (by decide)))))) dX8_write_74 ?_
  refine lv_iconst (v := 1) hx hb dX8_write_77 (by decide) ?_
  refine lv_iadd hx hb dX8_write_78 ?_
  refine mm_put hx hb hts hin hown hK hW hS 31 (by decide) (List.mem_of_getElem? (i := 2) rfl) rfl rfl (by decide +kernel) rfl (ws_31 ad _ _) dX8_write_79 (fun H locs hW hS => ?_)
  exact mm_vret hx hb hr hlk hK hW hS (by rw [m_X8_write]) dX8_write_82
