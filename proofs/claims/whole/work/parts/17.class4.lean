/-! laid by wip/whole/tools/class4.py -/
/-- what holds of the office's numbers at all times -/
def cI (q : qC) : Prop := (∀ r, ¬ q.1 5 0 r = 0 → ¬ q.1 3 0 (Int32.toNatClampNeg (q.1 16 r 0)) = 0) ∧ (∀ f, 0 ≤ (q.1 14 f 1).toInt ∧ (q.1 14 f 1).toInt ≤ 7) ∧ (∀ r, 0 ≤ (q.1 16 r 6).toInt ∧ (q.1 16 r 6).toInt ≤ 120000) ∧ (∀ j, 0 ≤ (q.1 10 j 4).toInt ∧ (q.1 10 j 4).toInt ≤ 6) ∧ (1 ≤ (q.1 0 0 10).toInt ∧ (q.1 0 0 10).toInt ≤ 12) ∧ (0 ≤ (q.1 0 0 7).toInt ∧ (q.1 0 0 7).toInt ≤ 64) ∧ (∀ r : Nat, (r : Int) < (q.1 0 0 7).toInt → ¬ q.1 5 0 r = 0) ∧ (∀ f, -1 ≤ (q.1 14 f 2).toInt ∧ (q.1 14 f 2).toInt ≤ 120000) ∧ (∀ f, -1 ≤ (q.1 14 f 3).toInt ∧ (q.1 14 f 3).toInt ≤ 120000) ∧ (∀ j i, 0 ≤ (q.1 12 j i).toInt ∧ (q.1 12 j i).toInt ≤ 1211) ∧ (0 ≤ (q.1 7 0 2).toInt ∧ (q.1 7 0 2).toInt ≤ 400) ∧ (0 ≤ (q.1 0 0 8).toInt ∧ (q.1 0 0 8).toInt ≤ 16) ∧ (∀ l : Nat, (l : Int) < (q.1 0 0 8).toInt → ¬ q.1 6 0 l = 0)
theorem cI_rec {q : qC} (h : cI q) {i : Int32} (h1 : 0 ≤ i.toInt) (h2 : i.toInt < (q.1 0 0 7).toInt) : ¬ q.1 5 0 (Int32.toNatClampNeg i) = 0 := h.2.2.2.2.2.2.1 _ (by rw [tn_e h1]; exact h2)
theorem cI_lis {q : qC} (h : cI q) {i : Int32} (h1 : 0 ≤ i.toInt) (h2 : i.toInt < (q.1 0 0 8).toInt) : ¬ q.1 6 0 (Int32.toNatClampNeg i) = 0 := h.2.2.2.2.2.2.2.2.2.2.2.2 _ (by rw [tn_e h1]; exact h2)

def m_X7_holdsOver_lp (q : qC) (r : Nat) : Nat → Int32 → Int32 → Int32
  | 0, _, _ => 0
  | n + 1, n9, i => (if 8 ≤ i then n9 else (if (m_X5_covers q (Int32.toNatClampNeg i) r) = 0 then (m_X7_holdsOver_lp q r n n9 (i + 1)) else (m_X7_holdsOver_lp q r n (n9 + 1) (i + 1))))
def m_X7_holdsOver (q : qC) (r : Nat) : Int32 := (m_X7_holdsOver_lp q r 9 0 0)
set_option maxHeartbeats 4000000 in
set_option maxRecDepth 100000 in
theorem c_X7_holdsOver (l : Launch) (D : va_G) (b0 : Nat) (cA : Nat → ClassId) (ad : Nat → Nat → Nat) (mq : qM) (q : qC) (r : Nat) (hpr : ¬ q.1 5 0 r = 0) (hI : cI q) : cc_i l yX7_holdsOver wsX7_holdsOver 2 43 D b0 cA ad mq q [.ref (ad 0 0), .ref (ad 16 r)] (m_X7_holdsOver q r, q) := by
  refine cc_of (by decide) rfl (Nat.le_of_ble_eq_true rfl) ?_
  intro p e s m below meth c hx hb hml hr hlk hown hts hK hW hKD ls hl
  have hown : s.vm.findClass RX7 = some m.cls := hown
  have hS : va_S (wA b0) s.heap s.heap [] := va_S.rf
  have hl : lv_has ls 4 [(0, .ref (ad 0 0)), (1, .ref (ad 16 r))] := hl
  have hin_X7 : ∀ w ∈ wsX70, w ∈ wsX7_holdsOver := fun w h => List.mem_cons_of_mem _ (List.mem_append_left _ (List.mem_append_left _ (List.mem_append_left _ (List.mem_append_right _ h))))
  have hin_X5 : ∀ w ∈ wsX50, w ∈ wsX7_holdsOver := fun w h => List.mem_cons_of_mem _ (List.mem_append_left _ (List.mem_append_left _ (List.mem_append_right _ h)))
  have hin_X3 : ∀ w ∈ wsX30, w ∈ wsX7_holdsOver := fun w h => List.mem_cons_of_mem _ (List.mem_append_left _ (List.mem_append_right _ h))
  have hin_X4 : ∀ w ∈ wsX40, w ∈ wsX7_holdsOver := fun w h => List.mem_cons_of_mem _ (List.mem_append_right _ h)
  refine lv_iconst (v := 0) hx hb dX7_holdsOver_0 (by decide) ?_
  refine lv_istore_n (lv' := [(2, .int 0), (0, .ref (ad 0 0)), (1, .ref (ad 16 r))]) hx hb dX7_holdsOver_1 rfl hl (by decide) rfl (fun ls hl => ?_)
  refine lv_iconst (v := 0) hx hb dX7_holdsOver_2 (by decide) ?_
  refine lv_istore_n (lv' := [(3, .int 0), (2, .int 0), (0, .ref (ad 0 0)), (1, .ref (ad 16 r))]) hx hb dX7_holdsOver_3 rfl hl (by decide) rfl (fun ls hl => ?_)
  have lp_9 : ∀ (Q : State → Prop) (n : Nat) (n9 : Int32) (i : Int32), (0 ≤ i.toInt ∧ i.toInt ≤ 8) → 8 - i.toInt < (n : Int) → (∀ o_1 : Int32, o_1 = (m_X7_holdsOver_lp q r n n9 i) → ∀ (H : Heap) (locs : List Loc), wd D (wA b0) (PO cA ad q mq) ad H → va_S (wA b0) s.heap H locs → ∀ ls : Array Slot, lv_has ls 4 [(2, .int o_1), (0, .ref (ad 0 0)), (1, .ref (ad 16 r))] → W p l e { frames := 2, cells := 0, slots := 0, locals := 43 } s m [.ref (ad 0 0), .ref (ad 16 r)].toArray below meth c H locs 0 0 Q (F0 m 32 ls [])) → ∀ (H : Heap) (locs : List Loc), wd D (wA b0) (PO cA ad q mq) ad H → va_S (wA b0) s.heap H locs → ∀ ls : Array Slot, lv_has ls 4 [(2, .int n9), (3, .int i), (0, .ref (ad 0 0)), (1, .ref (ad 16 r))] → W p l e { frames := 2, cells := 0, slots := 0, locals := 43 } s m [.ref (ad 0 0), .ref (ad 16 r)].toArray below meth c H locs 0 0 Q (F0 m 4 ls []) := by
    intro Q n
    induction n with
    | zero =>
      intro n9 i i1 hm
      have hz : 0 ≤ 8 - i.toInt := by
        have w_1 := i1
        omega
      exact absurd hm (by omega)
    | succ n ih =>
      intro n9 i i1 hm kk H locs hW hS ls hl
      refine lv_iload_n hx hb dX7_holdsOver_4 rfl (lv_at hl 1 rfl) ?_
      refine lv_bipush (v := 8) hx hb dX7_holdsOver_5 (by decide) ?_
      refine lv_icmp_ge (tgt := 32) hx hb dX7_holdsOver_7 (by decide) (fun c_2 => ?_) (fun c_2 => ?_)
      · exact kk n9 (by rw [m_X7_holdsOver_lp, if_pos c_2])  H locs hW hS ls (lv_sub hl [0, 2, 3] rfl)
      · refine lv_aload_n hx hb dX7_holdsOver_10 rfl (lv_at hl 2 rfl) ?_
        refine ow_get (v2 := .ref (ad 4 0)) (ci := 6) (C := RX7) (T := TX7) (N := 11) hx hb hts hin_X7 hown hK hW 0 0 (PO_k0) rfl 3 (by decide) (List.mem_of_getElem? (i := 1) rfl) rfl rfl rfl dX7_holdsOver_11 ?_
        refine lv_iload_n hx hb dX7_holdsOver_14 rfl (lv_at hl 1 rfl) ?_
        have b_3 : vp_in i 8 := by
          have u_1 := rg_e i
          have k_2 : (8 : Int32).toInt = 8 := rfl
          have v_3 := cv_nle c_2
          have w_4 := i1
          exact vp_in_iff.mpr (by omega)
        refine ow_aald hx hb hK hW 4 0 (PO_k4) 5 rfl b_3 dX7_holdsOver_15 ?_
        refine lv_aload_n hx hb dX7_holdsOver_16 rfl (lv_at hl 3 rfl) ?_
        refine ow_callVi (C := RX5) (T := TX5) (N := 6) (ci := 4) (k := 15) (j := (Int32.toNatClampNeg i)) (n := 1) (As := [.ref (ad 16 r)]) (rest := []) (r := (m_X5_covers q (Int32.toNatClampNeg i) r)) (z2 := q) ⟨hx, hb, hml, hown, hts⟩ (c_X5_covers l D b0 cA ad mq q (Int32.toNatClampNeg i) r (lt8 b_3) hpr (hI.1 r hpr)) (PO_k15 (lt8 b_3)) rfl gX7_holdsOver_X5_covers rfl (by decide +kernel) rfl ⟨Nat.le_of_ble_eq_true rfl, Nat.le_of_ble_eq_true rfl⟩ ⟨Nat.le_of_ble_eq_true rfl, Nat.le_of_ble_eq_true rfl⟩ hK hW hS hKD hl.1 rfl (Nat.le_of_ble_eq_true rfl) dX7_holdsOver_17 (fun H locs hW hS => ?_)
        refine lv_if_eq (tgt := 26) hx hb dX7_holdsOver_20 (by decide) (fun c_4 => ?_) (fun c_4 => ?_)
        · refine lv_iinc (v := (i + 1)) (lv' := [(3, .int (i + 1)), (2, .int n9), (0, .ref (ad 0 0)), (1, .ref (ad 16 r))]) hx hb dX7_holdsOver_26 hl (k := 1) rfl (by first | rfl | decide) (by decide) rfl (fun ls hl => ?_)
          refine lv_goto (tgt := 4) hx hb dX7_holdsOver_29 (by decide) ?_
          have h_5 : 0 ≤ (i + 1).toInt ∧ (i + 1).toInt ≤ 8 := by
            have u_1 := rg_e n9
            have u_2 := rg_e i
            have k_3 : (1 : Int32).toInt = 1 := rfl
            have k_5 : (8 : Int32).toInt = 8 := rfl
            have v_6 := cv_nle c_2
            have u_7 := rg_e (m_X5_covers q (Int32.toNatClampNeg i) r)
            have k_8 : (0 : Int32).toInt = 0 := rfl
            have v_9 := cv_eq c_4
            have w_10 := i1
            have u_4 := ad_o i 1
            omega
          have h_6 : 8 - (i + 1).toInt < (n : Int) := by
            have u_1 := rg_e n9
            have u_2 := rg_e i
            have k_3 : (1 : Int32).toInt = 1 := rfl
            have k_5 : (8 : Int32).toInt = 8 := rfl
            have v_6 := cv_nle c_2
            have u_7 := rg_e (m_X5_covers q (Int32.toNatClampNeg i) r)
            have k_8 : (0 : Int32).toInt = 0 := rfl
            have v_9 := cv_eq c_4
            have w_10 := i1
            have w_11 := hm
            have u_4 := ad_o i 1
            omega
          exact ih n9 (i + 1) h_5 h_6 (fun o_1 eo_1 => kk o_1 (eo_1.trans (by rw [m_X7_holdsOver_lp, if_neg c_2, if_pos c_4]))) _ _ hW hS ls (lv_sub hl [1, 0, 2, 3] rfl)
        · refine lv_iinc (v := (n9 + 1)) (lv' := [(2, .int (n9 + 1)), (3, .int i), (0, .ref (ad 0 0)), (1, .ref (ad 16 r))]) hx hb dX7_holdsOver_23 hl (k := 0) rfl (by first | rfl | decide) (by decide) rfl (fun ls hl => ?_)
          refine lv_iinc (v := (i + 1)) (lv' := [(3, .int (i + 1)), (2, .int (n9 + 1)), (0, .ref (ad 0 0)), (1, .ref (ad 16 r))]) hx hb dX7_holdsOver_26 hl (k := 1) rfl (by first | rfl | decide) (by decide) rfl (fun ls hl => ?_)
          refine lv_goto (tgt := 4) hx hb dX7_holdsOver_29 (by decide) ?_
          have h_7 : 0 ≤ (i + 1).toInt ∧ (i + 1).toInt ≤ 8 := by
            have u_1 := rg_e n9
            have k_2 : (1 : Int32).toInt = 1 := rfl
            have u_4 := rg_e i
            have k_6 : (8 : Int32).toInt = 8 := rfl
            have v_7 := cv_nle c_2
            have u_8 := rg_e (m_X5_covers q (Int32.toNatClampNeg i) r)
            have k_9 : (0 : Int32).toInt = 0 := rfl
            have v_10 := cv_ne c_4
            have w_11 := i1
            have u_3 := ad_o n9 1
            have u_5 := ad_o i 1
            omega
          have h_8 : 8 - (i + 1).toInt < (n : Int) := by
            have u_1 := rg_e n9
            have k_2 : (1 : Int32).toInt = 1 := rfl
            have u_4 := rg_e i
            have k_6 : (8 : Int32).toInt = 8 := rfl
            have v_7 := cv_nle c_2
            have u_8 := rg_e (m_X5_covers q (Int32.toNatClampNeg i) r)
            have k_9 : (0 : Int32).toInt = 0 := rfl
            have v_10 := cv_ne c_4
            have w_11 := i1
            have w_12 := hm
            have u_3 := ad_o n9 1
            have u_5 := ad_o i 1
            omega
          exact ih (n9 + 1) (i + 1) h_7 h_8 (fun o_1 eo_1 => kk o_1 (eo_1.trans (by rw [m_X7_holdsOver_lp, if_neg c_2, if_neg c_4]))) _ _ hW hS ls (lv_sub hl [1, 0, 2, 3] rfl)
  have h_10 : 0 ≤ (0 : Int32).toInt ∧ (0 : Int32).toInt ≤ 8 := by
    have k_1 : (0 : Int32).toInt = 0 := rfl
    omega
  have h_11 : 8 - (0 : Int32).toInt < ((9 : Nat) : Int) := by
    have k_1 : (0 : Int32).toInt = 0 := rfl
    omega
  refine lp_9 _ 9 0 0 h_10 h_11 (fun o_1 eo_1 H locs hW hS ls hl => ?_) _ _ hW hS ls (lv_sub hl [1, 0, 2, 3] rfl)
  refine lv_iload_n hx hb dX7_holdsOver_32 rfl (lv_at hl 0 rfl) ?_
  exact ow_iret hx hb hr hlk hK hW hS (by rw [m_X7_holdsOver, ← eo_1]) dX7_holdsOver_33

def m_X7_eventDay (q : qC) (r : Nat) : Int32 := (if (q.1 10 (Int32.toNatClampNeg (q.1 14 (Int32.toNatClampNeg (q.1 16 r 0)) 1)) 3) = 1 then (q.1 14 (Int32.toNatClampNeg (q.1 16 r 0)) 2) else (if (q.1 10 (Int32.toNatClampNeg (q.1 14 (Int32.toNatClampNeg (q.1 16 r 0)) 1)) 3) = 2 then (q.1 14 (Int32.toNatClampNeg (q.1 16 r 0)) 3) else (if (q.1 10 (Int32.toNatClampNeg (q.1 14 (Int32.toNatClampNeg (q.1 16 r 0)) 1)) 3) = 3 then (m_X1_fiscalEnd (q.1 16 r 6) (q.1 0 0 10)) else (q.1 16 r 6))))
set_option maxHeartbeats 4000000 in
set_option maxRecDepth 100000 in
theorem c_X7_eventDay (l : Launch) (D : va_G) (b0 : Nat) (cA : Nat → ClassId) (ad : Nat → Nat → Nat) (mq : qM) (q : qC) (r : Nat) (hpr : ¬ q.1 5 0 r = 0) (hI : cI q) : cc_i l yX7_eventDay wsX7_eventDay 3 68 D b0 cA ad mq q [.ref (ad 0 0), .ref (ad 16 r)] (m_X7_eventDay q r, q) := by
  refine cc_of (by decide) rfl (Nat.le_of_ble_eq_true rfl) ?_
  intro p e s m below meth c hx hb hml hr hlk hown hts hK hW hKD ls hl
  have hown : s.vm.findClass RX7 = some m.cls := hown
  have hS : va_S (wA b0) s.heap s.heap [] := va_S.rf
  have hl : lv_has ls 2 [(0, .ref (ad 0 0)), (1, .ref (ad 16 r))] := hl
  have hin_X7 : ∀ w ∈ wsX70, w ∈ wsX7_eventDay := fun w h => List.mem_cons_of_mem _ (List.mem_append_left _ (List.mem_append_left _ (List.mem_append_left _ (List.mem_append_right _ h))))
  have hin_X3 : ∀ w ∈ wsX30, w ∈ wsX7_eventDay := fun w h => List.mem_cons_of_mem _ (List.mem_append_left _ (List.mem_append_left _ (List.mem_append_right _ h)))
  have hin_X4 : ∀ w ∈ wsX40, w ∈ wsX7_eventDay := fun w h => List.mem_cons_of_mem _ (List.mem_append_left _ (List.mem_append_right _ h))
  have hin_X6 : ∀ w ∈ wsX60, w ∈ wsX7_eventDay := fun w h => List.mem_cons_of_mem _ (List.mem_append_right _ h)
  refine lv_aload_n hx hb dX7_eventDay_0 rfl (lv_at hl 0 rfl) ?_
  refine ow_get (v2 := .ref (ad 2 0)) (ci := 6) (C := RX7) (T := TX7) (N := 11) hx hb hts hin_X7 hown hK hW 0 0 (PO_k0) rfl 1 (by decide) (List.mem_of_getElem? (i := 1) rfl) rfl rfl rfl dX7_eventDay_1 ?_
  refine lv_aload_n hx hb dX7_eventDay_4 rfl (lv_at hl 1 rfl) ?_
  refine ow_get (v2 := .ref (ad 14 (Int32.toNatClampNeg (q.1 16 r 0)))) (ci := 2) (C := RX3) (T := TX3) (N := 8) hx hb hts hin_X3 hown hK hW 16 r (PO_k16 hpr) rfl 0 (by decide) (List.mem_of_getElem? (i := 2) rfl) rfl rfl rfl dX7_eventDay_5 ?_
  refine ow_get (v2 := .int (q.1 14 (Int32.toNatClampNeg (q.1 16 r 0)) 1)) (ci := 3) (C := RX4) (T := TX4) (N := 4) hx hb hts hin_X4 hown hK hW 14 (Int32.toNatClampNeg (q.1 16 r 0)) (PO_k14 (hI.1 r hpr)) rfl 1 (by decide) (List.mem_of_getElem? (i := 3) rfl) rfl rfl rfl dX7_eventDay_8 ?_
  have b_1 : vp_in (q.1 14 (Int32.toNatClampNeg (q.1 16 r 0)) 1) 8 := by
    have u_1 := rg_e (q.1 14 (Int32.toNatClampNeg (q.1 16 r 0)) 1)
    have w_2 := hI.2.1 (Int32.toNatClampNeg (q.1 16 r 0))
    have w_3 := hI.2.2.1 r
    have w_4 := hI.2.2.2.2.1
    exact vp_in_iff.mpr (by omega)
  refine ow_aald hx hb hK hW 2 0 (PO_k2) 3 rfl b_1 dX7_eventDay_11 ?_
  refine ow_get (v2 := .int (q.1 10 (Int32.toNatClampNeg (q.1 14 (Int32.toNatClampNeg (q.1 16 r 0)) 1)) 3)) (ci := 5) (C := RX6) (T := TX6) (N := 5) hx hb hts hin_X6 hown hK hW 10 (Int32.toNatClampNeg (q.1 14 (Int32.toNatClampNeg (q.1 16 r 0)) 1)) (PO_k10 (lt8 b_1)) rfl 3 (by decide) (List.mem_of_getElem? (i := 4) rfl) rfl rfl rfl dX7_eventDay_12 ?_
  by_cases c_2 : (q.1 10 (Int32.toNatClampNeg (q.1 14 (Int32.toNatClampNeg (q.1 16 r 0)) 1)) 3) = 1
  · refine lv_tableIn (tgt := 40) (off := 25) hx hb dX7_eventDay_15 (by rw [c_2]; decide) (by rw [c_2]; decide) (by rw [c_2]; decide) (by decide) ?_
    refine lv_aload_n hx hb dX7_eventDay_40 rfl (lv_at hl 1 rfl) ?_
    refine ow_get (v2 := .ref (ad 14 (Int32.toNatClampNeg (q.1 16 r 0)))) (ci := 2) (C := RX3) (T := TX3) (N := 8) hx hb hts hin_X3 hown hK hW 16 r (PO_k16 hpr) rfl 0 (by decide) (List.mem_of_getElem? (i := 2) rfl) rfl rfl rfl dX7_eventDay_41 ?_
    refine ow_get (v2 := .int (q.1 14 (Int32.toNatClampNeg (q.1 16 r 0)) 2)) (ci := 3) (C := RX4) (T := TX4) (N := 4) hx hb hts hin_X4 hown hK hW 14 (Int32.toNatClampNeg (q.1 16 r 0)) (PO_k14 (hI.1 r hpr)) rfl 2 (by decide) (List.mem_of_getElem? (i := 5) rfl) rfl rfl rfl dX7_eventDay_44 ?_
    exact ow_iret hx hb hr hlk hK hW hS (by rw [m_X7_eventDay, if_pos c_2]) dX7_eventDay_47
  · by_cases c_3 : (q.1 10 (Int32.toNatClampNeg (q.1 14 (Int32.toNatClampNeg (q.1 16 r 0)) 1)) 3) = 2
    · refine lv_tableIn (tgt := 48) (off := 33) hx hb dX7_eventDay_15 (by rw [c_3]; decide) (by rw [c_3]; decide) (by rw [c_3]; decide) (by decide) ?_
      refine lv_aload_n hx hb dX7_eventDay_48 rfl (lv_at hl 1 rfl) ?_
      refine ow_get (v2 := .ref (ad 14 (Int32.toNatClampNeg (q.1 16 r 0)))) (ci := 2) (C := RX3) (T := TX3) (N := 8) hx hb hts hin_X3 hown hK hW 16 r (PO_k16 hpr) rfl 0 (by decide) (List.mem_of_getElem? (i := 2) rfl) rfl rfl rfl dX7_eventDay_49 ?_
      refine ow_get (v2 := .int (q.1 14 (Int32.toNatClampNeg (q.1 16 r 0)) 3)) (ci := 3) (C := RX4) (T := TX4) (N := 4) hx hb hts hin_X4 hown hK hW 14 (Int32.toNatClampNeg (q.1 16 r 0)) (PO_k14 (hI.1 r hpr)) rfl 3 (by decide) (List.mem_of_getElem? (i := 6) rfl) rfl rfl rfl dX7_eventDay_52 ?_
      exact ow_iret hx hb hr hlk hK hW hS (by rw [m_X7_eventDay, if_neg c_2, if_pos c_3]) dX7_eventDay_55
    · by_cases c_4 : (q.1 10 (Int32.toNatClampNeg (q.1 14 (Int32.toNatClampNeg (q.1 16 r 0)) 1)) 3) = 3
      · refine lv_tableIn (tgt := 56) (off := 41) hx hb dX7_eventDay_15 (by rw [c_4]; decide) (by rw [c_4]; decide) (by rw [c_4]; decide) (by decide) ?_
        refine lv_aload_n hx hb dX7_eventDay_56 rfl (lv_at hl 1 rfl) ?_
        refine ow_get (v2 := .int (q.1 16 r 6)) (ci := 2) (C := RX3) (T := TX3) (N := 8) hx hb hts hin_X3 hown hK hW 16 r (PO_k16 hpr) rfl 6 (by decide) (List.mem_of_getElem? (i := 7) rfl) rfl rfl rfl dX7_eventDay_57 ?_
        refine lv_aload_n hx hb dX7_eventDay_60 rfl (lv_at hl 0 rfl) ?_
        refine ow_get (v2 := .int (q.1 0 0 10)) (ci := 6) (C := RX7) (T := TX7) (N := 11) hx hb hts hin_X7 hown hK hW 0 0 (PO_k0) rfl 10 (by decide) (List.mem_of_getElem? (i := 8) rfl) rfl rfl rfl dX7_eventDay_61 ?_
        have h_5 : 0 ≤ ((q.1 16 r 6) : Int32).toInt ∧ ((q.1 16 r 6) : Int32).toInt ≤ 120000 := by
          have u_1 := rg_e (q.1 16 r 6)
          have u_2 := rg_e (q.1 0 0 10)
          have u_3 := rg_e (q.1 10 (Int32.toNatClampNeg (q.1 14 (Int32.toNatClampNeg (q.1 16 r 0)) 1)) 3)
          have k_4 : (1 : Int32).toInt = 1 := rfl
          have v_5 := cv_ne c_2
          have k_6 : (2 : Int32).toInt = 2 := rfl
          have v_7 := cv_ne c_3
          have k_8 : (3 : Int32).toInt = 3 := rfl
          have v_9 := cv_eq c_4
          have w_10 := hI.2.1 (Int32.toNatClampNeg (q.1 16 r 0))
          have w_11 := hI.2.2.1 r
          have w_12 := hI.2.2.2.2.1
          exact by omega
        have h_6 : 1 ≤ ((q.1 0 0 10) : Int32).toInt ∧ ((q.1 0 0 10) : Int32).toInt ≤ 12 := by
          have u_1 := rg_e (q.1 16 r 6)
          have u_2 := rg_e (q.1 0 0 10)
          have u_3 := rg_e (q.1 10 (Int32.toNatClampNeg (q.1 14 (Int32.toNatClampNeg (q.1 16 r 0)) 1)) 3)
          have k_4 : (1 : Int32).toInt = 1 := rfl
          have v_5 := cv_ne c_2
          have k_6 : (2 : Int32).toInt = 2 := rfl
          have v_7 := cv_ne c_3
          have k_8 : (3 : Int32).toInt = 3 := rfl
          have v_9 := cv_eq c_4
          have w_10 := hI.2.1 (Int32.toNatClampNeg (q.1 16 r 0))
          have w_11 := hI.2.2.1 r
          have w_12 := hI.2.2.2.2.1
          exact by omega
        refine ow_callSi (n := 2) (As := [.int (q.1 16 r 6), .int (q.1 0 0 10)]) (rest := []) (r := (m_X1_fiscalEnd (q.1 16 r 6) (q.1 0 0 10))) (z2 := q) ⟨hx, hb, hml, hown, hts⟩ (c_X1_fiscalEnd l D b0 cA ad mq q (q.1 16 r 6) (q.1 0 0 10) h_5 h_6) gX7_eventDay_X1_fiscalEnd rfl (by decide +kernel) rfl ⟨Nat.le_of_ble_eq_true rfl, Nat.le_of_ble_eq_true rfl⟩ ⟨Nat.le_of_ble_eq_true rfl, Nat.le_of_ble_eq_true rfl⟩ hK hW hS hKD hl.1 rfl (Nat.le_of_ble_eq_true rfl) dX7_eventDay_64 (fun H locs hW hS => ?_)
        exact ow_iret hx hb hr hlk hK hW hS (by rw [m_X7_eventDay, if_neg c_2, if_neg c_3, if_pos c_4]) dX7_eventDay_67
      · refine lv_tableOut (tgt := 68) hx hb dX7_eventDay_15 (by have k_1 : (1 : Int32).toInt = 1 := rfl; have k_2 : (2 : Int32).toInt = 2 := rfl; have k_3 : (3 : Int32).toInt = 3 := rfl; have n_0 := cv_ne c_2; have n_1 := cv_ne c_3; have n_2 := cv_ne c_4; omega) (by decide) ?_
        refine lv_aload_n hx hb dX7_eventDay_68 rfl (lv_at hl 1 rfl) ?_
        refine ow_get (v2 := .int (q.1 16 r 6)) (ci := 2) (C := RX3) (T := TX3) (N := 8) hx hb hts hin_X3 hown hK hW 16 r (PO_k16 hpr) rfl 6 (by decide) (List.mem_of_getElem? (i := 7) rfl) rfl rfl rfl dX7_eventDay_69 ?_
        exact ow_iret hx hb hr hlk hK hW hS (by rw [m_X7_eventDay, if_neg c_2, if_neg c_3, if_neg c_4]) dX7_eventDay_72

theorem mf_rg2 (d : Int32) (h1 : 0 ≤ d.toInt) (h2 : d.toInt ≤ 120000) : 0 ≤ (m_X1_monthOf d).toInt ∧ (m_X1_monthOf d).toInt ≤ 4000 := by
  refine ⟨(mf_rg d h1 (by omega)).1, ?_⟩
  have k12 : (12 : Int32).toInt = 12 := rfl
  have k31 : (31 : Int32).toInt = 31 := rfl
  have k1 : (1 : Int32).toInt = 1 := rfl
  have e1 := dv_e 366 d (rfl : (366 : Int32).toInt = 366) (by decide) h1
  have e2 := mr_o 12 (d / 366) 12 rfl
  have e3 := fo_rg ((d / 366) * 12) (by omega) (by omega)
  have e4 := su_o d (m_X1_firstOf ((d / 366) * 12))
  have e9 : ((d / 366) * 12 : Int32).toInt = 12 * (d.toInt / 366) := by omega
  have e10 : (12 * (d.toInt / 366)) % 12 = 0 := by omega
  have e11 : 12 * (d.toInt / 366) / 12 = d.toInt / 366 := by omega
  rw [e9, e11] at e3
  have e12 := e3.2.2.2 e10
  have e5 := dv_e 31 (d - m_X1_firstOf ((d / 366) * 12)) (rfl : (31 : Int32).toInt = 31) (by decide) (by omega)
  have e6 := ad_o ((d / 366) * 12) ((d - m_X1_firstOf ((d / 366) * 12)) / 31)
  have e7 := ad_o (((d / 366) * 12) + ((d - m_X1_firstOf ((d / 366) * 12)) / 31)) 1
  unfold m_X1_monthOf
  split <;> omega
theorem ff_rg (d f : Int32) (h1 : 0 ≤ d.toInt) (h2 : d.toInt ≤ 120000) (h3 : 1 ≤ f.toInt) (h4 : f.toInt ≤ 12) : -1 ≤ (m_X1_fiscalEnd d f).toInt ∧ (m_X1_fiscalEnd d f).toInt ≤ 200000 := by
  have k13 : (13 : Int32).toInt = 13 := rfl
  have k12 : (12 : Int32).toInt = 12 := rfl
  have k1 : (1 : Int32).toInt = 1 := rfl
  have e1 := mf_rg2 d h1 h2
  have e2 := ad_o (m_X1_monthOf d) 13
  have e3 := su_o (m_X1_monthOf d + 13) f
  have e4 := rm_e 12 (m_X1_monthOf d + 13 - f) (rfl : (12 : Int32).toInt = 12) (by decide) (by omega)
  have e5 := su_o (m_X1_monthOf d) ((m_X1_monthOf d + 13 - f) - (m_X1_monthOf d + 13 - f) / 12 * 12)
  have e6 := ad_o (m_X1_monthOf d - ((m_X1_monthOf d + 13 - f) - (m_X1_monthOf d + 13 - f) / 12 * 12)) 12
  have e7 := fo_rg (m_X1_monthOf d - ((m_X1_monthOf d + 13 - f) - (m_X1_monthOf d + 13 - f) / 12 * 12) + 12) (by omega) (by omega)
  have e8 := su_o (m_X1_firstOf (m_X1_monthOf d - ((m_X1_monthOf d + 13 - f) - (m_X1_monthOf d + 13 - f) / 12 * 12) + 12)) 1
  unfold m_X1_fiscalEnd
  omega

theorem ed_rg {q : qC} (hI : cI q) (r : Nat) : -1 ≤ (m_X7_eventDay q r).toInt ∧ (m_X7_eventDay q r).toInt ≤ 200000 := by
  have h1 := hI.2.2.1 r
  have h2 := hI.2.2.2.2.2.2.2.1 (Int32.toNatClampNeg (q.1 16 r 0))
  have h3 := hI.2.2.2.2.2.2.2.2.1 (Int32.toNatClampNeg (q.1 16 r 0))
  have h4 := hI.2.2.2.2.1
  have h5 := ff_rg (q.1 16 r 6) (q.1 0 0 10) h1.1 h1.2 h4.1 h4.2
  unfold m_X7_eventDay
  repeat' split
  all_goals omega
theorem tr_rg {q : qC} (hI : cI q) (j : Nat) (d : Int32) : 0 ≤ (m_X6_termFor q j d).toInt ∧ (m_X6_termFor q j d).toInt ≤ 1211 := by
  unfold m_X6_termFor
  exact hI.2.2.2.2.2.2.2.2.2.1 _ _

def m_X7_dueDay (q : qC) (r : Nat) : Int32 := (if (m_X7_eventDay q r) = (-1) then (-1) else (m_X1_plus (m_X7_eventDay q r) (m_X6_termFor q (Int32.toNatClampNeg (q.1 14 (Int32.toNatClampNeg (q.1 16 r 0)) 1)) (m_X7_eventDay q r))))
set_option maxHeartbeats 4000000 in
set_option maxRecDepth 100000 in
theorem c_X7_dueDay (l : Launch) (D : va_G) (b0 : Nat) (cA : Nat → ClassId) (ad : Nat → Nat → Nat) (mq : qM) (q : qC) (r : Nat) (hpr : ¬ q.1 5 0 r = 0) (hI : cI q) : cc_i l yX7_dueDay wsX7_dueDay 4 89 D b0 cA ad mq q [.ref (ad 0 0), .ref (ad 16 r)] (m_X7_dueDay q r, q) := by
  refine cc_of (by decide) rfl (Nat.le_of_ble_eq_true rfl) ?_
  intro p e s m below meth c hx hb hml hr hlk hown hts hK hW hKD ls hl
  have hown : s.vm.findClass RX7 = some m.cls := hown
  have hS : va_S (wA b0) s.heap s.heap [] := va_S.rf
  have hl : lv_has ls 3 [(0, .ref (ad 0 0)), (1, .ref (ad 16 r))] := hl
  have hin_X7 : ∀ w ∈ wsX70, w ∈ wsX7_dueDay := fun w h => List.mem_cons_of_mem _ (List.mem_append_left _ (List.mem_append_left _ (List.mem_append_left _ (List.mem_append_right _ h))))
  have hin_X3 : ∀ w ∈ wsX30, w ∈ wsX7_dueDay := fun w h => List.mem_cons_of_mem _ (List.mem_append_left _ (List.mem_append_left _ (List.mem_append_right _ h)))
  have hin_X4 : ∀ w ∈ wsX40, w ∈ wsX7_dueDay := fun w h => List.mem_cons_of_mem _ (List.mem_append_left _ (List.mem_append_right _ h))
  have hin_X6 : ∀ w ∈ wsX60, w ∈ wsX7_dueDay := fun w h => List.mem_cons_of_mem _ (List.mem_append_right _ h)
  refine lv_aload_n hx hb dX7_dueDay_0 rfl (lv_at hl 0 rfl) ?_
  refine lv_aload_n hx hb dX7_dueDay_1 rfl (lv_at hl 1 rfl) ?_
  refine ow_callVi (C := RX7) (T := TX7) (N := 11) (ci := 6) (k := 0) (j := 0) (n := 1) (As := [.ref (ad 16 r)]) (rest := []) (r := (m_X7_eventDay q r)) (z2 := q) ⟨hx, hb, hml, hown, hts⟩ (c_X7_eventDay l D b0 cA ad mq q r hpr hI) (PO_k0) rfl gX7_dueDay_X7_eventDay rfl (by decide +kernel) rfl ⟨Nat.le_of_ble_eq_true rfl, Nat.le_of_ble_eq_true rfl⟩ ⟨Nat.le_of_ble_eq_true rfl, Nat.le_of_ble_eq_true rfl⟩ hK hW hS hKD hl.1 rfl (Nat.le_of_ble_eq_true rfl) dX7_dueDay_2 (fun H locs hW hS => ?_)
  refine lv_istore_n (lv' := [(2, .int (m_X7_eventDay q r)), (0, .ref (ad 0 0)), (1, .ref (ad 16 r))]) hx hb dX7_dueDay_5 rfl hl (by decide) rfl (fun ls hl => ?_)
  refine lv_iload_n hx hb dX7_dueDay_6 rfl (lv_at hl 0 rfl) ?_
  refine lv_iconst (v := (-1)) hx hb dX7_dueDay_7 (by decide) ?_
  refine lv_icmp_ne (tgt := 13) hx hb dX7_dueDay_8 (by decide) (fun c_1 => ?_) (fun c_1 => ?_)
  · refine lv_iload_n hx hb dX7_dueDay_13 rfl (lv_at hl 0 rfl) ?_
    refine lv_aload_n hx hb dX7_dueDay_14 rfl (lv_at hl 1 rfl) ?_
    refine ow_get (v2 := .ref (ad 2 0)) (ci := 6) (C := RX7) (T := TX7) (N := 11) hx hb hts hin_X7 hown hK hW 0 0 (PO_k0) rfl 1 (by decide) (List.mem_of_getElem? (i := 1) rfl) rfl rfl rfl dX7_dueDay_15 ?_
    refine lv_aload_n hx hb dX7_dueDay_18 rfl (lv_at hl 2 rfl) ?_
    refine ow_get (v2 := .ref (ad 14 (Int32.toNatClampNeg (q.1 16 r 0)))) (ci := 2) (C := RX3) (T := TX3) (N := 8) hx hb hts hin_X3 hown hK hW 16 r (PO_k16 hpr) rfl 0 (by decide) (List.mem_of_getElem? (i := 2) rfl) rfl rfl rfl dX7_dueDay_19 ?_
    refine ow_get (v2 := .int (q.1 14 (Int32.toNatClampNeg (q.1 16 r 0)) 1)) (ci := 3) (C := RX4) (T := TX4) (N := 4) hx hb hts hin_X4 hown hK hW 14 (Int32.toNatClampNeg (q.1 16 r 0)) (PO_k14 (hI.1 r hpr)) rfl 1 (by decide) (List.mem_of_getElem? (i := 3) rfl) rfl rfl rfl dX7_dueDay_22 ?_
    have b_2 : vp_in (q.1 14 (Int32.toNatClampNeg (q.1 16 r 0)) 1) 8 := by
      have u_1 := rg_e (q.1 14 (Int32.toNatClampNeg (q.1 16 r 0)) 1)
      have u_2 := rg_e (m_X7_eventDay q r)
      have k_4 : ((-1) : Int32).toInt = -1 := rfl
      have v_5 := cv_ne c_1
      have w_6 := hI.2.1 (Int32.toNatClampNeg (q.1 16 r 0))
      have w_7 := hI.2.2.1 r
      have w_8 := hI.2.2.2.2.1
      have u_3 := ed_rg hI r
      exact vp_in_iff.mpr (by omega)
    refine ow_aald hx hb hK hW 2 0 (PO_k2) 3 rfl b_2 dX7_dueDay_25 ?_
    refine lv_iload_n hx hb dX7_dueDay_26 rfl (lv_at hl 0 rfl) ?_
    refine ow_callVi (C := RX6) (T := TX6) (N := 5) (ci := 5) (k := 10) (j := (Int32.toNatClampNeg (q.1 14 (Int32.toNatClampNeg (q.1 16 r 0)) 1))) (n := 1) (As := [.int (m_X7_eventDay q r)]) (rest := [.int (m_X7_eventDay q r)]) (r := (m_X6_termFor q (Int32.toNatClampNeg (q.1 14 (Int32.toNatClampNeg (q.1 16 r 0)) 1)) (m_X7_eventDay q r))) (z2 := q) ⟨hx, hb, hml, hown, hts⟩ (c_X6_termFor l D b0 cA ad mq q (Int32.toNatClampNeg (q.1 14 (Int32.toNatClampNeg (q.1 16 r 0)) 1)) (m_X7_eventDay q r) (lt8 b_2) (hI.2.2.2.1 (Int32.toNatClampNeg (q.1 14 (Int32.toNatClampNeg (q.1 16 r 0)) 1)))) (PO_k10 (lt8 b_2)) rfl gX7_dueDay_X6_termFor rfl (by decide +kernel) rfl ⟨Nat.le_of_ble_eq_true rfl, Nat.le_of_ble_eq_true rfl⟩ ⟨Nat.le_of_ble_eq_true rfl, Nat.le_of_ble_eq_true rfl⟩ hK hW hS hKD hl.1 rfl (Nat.le_of_ble_eq_true rfl) dX7_dueDay_27 (fun H locs hW hS => ?_)
    have h_3 : 0 ≤ ((m_X7_eventDay q r) : Int32).toInt ∧ ((m_X7_eventDay q r) : Int32).toInt ≤ 200000 := by
      have u_1 := rg_e (m_X7_eventDay q r)
      have u_3 := rg_e (m_X6_termFor q (Int32.toNatClampNeg (q.1 14 (Int32.toNatClampNeg (q.1 16 r 0)) 1)) (m_X7_eventDay q r))
      have k_5 : ((-1) : Int32).toInt = -1 := rfl
      have v_6 := cv_ne c_1
      have w_7 := hI.2.1 (Int32.toNatClampNeg (q.1 16 r 0))
      have w_8 := hI.2.2.1 r
      have w_9 := hI.2.2.2.2.1
      have u_2 := ed_rg hI r
      have u_4 := tr_rg hI (Int32.toNatClampNeg (q.1 14 (Int32.toNatClampNeg (q.1 16 r 0)) 1)) (m_X7_eventDay q r)
      exact by omega
    have h_4 : 0 ≤ ((m_X6_termFor q (Int32.toNatClampNeg (q.1 14 (Int32.toNatClampNeg (q.1 16 r 0)) 1)) (m_X7_eventDay q r)) : Int32).toInt ∧ ((m_X6_termFor q (Int32.toNatClampNeg (q.1 14 (Int32.toNatClampNeg (q.1 16 r 0)) 1)) (m_X7_eventDay q r)) : Int32).toInt ≤ 2000 := by
      have u_1 := rg_e (m_X7_eventDay q r)
      have u_3 := rg_e (m_X6_termFor q (Int32.toNatClampNeg (q.1 14 (Int32.toNatClampNeg (q.1 16 r 0)) 1)) (m_X7_eventDay q r))
      have k_5 : ((-1) : Int32).toInt = -1 := rfl
      have v_6 := cv_ne c_1
      have w_7 := hI.2.1 (Int32.toNatClampNeg (q.1 16 r 0))
      have w_8 := hI.2.2.1 r
      have w_9 := hI.2.2.2.2.1
      have u_2 := ed_rg hI r
      have u_4 := tr_rg hI (Int32.toNatClampNeg (q.1 14 (Int32.toNatClampNeg (q.1 16 r 0)) 1)) (m_X7_eventDay q r)
      exact by omega
    refine ow_callSi (n := 2) (As := [.int (m_X7_eventDay q r), .int (m_X6_termFor q (Int32.toNatClampNeg (q.1 14 (Int32.toNatClampNeg (q.1 16 r 0)) 1)) (m_X7_eventDay q r))]) (rest := []) (r := (m_X1_plus (m_X7_eventDay q r) (m_X6_termFor q (Int32.toNatClampNeg (q.1 14 (Int32.toNatClampNeg (q.1 16 r 0)) 1)) (m_X7_eventDay q r)))) (z2 := q) ⟨hx, hb, hml, hown, hts⟩ (c_X1_plus l D b0 cA ad mq q (m_X7_eventDay q r) (m_X6_termFor q (Int32.toNatClampNeg (q.1 14 (Int32.toNatClampNeg (q.1 16 r 0)) 1)) (m_X7_eventDay q r)) h_3 h_4) gX7_dueDay_X1_plus rfl (by decide +kernel) rfl ⟨Nat.le_of_ble_eq_true rfl, Nat.le_of_ble_eq_true rfl⟩ ⟨Nat.le_of_ble_eq_true rfl, Nat.le_of_ble_eq_true rfl⟩ hK hW hS hKD hl.1 rfl (Nat.le_of_ble_eq_true rfl) dX7_dueDay_30 (fun H locs hW hS => ?_)
    exact ow_iret hx hb hr hlk hK hW hS (by rw [m_X7_dueDay, if_neg c_1]) dX7_dueDay_33
  · refine lv_iconst (v := (-1)) hx hb dX7_dueDay_11 (by decide) ?_
    exact ow_iret hx hb hr hlk hK hW hS (by rw [m_X7_dueDay, if_pos c_1]) dX7_dueDay_12

def m_X7_digestOf (q : qC) (r : Int32) : Int64 := (if r < 0 then 0 else (if (q.1 0 0 7) ≤ r then 0 else (q.2 16 (Int32.toNatClampNeg r) 2)))
set_option maxHeartbeats 4000000 in
set_option maxRecDepth 100000 in
theorem c_X7_digestOf (l : Launch) (D : va_G) (b0 : Nat) (cA : Nat → ClassId) (ad : Nat → Nat → Nat) (mq : qM) (q : qC) (r : Int32) (hI : cI q) : cc_l l yX7_digestOf wsX7_digestOf 0 0 D b0 cA ad mq q [.ref (ad 0 0), .int r] (m_X7_digestOf q r, q) := by
  refine cc_of (by decide) rfl (Nat.le_of_ble_eq_true rfl) ?_
  intro p e s m below meth c hx hb hml hr hlk hown hts hK hW hKD ls hl
  have hown : s.vm.findClass RX7 = some m.cls := hown
  have hS : va_S (wA b0) s.heap s.heap [] := va_S.rf
  have hl : lv_has ls 2 [(0, .ref (ad 0 0)), (1, .int r)] := hl
  have hin_X7 : ∀ w ∈ wsX70, w ∈ wsX7_digestOf := fun w h => List.mem_cons_of_mem _ (List.mem_append_left _ (List.mem_append_right _ h))
  have hin_X3 : ∀ w ∈ wsX30, w ∈ wsX7_digestOf := fun w h => List.mem_cons_of_mem _ (List.mem_append_right _ h)
  refine lv_iload_n hx hb dX7_digestOf_0 rfl (lv_at hl 1 rfl) ?_
  refine lv_if_lt (tgt := 24) hx hb dX7_digestOf_1 (by decide) (fun c_1 => ?_) (fun c_1 => ?_)
  · refine lv_lconst (v := 0) hx hb dX7_digestOf_24 (by decide) ?_
    exact ow_lret hx hb hr hlk hK hW hS (by rw [m_X7_digestOf, if_pos c_1]) dX7_digestOf_25
  · refine lv_iload_n hx hb dX7_digestOf_4 rfl (lv_at hl 1 rfl) ?_
    refine lv_aload_n hx hb dX7_digestOf_5 rfl (lv_at hl 0 rfl) ?_
    refine ow_get (v2 := .int (q.1 0 0 7)) (ci := 6) (C := RX7) (T := TX7) (N := 11) hx hb hts hin_X7 hown hK hW 0 0 (PO_k0) rfl 7 (by decide) (List.mem_of_getElem? (i := 1) rfl) rfl rfl rfl dX7_digestOf_6 ?_
    refine lv_icmp_ge (tgt := 24) hx hb dX7_digestOf_9 (by decide) (fun c_2 => ?_) (fun c_2 => ?_)
    · refine lv_lconst (v := 0) hx hb dX7_digestOf_24 (by decide) ?_
      exact ow_lret hx hb hr hlk hK hW hS (by rw [m_X7_digestOf, if_neg c_1, if_pos c_2]) dX7_digestOf_25
    · refine lv_aload_n hx hb dX7_digestOf_12 rfl (lv_at hl 0 rfl) ?_
      refine ow_get (v2 := .ref (ad 5 0)) (ci := 6) (C := RX7) (T := TX7) (N := 11) hx hb hts hin_X7 hown hK hW 0 0 (PO_k0) rfl 4 (by decide) (List.mem_of_getElem? (i := 2) rfl) rfl rfl rfl dX7_digestOf_13 ?_
      refine lv_iload_n hx hb dX7_digestOf_16 rfl (lv_at hl 1 rfl) ?_
      have b_3 : vp_in r 64 := by
        have u_1 := rg_e r
        have k_2 : (0 : Int32).toInt = 0 := rfl
        have v_3 := cv_nlt c_1
        have u_4 := rg_e (q.1 0 0 7)
        have v_5 := cv_nle c_2
        have w_6 := hI.2.2.2.2.2.1
        exact vp_in_iff.mpr (by omega)
      refine ow_aldp hx hb hK hW 5 0 (PO_k5) 6 rfl b_3 (cI_rec hI (by have := cv_nlt c_1; exact this) (by have := cv_nle c_2; exact this)) dX7_digestOf_17 ?_
      refine ow_get (v2 := .long (q.2 16 (Int32.toNatClampNeg r) 2)) (ci := 2) (C := RX3) (T := TX3) (N := 8) hx hb hts hin_X3 hown hK hW 16 (Int32.toNatClampNeg r) (PO_k16 (cI_rec hI (by have := cv_nlt c_1; exact this) (by have := cv_nle c_2; exact this))) rfl 2 (by decide) (List.mem_of_getElem? (i := 3) rfl) rfl rfl rfl dX7_digestOf_18 ?_
      refine lv_goto (tgt := 25) hx hb dX7_digestOf_21 (by decide) ?_
      exact ow_lret hx hb hr hlk hK hW hS (by rw [m_X7_digestOf, if_neg c_1, if_neg c_2]) dX7_digestOf_25

def m_X7_bytesKept_lp (q : qC) : Nat → Int32 → Int32 → Int32
  | 0, _, _ => 0
  | n + 1, by9, i => (if (q.1 0 0 7) ≤ i then by9 else (if (q.1 16 (Int32.toNatClampNeg i) 7) = 0 then (m_X7_bytesKept_lp q n (by9 + (q.1 16 (Int32.toNatClampNeg i) 1)) (i + 1)) else (m_X7_bytesKept_lp q n by9 (i + 1))))
def m_X7_bytesKept (q : qC) : Int32 := (m_X7_bytesKept_lp q 66 0 0)
set_option maxHeartbeats 4000000 in
set_option maxRecDepth 100000 in
theorem c_X7_bytesKept (l : Launch) (D : va_G) (b0 : Nat) (cA : Nat → ClassId) (ad : Nat → Nat → Nat) (mq : qM) (q : qC) (hI : cI q) : cc_i l yX7_bytesKept wsX7_bytesKept 0 0 D b0 cA ad mq q [.ref (ad 0 0)] (m_X7_bytesKept q, q) := by
  refine cc_of (by decide) rfl (Nat.le_of_ble_eq_true rfl) ?_
  intro p e s m below meth c hx hb hml hr hlk hown hts hK hW hKD ls hl
  have hown : s.vm.findClass RX7 = some m.cls := hown
  have hS : va_S (wA b0) s.heap s.heap [] := va_S.rf
  have hl : lv_has ls 3 [(0, .ref (ad 0 0))] := hl
  have hin_X7 : ∀ w ∈ wsX70, w ∈ wsX7_bytesKept := fun w h => List.mem_cons_of_mem _ (List.mem_append_left _ (List.mem_append_right _ h))
  have hin_X3 : ∀ w ∈ wsX30, w ∈ wsX7_bytesKept := fun w h => List.mem_cons_of_mem _ (List.mem_append_right _ h)
  refine lv_iconst (v := 0) hx hb dX7_bytesKept_0 (by decide) ?_
  refine lv_istore_n (lv' := [(1, .int 0), (0, .ref (ad 0 0))]) hx hb dX7_bytesKept_1 rfl hl (by decide) rfl (fun ls hl => ?_)
  refine lv_iconst (v := 0) hx hb dX7_bytesKept_2 (by decide) ?_
  refine lv_istore_n (lv' := [(2, .int 0), (1, .int 0), (0, .ref (ad 0 0))]) hx hb dX7_bytesKept_3 rfl hl (by decide) rfl (fun ls hl => ?_)
  have lp_10 : ∀ (Q : State → Prop) (n : Nat) (by9 : Int32) (i : Int32), (0 ≤ i.toInt ∧ i.toInt ≤ 64) → 64 - i.toInt < (n : Int) → (∀ o_1 : Int32, o_1 = (m_X7_bytesKept_lp q n by9 i) → ∀ (H : Heap) (locs : List Loc), wd D (wA b0) (PO cA ad q mq) ad H → va_S (wA b0) s.heap H locs → ∀ ls : Array Slot, lv_has ls 3 [(1, .int o_1), (0, .ref (ad 0 0))] → W p l e { frames := 0, cells := 0, slots := 0, locals := 0 } s m [.ref (ad 0 0)].toArray below meth c H locs 0 0 Q (F0 m 42 ls [])) → ∀ (H : Heap) (locs : List Loc), wd D (wA b0) (PO cA ad q mq) ad H → va_S (wA b0) s.heap H locs → ∀ ls : Array Slot, lv_has ls 3 [(1, .int by9), (2, .int i), (0, .ref (ad 0 0))] → W p l e { frames := 0, cells := 0, slots := 0, locals := 0 } s m [.ref (ad 0 0)].toArray below meth c H locs 0 0 Q (F0 m 4 ls []) := by
    intro Q n
    induction n with
    | zero =>
      intro by9 i i1 hm
      have hz : 0 ≤ 64 - i.toInt := by
        have w_1 := hI.2.2.2.2.2.1
        have w_2 := i1
        omega
      exact absurd hm (by omega)
    | succ n ih =>
      intro by9 i i1 hm kk H locs hW hS ls hl
      refine lv_iload_n hx hb dX7_bytesKept_4 rfl (lv_at hl 1 rfl) ?_
      refine lv_aload_n hx hb dX7_bytesKept_5 rfl (lv_at hl 2 rfl) ?_
      refine ow_get (v2 := .int (q.1 0 0 7)) (ci := 6) (C := RX7) (T := TX7) (N := 11) hx hb hts hin_X7 hown hK hW 0 0 (PO_k0) rfl 7 (by decide) (List.mem_of_getElem? (i := 1) rfl) rfl rfl rfl dX7_bytesKept_6 ?_
      refine lv_icmp_ge (tgt := 42) hx hb dX7_bytesKept_9 (by decide) (fun c_2 => ?_) (fun c_2 => ?_)
      · exact kk by9 (by rw [m_X7_bytesKept_lp, if_pos c_2])  H locs hW hS ls (lv_sub hl [0, 2] rfl)
      · refine lv_aload_n hx hb dX7_bytesKept_12 rfl (lv_at hl 2 rfl) ?_
        refine ow_get (v2 := .ref (ad 5 0)) (ci := 6) (C := RX7) (T := TX7) (N := 11) hx hb hts hin_X7 hown hK hW 0 0 (PO_k0) rfl 4 (by decide) (List.mem_of_getElem? (i := 2) rfl) rfl rfl rfl dX7_bytesKept_13 ?_
        refine lv_iload_n hx hb dX7_bytesKept_16 rfl (lv_at hl 1 rfl) ?_
        have b_3 : vp_in i 64 := by
          have u_1 := rg_e i
          have u_2 := rg_e (q.1 0 0 7)
          have v_3 := cv_nle c_2
          have w_4 := hI.2.2.2.2.2.1
          have w_5 := i1
          exact vp_in_iff.mpr (by omega)
        refine ow_aldp hx hb hK hW 5 0 (PO_k5) 6 rfl b_3 (cI_rec hI i1.1 (cv_nle c_2)) dX7_bytesKept_17 ?_
        refine ow_get (v2 := .int (q.1 16 (Int32.toNatClampNeg i) 7)) (ci := 2) (C := RX3) (T := TX3) (N := 8) hx hb hts hin_X3 hown hK hW 16 (Int32.toNatClampNeg i) (PO_k16 (cI_rec hI i1.1 (cv_nle c_2))) rfl 7 (by decide) (List.mem_of_getElem? (i := 3) rfl) rfl rfl rfl dX7_bytesKept_18 ?_
        refine lv_if_ne (tgt := 36) hx hb dX7_bytesKept_21 (by decide) (fun c_4 => ?_) (fun c_4 => ?_)
        · refine lv_iinc (v := (i + 1)) (lv' := [(2, .int (i + 1)), (1, .int by9), (0, .ref (ad 0 0))]) hx hb dX7_bytesKept_36 hl (k := 1) rfl (by first | rfl | decide) (by decide) rfl (fun ls hl => ?_)
          refine lv_goto (tgt := 4) hx hb dX7_bytesKept_39 (by decide) ?_
          have h_5 : 0 ≤ (i + 1).toInt ∧ (i + 1).toInt ≤ 64 := by
            have u_1 := rg_e by9
            have u_2 := rg_e i
            have k_3 : (1 : Int32).toInt = 1 := rfl
            have u_5 := rg_e (q.1 0 0 7)
            have v_6 := cv_nle c_2
            have u_7 := rg_e (q.1 16 (Int32.toNatClampNeg i) 7)
            have k_8 : (0 : Int32).toInt = 0 := rfl
            have v_9 := cv_ne c_4
            have w_10 := hI.2.2.2.2.2.1
            have w_11 := i1
            have u_4 := ad_o i 1
            omega
          have h_6 : 64 - (i + 1).toInt < (n : Int) := by
            have u_1 := rg_e by9
            have u_2 := rg_e i
            have k_3 : (1 : Int32).toInt = 1 := rfl
            have u_5 := rg_e (q.1 0 0 7)
            have v_6 := cv_nle c_2
            have u_7 := rg_e (q.1 16 (Int32.toNatClampNeg i) 7)
            have k_8 : (0 : Int32).toInt = 0 := rfl
            have v_9 := cv_ne c_4
            have w_10 := hI.2.2.2.2.2.1
            have w_11 := i1
            have w_12 := hm
            have u_4 := ad_o i 1
            omega
          exact ih by9 (i + 1) h_5 h_6 (fun o_1 eo_1 => kk o_1 (eo_1.trans (by rw [m_X7_bytesKept_lp, if_neg c_2, if_neg c_4]))) _ _ hW hS ls (lv_sub hl [1, 0, 2] rfl)
        · refine lv_iload_n hx hb dX7_bytesKept_24 rfl (lv_at hl 0 rfl) ?_
          refine lv_aload_n hx hb dX7_bytesKept_25 rfl (lv_at hl 2 rfl) ?_
          refine ow_get (v2 := .ref (ad 5 0)) (ci := 6) (C := RX7) (T := TX7) (N := 11) hx hb hts hin_X7 hown hK hW 0 0 (PO_k0) rfl 4 (by decide) (List.mem_of_getElem? (i := 2) rfl) rfl rfl rfl dX7_bytesKept_26 ?_
          refine lv_iload_n hx hb dX7_bytesKept_29 rfl (lv_at hl 1 rfl) ?_
          have b_7 : vp_in i 64 := by
            have u_1 := rg_e i
            have u_2 := rg_e (q.1 0 0 7)
            have v_3 := cv_nle c_2
            have u_4 := rg_e (q.1 16 (Int32.toNatClampNeg i) 7)
            have k_5 : (0 : Int32).toInt = 0 := rfl
            have v_6 := cv_eq c_4
            have w_7 := hI.2.2.2.2.2.1
            have w_8 := i1
            exact vp_in_iff.mpr (by omega)
          refine ow_aldp hx hb hK hW 5 0 (PO_k5) 6 rfl b_7 (cI_rec hI i1.1 (cv_nle c_2)) dX7_bytesKept_30 ?_
          refine ow_get (v2 := .int (q.1 16 (Int32.toNatClampNeg i) 1)) (ci := 2) (C := RX3) (T := TX3) (N := 8) hx hb hts hin_X3 hown hK hW 16 (Int32.toNatClampNeg i) (PO_k16 (cI_rec hI i1.1 (cv_nle c_2))) rfl 1 (by decide) (List.mem_of_getElem? (i := 4) rfl) rfl rfl rfl dX7_bytesKept_31 ?_
          refine lv_iadd hx hb dX7_bytesKept_34 ?_
          refine lv_istore_n (lv' := [(1, .int (by9 + (q.1 16 (Int32.toNatClampNeg i) 1))), (2, .int i), (0, .ref (ad 0 0))]) hx hb dX7_bytesKept_35 rfl hl (by decide) rfl (fun ls hl => ?_)
          refine lv_iinc (v := (i + 1)) (lv' := [(2, .int (i + 1)), (1, .int (by9 + (q.1 16 (Int32.toNatClampNeg i) 1))), (0, .ref (ad 0 0))]) hx hb dX7_bytesKept_36 hl (k := 1) rfl (by first | rfl | decide) (by decide) rfl (fun ls hl => ?_)
          refine lv_goto (tgt := 4) hx hb dX7_bytesKept_39 (by decide) ?_
          have h_8 : 0 ≤ (i + 1).toInt ∧ (i + 1).toInt ≤ 64 := by
            have u_1 := rg_e by9
            have u_2 := rg_e (q.1 16 (Int32.toNatClampNeg i) 1)
            have u_4 := rg_e i
            have k_5 : (1 : Int32).toInt = 1 := rfl
            have u_7 := rg_e (q.1 0 0 7)
            have v_8 := cv_nle c_2
            have u_9 := rg_e (q.1 16 (Int32.toNatClampNeg i) 7)
            have k_10 : (0 : Int32).toInt = 0 := rfl
            have v_11 := cv_eq c_4
            have w_12 := hI.2.2.2.2.2.1
            have w_13 := i1
            have u_3 := ad_o by9 (q.1 16 (Int32.toNatClampNeg i) 1)
            have u_6 := ad_o i 1
            omega
          have h_9 : 64 - (i + 1).toInt < (n : Int) := by
            have u_1 := rg_e by9
            have u_2 := rg_e (q.1 16 (Int32.toNatClampNeg i) 1)
            have u_4 := rg_e i
            have k_5 : (1 : Int32).toInt = 1 := rfl
            have u_7 := rg_e (q.1 0 0 7)
            have v_8 := cv_nle c_2
            have u_9 := rg_e (q.1 16 (Int32.toNatClampNeg i) 7)
            have k_10 : (0 : Int32).toInt = 0 := rfl
            have v_11 := cv_eq c_4
            have w_12 := hI.2.2.2.2.2.1
            have w_13 := i1
            have w_14 := hm
            have u_3 := ad_o by9 (q.1 16 (Int32.toNatClampNeg i) 1)
            have u_6 := ad_o i 1
            omega
          exact ih (by9 + (q.1 16 (Int32.toNatClampNeg i) 1)) (i + 1) h_8 h_9 (fun o_1 eo_1 => kk o_1 (eo_1.trans (by rw [m_X7_bytesKept_lp, if_neg c_2, if_pos c_4]))) _ _ hW hS ls (lv_sub hl [1, 0, 2] rfl)
  have h_11 : 0 ≤ (0 : Int32).toInt ∧ (0 : Int32).toInt ≤ 64 := by
    have k_1 : (0 : Int32).toInt = 0 := rfl
    have w_2 := hI.2.2.2.2.2.1
    omega
  have h_12 : 64 - (0 : Int32).toInt < ((66 : Nat) : Int) := by
    have k_1 : (0 : Int32).toInt = 0 := rfl
    have w_2 := hI.2.2.2.2.2.1
    omega
  refine lp_10 _ 66 0 0 h_11 h_12 (fun o_1 eo_1 H locs hW hS ls hl => ?_) _ _ hW hS ls (lv_sub hl [1, 0, 2] rfl)
  refine lv_iload_n hx hb dX7_bytesKept_42 rfl (lv_at hl 0 rfl) ?_
  exact ow_iret hx hb hr hlk hK hW hS (by rw [m_X7_bytesKept, ← eo_1]) dX7_bytesKept_43

def m_X7_ripeOn_lp (q : qC) (day : Int32) : Nat → Int64 → Int32 → Int64
  | 0, _, _ => 0
  | n + 1, rp, i => (if (q.1 0 0 7) ≤ i then rp else (if (q.1 16 (Int32.toNatClampNeg i) 7) = 0 then (if (m_X7_holdsOver q (Int32.toNatClampNeg i)) = 0 then (if (m_X7_dueDay q (Int32.toNatClampNeg i)) = (-1) then (m_X7_ripeOn_lp q day n rp (i + 1)) else (if day < (m_X7_dueDay q (Int32.toNatClampNeg i)) then (m_X7_ripeOn_lp q day n rp (i + 1)) else (m_X7_ripeOn_lp q day n (rp ||| ((1 <<< (Int32.toInt64 i &&& 63)))) (i + 1)))) else (m_X7_ripeOn_lp q day n rp (i + 1))) else (m_X7_ripeOn_lp q day n rp (i + 1))))
def m_X7_ripeOn (q : qC) (day : Int32) : Int64 := (m_X7_ripeOn_lp q day 66 0 0)
set_option maxHeartbeats 4000000 in
set_option maxRecDepth 100000 in
theorem c_X7_ripeOn (l : Launch) (D : va_G) (b0 : Nat) (cA : Nat → ClassId) (ad : Nat → Nat → Nat) (mq : qM) (q : qC) (day : Int32) (hI : cI q) : cc_l l yX7_ripeOn wsX7_ripeOn 5 111 D b0 cA ad mq q [.ref (ad 0 0), .int day] (m_X7_ripeOn q day, q) := by
  refine cc_of (by decide) rfl (Nat.le_of_ble_eq_true rfl) ?_
  intro p e s m below meth c hx hb hml hr hlk hown hts hK hW hKD ls hl
  have hown : s.vm.findClass RX7 = some m.cls := hown
  have hS : va_S (wA b0) s.heap s.heap [] := va_S.rf
  have hl : lv_has ls 7 [(0, .ref (ad 0 0)), (1, .int day)] := hl
  have hin_X7 : ∀ w ∈ wsX70, w ∈ wsX7_ripeOn := fun w h => List.mem_cons_of_mem _ (List.mem_append_left _ (List.mem_append_left _ (List.mem_append_left _ (List.mem_append_left _ (List.mem_append_right _ h)))))
  have hin_X3 : ∀ w ∈ wsX30, w ∈ wsX7_ripeOn := fun w h => List.mem_cons_of_mem _ (List.mem_append_left _ (List.mem_append_left _ (List.mem_append_left _ (List.mem_append_right _ h))))
  have hin_X5 : ∀ w ∈ wsX50, w ∈ wsX7_ripeOn := fun w h => List.mem_cons_of_mem _ (List.mem_append_left _ (List.mem_append_left _ (List.mem_append_right _ h)))
  have hin_X4 : ∀ w ∈ wsX40, w ∈ wsX7_ripeOn := fun w h => List.mem_cons_of_mem _ (List.mem_append_left _ (List.mem_append_right _ h))
  have hin_X6 : ∀ w ∈ wsX60, w ∈ wsX7_ripeOn := fun w h => List.mem_cons_of_mem _ (List.mem_append_right _ h)
  refine lv_lconst (v := 0) hx hb dX7_ripeOn_0 (by decide) ?_
  refine lv_lstore_n (lv' := [(2, .long 0), (0, .ref (ad 0 0)), (1, .int day)]) hx hb dX7_ripeOn_1 rfl hl (by decide) rfl (fun ls hl => ?_)
  refine lv_iconst (v := 0) hx hb dX7_ripeOn_2 (by decide) ?_
  refine lv_istore (lv' := [(4, .int 0), (2, .long 0), (0, .ref (ad 0 0)), (1, .int day)]) hx hb dX7_ripeOn_3 hl (by decide) rfl (fun ls hl => ?_)
  have lp_18 : ∀ (Q : State → Prop) (n : Nat) (rp : Int64) (i : Int32), (0 ≤ i.toInt ∧ i.toInt ≤ 64) → 64 - i.toInt < (n : Int) → (∀ o_1 : Int64, o_1 = (m_X7_ripeOn_lp q day n rp i) → ∀ (H : Heap) (locs : List Loc), wd D (wA b0) (PO cA ad q mq) ad H → va_S (wA b0) s.heap H locs → ∀ ls : Array Slot, lv_has ls 7 [(2, .long o_1), (0, .ref (ad 0 0)), (1, .int day)] → W p l e { frames := 5, cells := 0, slots := 0, locals := 111 } s m [.ref (ad 0 0), .int day].toArray below meth c H locs 0 0 Q (F0 m 73 ls [])) → ∀ (H : Heap) (locs : List Loc), wd D (wA b0) (PO cA ad q mq) ad H → va_S (wA b0) s.heap H locs → ∀ ls : Array Slot, lv_has ls 7 [(2, .long rp), (4, .int i), (0, .ref (ad 0 0)), (1, .int day)] → W p l e { frames := 5, cells := 0, slots := 0, locals := 111 } s m [.ref (ad 0 0), .int day].toArray below meth c H locs 0 0 Q (F0 m 5 ls []) := by
    intro Q n
    induction n with
    | zero =>
      intro rp i i1 hm
      have hz : 0 ≤ 64 - i.toInt := by
        have w_1 := hI.2.2.2.2.2.1
        have w_2 := i1
        omega
      exact absurd hm (by omega)
    | succ n ih =>
      intro rp i i1 hm kk H locs hW hS ls hl
      refine lv_iload hx hb dX7_ripeOn_5 (lv_at hl 1 rfl) ?_
      refine lv_aload_n hx hb dX7_ripeOn_7 rfl (lv_at hl 2 rfl) ?_
      refine ow_get (v2 := .int (q.1 0 0 7)) (ci := 6) (C := RX7) (T := TX7) (N := 11) hx hb hts hin_X7 hown hK hW 0 0 (PO_k0) rfl 7 (by decide) (List.mem_of_getElem? (i := 1) rfl) rfl rfl rfl dX7_ripeOn_8 ?_
      refine lv_icmp_ge (tgt := 73) hx hb dX7_ripeOn_11 (by decide) (fun c_2 => ?_) (fun c_2 => ?_)
      · exact kk rp (by rw [m_X7_ripeOn_lp, if_pos c_2])  H locs hW hS ls (lv_sub hl [0, 2, 3] rfl)
      · refine lv_aload_n hx hb dX7_ripeOn_14 rfl (lv_at hl 2 rfl) ?_
        refine ow_get (v2 := .ref (ad 5 0)) (ci := 6) (C := RX7) (T := TX7) (N := 11) hx hb hts hin_X7 hown hK hW 0 0 (PO_k0) rfl 4 (by decide) (List.mem_of_getElem? (i := 2) rfl) rfl rfl rfl dX7_ripeOn_15 ?_
        refine lv_iload hx hb dX7_ripeOn_18 (lv_at hl 1 rfl) ?_
        have b_3 : vp_in i 64 := by
          have u_1 := rg_e i
          have u_2 := rg_e (q.1 0 0 7)
          have v_3 := cv_nle c_2
          have w_4 := hI.2.2.2.2.2.1
          have w_5 := i1
          exact vp_in_iff.mpr (by omega)
        refine ow_aldp hx hb hK hW 5 0 (PO_k5) 6 rfl b_3 (cI_rec hI i1.1 (cv_nle c_2)) dX7_ripeOn_20 ?_
        refine lv_astore (lv' := [(5, .ref (ad 16 (Int32.toNatClampNeg i))), (2, .long rp), (4, .int i), (0, .ref (ad 0 0)), (1, .int day)]) hx hb dX7_ripeOn_21 hl (by decide) rfl (fun ls hl => ?_)
        refine lv_aload hx hb dX7_ripeOn_23 (lv_at hl 0 rfl) ?_
        refine ow_get (v2 := .int (q.1 16 (Int32.toNatClampNeg i) 7)) (ci := 2) (C := RX3) (T := TX3) (N := 8) hx hb hts hin_X3 hown hK hW 16 (Int32.toNatClampNeg i) (PO_k16 (cI_rec hI i1.1 (cv_nle c_2))) rfl 7 (by decide) (List.mem_of_getElem? (i := 3) rfl) rfl rfl rfl dX7_ripeOn_25 ?_
        refine lv_if_ne (tgt := 67) hx hb dX7_ripeOn_28 (by decide) (fun c_4 => ?_) (fun c_4 => ?_)
        · refine lv_iinc (v := (i + 1)) (lv' := [(4, .int (i + 1)), (5, .ref (ad 16 (Int32.toNatClampNeg i))), (2, .long rp), (0, .ref (ad 0 0)), (1, .int day)]) hx hb dX7_ripeOn_67 hl (k := 2) rfl (by first | rfl | decide) (by decide) rfl (fun ls hl => ?_)
          refine lv_goto (tgt := 5) hx hb dX7_ripeOn_70 (by decide) ?_
          have h_5 : 0 ≤ (i + 1).toInt ∧ (i + 1).toInt ≤ 64 := by
            have u_1 := rg_e i
            have k_2 : (1 : Int32).toInt = 1 := rfl
            have u_4 := rg_e (q.1 0 0 7)
            have v_5 := cv_nle c_2
            have u_6 := rg_e (q.1 16 (Int32.toNatClampNeg i) 7)
            have k_7 : (0 : Int32).toInt = 0 := rfl
            have v_8 := cv_ne c_4
            have w_9 := hI.2.2.2.2.2.1
            have w_10 := i1
            have u_3 := ad_o i 1
            omega
          have h_6 : 64 - (i + 1).toInt < (n : Int) := by
            have u_1 := rg_e i
            have k_2 : (1 : Int32).toInt = 1 := rfl
            have u_4 := rg_e (q.1 0 0 7)
            have v_5 := cv_nle c_2
            have u_6 := rg_e (q.1 16 (Int32.toNatClampNeg i) 7)
            have k_7 : (0 : Int32).toInt = 0 := rfl
            have v_8 := cv_ne c_4
            have w_9 := hI.2.2.2.2.2.1
            have w_10 := i1
            have w_11 := hm
            have u_3 := ad_o i 1
            omega
          exact ih rp (i + 1) h_5 h_6 (fun o_1 eo_1 => kk o_1 (eo_1.trans (by rw [m_X7_ripeOn_lp, if_neg c_2, if_neg c_4]))) _ _ hW hS ls (lv_sub hl [2, 0, 3, 4] rfl)
        · refine lv_aload_n hx hb dX7_ripeOn_31 rfl (lv_at hl 3 rfl) ?_
          refine lv_aload hx hb dX7_ripeOn_32 (lv_at hl 0 rfl) ?_
          refine ow_callVi (C := RX7) (T := TX7) (N := 11) (ci := 6) (k := 0) (j := 0) (n := 1) (As := [.ref (ad 16 (Int32.toNatClampNeg i))]) (rest := []) (r := (m_X7_holdsOver q (Int32.toNatClampNeg i))) (z2 := q) ⟨hx, hb, hml, hown, hts⟩ (c_X7_holdsOver l D b0 cA ad mq q (Int32.toNatClampNeg i) ((cI_rec hI i1.1 (cv_nle c_2))) hI) (PO_k0) rfl gX7_ripeOn_X7_holdsOver rfl (by decide +kernel) rfl ⟨Nat.le_of_ble_eq_true rfl, Nat.le_of_ble_eq_true rfl⟩ ⟨Nat.le_of_ble_eq_true rfl, Nat.le_of_ble_eq_true rfl⟩ hK hW hS hKD hl.1 rfl (Nat.le_of_ble_eq_true rfl) dX7_ripeOn_34 (fun H locs hW hS => ?_)
          refine lv_if_ne (tgt := 67) hx hb dX7_ripeOn_37 (by decide) (fun c_7 => ?_) (fun c_7 => ?_)
          · refine lv_iinc (v := (i + 1)) (lv' := [(4, .int (i + 1)), (5, .ref (ad 16 (Int32.toNatClampNeg i))), (2, .long rp), (0, .ref (ad 0 0)), (1, .int day)]) hx hb dX7_ripeOn_67 hl (k := 2) rfl (by first | rfl | decide) (by decide) rfl (fun ls hl => ?_)
            refine lv_goto (tgt := 5) hx hb dX7_ripeOn_70 (by decide) ?_
            have h_8 : 0 ≤ (i + 1).toInt ∧ (i + 1).toInt ≤ 64 := by
              have u_1 := rg_e i
              have k_2 : (1 : Int32).toInt = 1 := rfl
              have u_4 := rg_e (q.1 0 0 7)
              have v_5 := cv_nle c_2
              have u_6 := rg_e (q.1 16 (Int32.toNatClampNeg i) 7)
              have k_7 : (0 : Int32).toInt = 0 := rfl
              have v_8 := cv_eq c_4
              have u_9 := rg_e (m_X7_holdsOver q (Int32.toNatClampNeg i))
              have v_10 := cv_ne c_7
              have w_11 := hI.2.2.2.2.2.1
              have w_12 := i1
              have u_3 := ad_o i 1
              omega
            have h_9 : 64 - (i + 1).toInt < (n : Int) := by
              have u_1 := rg_e i
              have k_2 : (1 : Int32).toInt = 1 := rfl
              have u_4 := rg_e (q.1 0 0 7)
              have v_5 := cv_nle c_2
              have u_6 := rg_e (q.1 16 (Int32.toNatClampNeg i) 7)
              have k_7 : (0 : Int32).toInt = 0 := rfl
              have v_8 := cv_eq c_4
              have u_9 := rg_e (m_X7_holdsOver q (Int32.toNatClampNeg i))
              have v_10 := cv_ne c_7
              have w_11 := hI.2.2.2.2.2.1
              have w_12 := i1
              have w_13 := hm
              have u_3 := ad_o i 1
              omega
            exact ih rp (i + 1) h_8 h_9 (fun o_1 eo_1 => kk o_1 (eo_1.trans (by rw [m_X7_ripeOn_lp, if_neg c_2, if_pos c_4, if_neg c_7]))) _ _ hW hS ls (lv_sub hl [2, 0, 3, 4] rfl)
          · refine lv_aload_n hx hb dX7_ripeOn_40 rfl (lv_at hl 3 rfl) ?_
            refine lv_aload hx hb dX7_ripeOn_41 (lv_at hl 0 rfl) ?_
            refine ow_callVi (C := RX7) (T := TX7) (N := 11) (ci := 6) (k := 0) (j := 0) (n := 1) (As := [.ref (ad 16 (Int32.toNatClampNeg i))]) (rest := []) (r := (m_X7_dueDay q (Int32.toNatClampNeg i))) (z2 := q) ⟨hx, hb, hml, hown, hts⟩ (c_X7_dueDay l D b0 cA ad mq q (Int32.toNatClampNeg i) ((cI_rec hI i1.1 (cv_nle c_2))) hI) (PO_k0) rfl gX7_ripeOn_X7_dueDay rfl (by decide +kernel) rfl ⟨Nat.le_of_ble_eq_true rfl, Nat.le_of_ble_eq_true rfl⟩ ⟨Nat.le_of_ble_eq_true rfl, Nat.le_of_ble_eq_true rfl⟩ hK hW hS hKD hl.1 rfl (Nat.le_of_ble_eq_true rfl) dX7_ripeOn_43 (fun H locs hW hS => ?_)
            refine lv_istore (lv' := [(6, .int (m_X7_dueDay q (Int32.toNatClampNeg i))), (5, .ref (ad 16 (Int32.toNatClampNeg i))), (2, .long rp), (4, .int i), (0, .ref (ad 0 0)), (1, .int day)]) hx hb dX7_ripeOn_46 hl (by decide) rfl (fun ls hl => ?_)
            refine lv_iload hx hb dX7_ripeOn_48 (lv_at hl 0 rfl) ?_
            refine lv_iconst (v := (-1)) hx hb dX7_ripeOn_50 (by decide) ?_
            refine lv_icmp_eq (tgt := 67) hx hb dX7_ripeOn_51 (by decide) (fun c_10 => ?_) (fun c_10 => ?_)
            · refine lv_iinc (v := (i + 1)) (lv' := [(4, .int (i + 1)), (6, .int (m_X7_dueDay q (Int32.toNatClampNeg i))), (5, .ref (ad 16 (Int32.toNatClampNeg i))), (2, .long rp), (0, .ref (ad 0 0)), (1, .int day)]) hx hb dX7_ripeOn_67 hl (k := 3) rfl (by first | rfl | decide) (by decide) rfl (fun ls hl => ?_)
              refine lv_goto (tgt := 5) hx hb dX7_ripeOn_70 (by decide) ?_
              have h_11 : 0 ≤ (i + 1).toInt ∧ (i + 1).toInt ≤ 64 := by
                have u_1 := rg_e i
                have k_2 : (1 : Int32).toInt = 1 := rfl
                have u_4 := rg_e (q.1 0 0 7)
                have v_5 := cv_nle c_2
                have u_6 := rg_e (q.1 16 (Int32.toNatClampNeg i) 7)
                have k_7 : (0 : Int32).toInt = 0 := rfl
                have v_8 := cv_eq c_4
                have u_9 := rg_e (m_X7_holdsOver q (Int32.toNatClampNeg i))
                have v_10 := cv_eq c_7
                have u_11 := rg_e (m_X7_dueDay q (Int32.toNatClampNeg i))
                have k_12 : ((-1) : Int32).toInt = -1 := rfl
                have v_13 := cv_eq c_10
                have w_14 := hI.2.2.2.2.2.1
                have w_15 := i1
                have u_3 := ad_o i 1
                omega
              have h_12 : 64 - (i + 1).toInt < (n : Int) := by
                have u_1 := rg_e i
                have k_2 : (1 : Int32).toInt = 1 := rfl
                have u_4 := rg_e (q.1 0 0 7)
                have v_5 := cv_nle c_2
                have u_6 := rg_e (q.1 16 (Int32.toNatClampNeg i) 7)
                have k_7 : (0 : Int32).toInt = 0 := rfl
                have v_8 := cv_eq c_4
                have u_9 := rg_e (m_X7_holdsOver q (Int32.toNatClampNeg i))
                have v_10 := cv_eq c_7
                have u_11 := rg_e (m_X7_dueDay q (Int32.toNatClampNeg i))
                have k_12 : ((-1) : Int32).toInt = -1 := rfl
                have v_13 := cv_eq c_10
                have w_14 := hI.2.2.2.2.2.1
                have w_15 := i1
                have w_16 := hm
                have u_3 := ad_o i 1
                omega
              exact ih rp (i + 1) h_11 h_12 (fun o_1 eo_1 => kk o_1 (eo_1.trans (by rw [m_X7_ripeOn_lp, if_neg c_2, if_pos c_4, if_pos c_7, if_pos c_10]))) _ _ hW hS ls (lv_sub hl [3, 0, 4, 5] rfl)
            · refine lv_iload hx hb dX7_ripeOn_54 (lv_at hl 0 rfl) ?_
              refine lv_iload_n hx hb dX7_ripeOn_56 rfl (lv_at hl 5 rfl) ?_
              refine lv_icmp_gt (tgt := 67) hx hb dX7_ripeOn_57 (by decide) (fun c_13 => ?_) (fun c_13 => ?_)
              · refine lv_iinc (v := (i + 1)) (lv' := [(4, .int (i + 1)), (6, .int (m_X7_dueDay q (Int32.toNatClampNeg i))), (5, .ref (ad 16 (Int32.toNatClampNeg i))), (2, .long rp), (0, .ref (ad 0 0)), (1, .int day)]) hx hb dX7_ripeOn_67 hl (k := 3) rfl (by first | rfl | decide) (by decide) rfl (fun ls hl => ?_)
                refine lv_goto (tgt := 5) hx hb dX7_ripeOn_70 (by decide) ?_
                have h_14 : 0 ≤ (i + 1).toInt ∧ (i + 1).toInt ≤ 64 := by
                  have u_1 := rg_e i
                  have k_2 : (1 : Int32).toInt = 1 := rfl
                  have u_4 := rg_e (q.1 0 0 7)
                  have v_5 := cv_nle c_2
                  have u_6 := rg_e (q.1 16 (Int32.toNatClampNeg i) 7)
                  have k_7 : (0 : Int32).toInt = 0 := rfl
                  have v_8 := cv_eq c_4
                  have u_9 := rg_e (m_X7_holdsOver q (Int32.toNatClampNeg i))
                  have v_10 := cv_eq c_7
                  have u_11 := rg_e (m_X7_dueDay q (Int32.toNatClampNeg i))
                  have k_12 : ((-1) : Int32).toInt = -1 := rfl
                  have v_13 := cv_ne c_10
                  have u_14 := rg_e day
                  have v_15 := cv_lt c_13
                  have w_16 := hI.2.2.2.2.2.1
                  have w_17 := i1
                  have u_3 := ad_o i 1
                  omega
                have h_15 : 64 - (i + 1).toInt < (n : Int) := by
                  have u_1 := rg_e i
                  have k_2 : (1 : Int32).toInt = 1 := rfl
                  have u_4 := rg_e (q.1 0 0 7)
                  have v_5 := cv_nle c_2
                  have u_6 := rg_e (q.1 16 (Int32.toNatClampNeg i) 7)
                  have k_7 : (0 : Int32).toInt = 0 := rfl
                  have v_8 := cv_eq c_4
                  have u_9 := rg_e (m_X7_holdsOver q (Int32.toNatClampNeg i))
                  have v_10 := cv_eq c_7
                  have u_11 := rg_e (m_X7_dueDay q (Int32.toNatClampNeg i))
                  have k_12 : ((-1) : Int32).toInt = -1 := rfl
                  have v_13 := cv_ne c_10
                  have u_14 := rg_e day
                  have v_15 := cv_lt c_13
                  have w_16 := hI.2.2.2.2.2.1
                  have w_17 := i1
                  have w_18 := hm
                  have u_3 := ad_o i 1
                  omega
                exact ih rp (i + 1) h_14 h_15 (fun o_1 eo_1 => kk o_1 (eo_1.trans (by rw [m_X7_ripeOn_lp, if_neg c_2, if_pos c_4, if_pos c_7, if_neg c_10, if_pos c_13]))) _ _ hW hS ls (lv_sub hl [3, 0, 4, 5] rfl)
              · refine lv_lload_n hx hb dX7_ripeOn_60 rfl (lv_at hl 2 rfl) ?_
                refine lv_lconst (v := 1) hx hb dX7_ripeOn_61 (by decide) ?_
                refine lv_iload hx hb dX7_ripeOn_62 (lv_at hl 3 rfl) ?_
                refine lv_lshl (v := (1 <<< (Int32.toInt64 i &&& 63))) hx hb dX7_ripeOn_64 rfl ?_
                refine lv_lor hx hb dX7_ripeOn_65 ?_
                refine lv_lstore_n (lv' := [(2, .long (rp ||| ((1 <<< (Int32.toInt64 i &&& 63))))), (6, .int (m_X7_dueDay q (Int32.toNatClampNeg i))), (5, .ref (ad 16 (Int32.toNatClampNeg i))), (4, .int i), (0, .ref (ad 0 0)), (1, .int day)]) hx hb dX7_ripeOn_66 rfl hl (by decide) rfl (fun ls hl => ?_)
                refine lv_iinc (v := (i + 1)) (lv' := [(4, .int (i + 1)), (2, .long (rp ||| ((1 <<< (Int32.toInt64 i &&& 63))))), (6, .int (m_X7_dueDay q (Int32.toNatClampNeg i))), (5, .ref (ad 16 (Int32.toNatClampNeg i))), (0, .ref (ad 0 0)), (1, .int day)]) hx hb dX7_ripeOn_67 hl (k := 3) rfl (by first | rfl | decide) (by decide) rfl (fun ls hl => ?_)
                refine lv_goto (tgt := 5) hx hb dX7_ripeOn_70 (by decide) ?_
                have h_16 : 0 ≤ (i + 1).toInt ∧ (i + 1).toInt ≤ 64 := by
                  have u_1 := rg_e i
                  have k_2 : (1 : Int32).toInt = 1 := rfl
                  have u_4 := rg_e (q.1 0 0 7)
                  have v_5 := cv_nle c_2
                  have u_6 := rg_e (q.1 16 (Int32.toNatClampNeg i) 7)
                  have k_7 : (0 : Int32).toInt = 0 := rfl
                  have v_8 := cv_eq c_4
                  have u_9 := rg_e (m_X7_holdsOver q (Int32.toNatClampNeg i))
                  have v_10 := cv_eq c_7
                  have u_11 := rg_e (m_X7_dueDay q (Int32.toNatClampNeg i))
                  have k_12 : ((-1) : Int32).toInt = -1 := rfl
                  have v_13 := cv_ne c_10
                  have u_14 := rg_e day
                  have v_15 := cv_nlt c_13
                  have w_16 := hI.2.2.2.2.2.1
                  have w_17 := i1
                  have u_3 := ad_o i 1
                  omega
                have h_17 : 64 - (i + 1).toInt < (n : Int) := by
                  have u_1 := rg_e i
                  have k_2 : (1 : Int32).toInt = 1 := rfl
                  have u_4 := rg_e (q.1 0 0 7)
                  have v_5 := cv_nle c_2
                  have u_6 := rg_e (q.1 16 (Int32.toNatClampNeg i) 7)
                  have k_7 : (0 : Int32).toInt = 0 := rfl
                  have v_8 := cv_eq c_4
                  have u_9 := rg_e (m_X7_holdsOver q (Int32.toNatClampNeg i))
                  have v_10 := cv_eq c_7
                  have u_11 := rg_e (m_X7_dueDay q (Int32.toNatClampNeg i))
                  have k_12 : ((-1) : Int32).toInt = -1 := rfl
                  have v_13 := cv_ne c_10
                  have u_14 := rg_e day
                  have v_15 := cv_nlt c_13
                  have w_16 := hI.2.2.2.2.2.1
                  have w_17 := i1
                  have w_18 := hm
                  have u_3 := ad_o i 1
                  omega
                exact ih (rp ||| ((1 <<< (Int32.toInt64 i &&& 63)))) (i + 1) h_16 h_17 (fun o_1 eo_1 => kk o_1 (eo_1.trans (by rw [m_X7_ripeOn_lp, if_neg c_2, if_pos c_4, if_pos c_7, if_neg c_10, if_neg c_13]))) _ _ hW hS ls (lv_sub hl [1, 0, 4, 5] rfl)
  have h_19 : 0 ≤ (0 : Int32).toInt ∧ (0 : Int32).toInt ≤ 64 := by
    have k_1 : (0 : Int32).toInt = 0 := rfl
    have w_2 := hI.2.2.2.2.2.1
    omega
  have h_20 : 64 - (0 : Int32).toInt < ((66 : Nat) : Int) := by
    have k_1 : (0 : Int32).toInt = 0 := rfl
    have w_2 := hI.2.2.2.2.2.1
    omega
  refine lp_18 _ 66 0 0 h_19 h_20 (fun o_1 eo_1 H locs hW hS ls hl => ?_) _ _ hW hS ls (lv_sub hl [1, 0, 2, 3] rfl)
  refine lv_lload_n hx hb dX7_ripeOn_73 rfl (lv_at hl 0 rfl) ?_
  exact ow_lret hx hb hr hlk hK hW hS (by rw [m_X7_ripeOn, ← eo_1]) dX7_ripeOn_74
