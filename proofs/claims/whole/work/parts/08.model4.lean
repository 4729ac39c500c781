/-! laid by wip/whole/tools/model4.py -/
def m_X8_holds_lp (q : qM) (r : Int32) : Nat → Int32 → Int32 → Int32
  | 0, _, _ => 0
  | n + 1, n9, h => (if 8 ≤ h then n9 else (m_X8_holds_lp q r n ((if (q.1 19 (Int32.toNatClampNeg h)) = 0 then n9 else (if ((if (q.1 20 (Int32.toNatClampNeg h)) = (-1) then 1 else (if (q.1 20 (Int32.toNatClampNeg h)) = (q.1 13 (Int32.toNatClampNeg r)) then 1 else 0)) : Int32) = 0 then n9 else (if ((if (q.1 21 (Int32.toNatClampNeg h)) = (-1) then 1 else (if (q.1 21 (Int32.toNatClampNeg h)) = (q.1 9 (Int32.toNatClampNeg (q.1 13 (Int32.toNatClampNeg r)))) then 1 else 0)) : Int32) = 0 then n9 else (if ((if (q.1 22 (Int32.toNatClampNeg h)) = (-1) then 1 else (if (m_X8_hasKey q r (q.1 22 (Int32.toNatClampNeg h))) = 0 then 0 else 1)) : Int32) = 0 then n9 else (if (m_X8_isIn (q.1 14 (Int32.toNatClampNeg r)) (q.1 23 (Int32.toNatClampNeg h)) (q.1 24 (Int32.toNatClampNeg h))) = 0 then n9 else (n9 + 1)))))) : Int32) (h + 1)))
def m_X8_holds (q : qM) (r : Int32) : Int32 := (m_X8_holds_lp q r 9 0 0)
set_option maxHeartbeats 4000000 in
set_option maxRecDepth 100000 in
theorem c_X8_holds (l : Launch) (D : va_G) (b0 : Nat) (Pc : Nat → Nat → Option va_E) (cA : Nat → ClassId) (ad : Nat → Nat → Nat) (q : qM) (r : Int32) (hrr : 0 ≤ (r : Int32).toInt ∧ (r : Int32).toInt ≤ 63) (hI : gI q) : mc_i l yX8_holds wsX8_holds 1 22 D b0 Pc cA ad q [.ref (ad 20 0), .int r] (m_X8_holds q r, q) := by
  refine mc_of (by decide) rfl (Nat.le_of_ble_eq_true rfl) ?_
  intro p e s m below meth c hx hb hml hr hlk hown hts hK hW ls hl
  have hown : s.vm.findClass RX8 = some m.cls := hown
  have hS : va_S (wA b0) s.heap s.heap [] := va_S.rf
  have hl : lv_has ls 7 [(0, .ref (ad 20 0)), (1, .int r)] := hl
  have hin : ∀ w ∈ wsX80, w ∈ wsX8_holds := fun w h => List.mem_cons_of_mem _ (List.mem_append_right _ h)
  refine lv_iconst (v := 0) hx hb dX8_holds_0 (by decide) ?_
  refine lv_istore_n (lv' := [(2, .int 0), (0, .ref (ad 20 0)), (1, .int r)]) hx hb dX8_holds_1 rfl hl (by decide) rfl (fun ls hl => ?_)
  refine lv_iconst (v := 0) hx hb dX8_holds_2 (by decide) ?_
  refine lv_istore_n (lv' := [(3, .int 0), (2, .int 0), (0, .ref (ad 20 0)), (1, .int r)]) hx hb dX8_holds_3 rfl hl (by decide) rfl (fun ls hl => ?_)
  have lp_49 : ∀ (Q : State → Prop) (n : Nat) (n9 : Int32) (h : Int32), (0 ≤ h.toInt ∧ h.toInt ≤ 8) → 8 - h.toInt < (n : Int) → (∀ o_1 : Int32, o_1 = (m_X8_holds_lp q r n n9 h) → ∀ (H : Heap) (locs : List Loc), wd D (wA b0) (PW Pc cA ad q) ad H → va_S (wA b0) s.heap H locs → ∀ ls : Array Slot, lv_has ls 7 [(2, .int o_1), (0, .ref (ad 20 0)), (1, .int r)] → W p l e { frames := 1, cells := 0, slots := 0, locals := 22 } s m [.ref (ad 20 0), .int r].toArray below meth c H locs 0 0 Q (F0 m 172 ls [])) → ∀ (H : Heap) (locs : List Loc), wd D (wA b0) (PW Pc cA ad q) ad H → va_S (wA b0) s.heap H locs → ∀ ls : Array Slot, lv_has ls 7 [(2, .int n9), (3, .int h), (0, .ref (ad 20 0)), (1, .int r)] → W p l e { frames := 1, cells := 0, slots := 0, locals := 22 } s m [.ref (ad 20 0), .int r].toArray below meth c H locs 0 0 Q (F0 m 4 ls []) := by
    intro Q n
    induction n with
    | zero =>
      intro n9 h i1 hm
      have hz : 0 ≤ 8 - h.toInt := by
        have w_1 := hrr
        have w_2 := hI.2.2.1 (Int32.toNatClampNeg r)
        have w_3 := i1
        omega
      exact absurd hm (by omega)
    | succ n ih =>
      intro n9 h i1 hm kk H locs hW hS ls hl
      refine lv_iload_n hx hb dX8_holds_4 rfl (lv_at hl 1 rfl) ?_
      refine lv_bipush (v := 8) hx hb dX8_holds_5 (by decide) ?_
      refine lv_icmp_ge (tgt := 172) hx hb dX8_holds_7 (by decide) (fun c_2 => ?_) (fun c_2 => ?_)
      · exact kk n9 (by rw [m_X8_holds_lp, if_pos c_2])  H locs hW hS ls (lv_sub hl [0, 2, 3] rfl)
      · refine jn_w (J := 40) (rest := []) (Wd := fun H locs => wd D (wA b0) (PW Pc cA ad q) ad H ∧ va_S (wA b0) s.heap H locs) ((if (q.1 20 (Int32.toNatClampNeg h)) = (-1) then 1 else (if (q.1 20 (Int32.toNatClampNeg h)) = (q.1 13 (Int32.toNatClampNeg r)) then 1 else 0)) : Int32) ⟨hW, hS⟩ (fun H locs hWS => ?_) (fun hj => ?_)
        · obtain ⟨hW, hS⟩ := hWS
          obtain ⟨j_11, ej_11⟩ : ∃ z : Int32, z = ((if (q.1 20 (Int32.toNatClampNeg h)) = (-1) then 1 else (if (q.1 20 (Int32.toNatClampNeg h)) = (q.1 13 (Int32.toNatClampNeg r)) then 1 else 0)) : Int32) := ⟨_, rfl⟩
          rw [← ej_11]
          refine lv_istore (lv' := [(4, .int j_11), (2, .int n9), (3, .int h), (0, .ref (ad 20 0)), (1, .int r)]) hx hb dX8_holds_40 hl (by decide) rfl (fun ls hl => ?_)
          refine jn_w (J := 77) (rest := []) (Wd := fun H locs => wd D (wA b0) (PW Pc cA ad q) ad H ∧ va_S (wA b0) s.heap H locs) ((if (q.1 21 (Int32.toNatClampNeg h)) = (-1) then 1 else (if (q.1 21 (Int32.toNatClampNeg h)) = (q.1 9 (Int32.toNatClampNeg (q.1 13 (Int32.toNatClampNeg r)))) then 1 else 0)) : Int32) ⟨hW, hS⟩ (fun H locs hWS => ?_) (fun hj => ?_)
          · obtain ⟨hW, hS⟩ := hWS
            obtain ⟨j_21, ej_21⟩ : ∃ z : Int32, z = ((if (q.1 21 (Int32.toNatClampNeg h)) = (-1) then 1 else (if (q.1 21 (Int32.toNatClampNeg h)) = (q.1 9 (Int32.toNatClampNeg (q.1 13 (Int32.toNatClampNeg r)))) then 1 else 0)) : Int32) := ⟨_, rfl⟩
            rw [← ej_21]
            refine lv_istore (lv' := [(5, .int j_21), (4, .int j_11), (2, .int n9), (3, .int h), (0, .ref (ad 20 0)), (1, .int r)]) hx hb dX8_holds_77 hl (by decide) rfl (fun ls hl => ?_)
            refine jn_w (J := 108) (rest := []) (Wd := fun H locs => wd D (wA b0) (PW Pc cA ad q) ad H ∧ va_S (wA b0) s.heap H locs) ((if (q.1 22 (Int32.toNatClampNeg h)) = (-1) then 1 else (if (m_X8_hasKey q r (q.1 22 (Int32.toNatClampNeg h))) = 0 then 0 else 1)) : Int32) ⟨hW, hS⟩ (fun H locs hWS => ?_) (fun hj => ?_)
            · obtain ⟨hW, hS⟩ := hWS
              obtain ⟨j_30, ej_30⟩ : ∃ z : Int32, z = ((if (q.1 22 (Int32.toNatClampNeg h)) = (-1) then 1 else (if (m_X8_hasKey q r (q.1 22 (Int32.toNatClampNeg h))) = 0 then 0 else 1)) : Int32) := ⟨_, rfl⟩
              rw [← ej_30]
              refine lv_istore (lv' := [(6, .int j_30), (5, .int j_21), (4, .int j_11), (2, .int n9), (3, .int h), (0, .ref (ad 20 0)), (1, .int r)]) hx hb dX8_holds_108 hl (by decide) rfl (fun ls hl => ?_)
              refine jn_w (J := 165) (rest := []) (Wd := fun H locs => wd D (wA b0) (PW Pc cA ad q) ad H ∧ va_S (wA b0) s.heap H locs) ((if (q.1 19 (Int32.toNatClampNeg h)) = 0 then n9 else (if j_11 = 0 then n9 else (if j_21 = 0 then n9 else (if j_30 = 0 then n9 else (if (m_X8_isIn (q.1 14 (Int32.toNatClampNeg r)) (q.1 23 (Int32.toNatClampNeg h)) (q.1 24 (Int32.toNatClampNeg h))) = 0 then n9 else (n9 + 1)))))) : Int32) ⟨hW, hS⟩ (fun H locs hWS => ?_) (fun hj => ?_)
              · obtain ⟨hW, hS⟩ := hWS
                obtain ⟨j_46, ej_46⟩ : ∃ z : Int32, z = ((if (q.1 19 (Int32.toNatClampNeg h)) = 0 then n9 else (if j_11 = 0 then n9 else (if j_21 = 0 then n9 else (if j_30 = 0 then n9 else (if (m_X8_isIn (q.1 14 (Int32.toNatClampNeg r)) (q.1 23 (Int32.toNatClampNeg h)) (q.1 24 (Int32.toNatClampNeg h))) = 0 then n9 else (n9 + 1)))))) : Int32) := ⟨_, rfl⟩
                rw [← ej_46]
                refine lv_istore_n (lv' := [(2, .int j_46), (6, .int j_30), (5, .int j_21), (4, .int j_11), (3, .int h), (0, .ref (ad 20 0)), (1, .int r)]) hx hb dX8_holds_165 rfl hl (by decide) rfl (fun ls hl => ?_)
                refine lv_iinc (v := (h + 1)) (lv' := [(3, .int (h + 1)), (2, .int j_46), (6, .int j_30), (5, .int j_21), (4, .int j_11), (0, .ref (ad 20 0)), (1, .int r)]) hx hb dX8_holds_166 hl (k := 4) rfl (by first | rfl | decide) (by decide) rfl (fun ls hl => ?_)
                refine lv_goto (tgt := 4) hx hb dX8_holds_169 (by decide) ?_
                have h_47 : 0 ≤ (h + 1).toInt ∧ (h + 1).toInt ≤ 8 := by
                  have u_1 := rg_e j_46
                  have u_2 := rg_e h
                  have k_3 : (1 : Int32).toInt = 1 := rfl
                  have k_5 : (8 : Int32).toInt = 8 := rfl
                  have v_6 := cv_nle c_2
                  have w_7 := hrr
                  have w_8 := hI.2.2.1 (Int32.toNatClampNeg r)
                  have w_9 := i1
                  have u_4 := ad_o h 1
                  omega
                have h_48 : 8 - (h + 1).toInt < (n : Int) := by
                  have u_1 := rg_e j_46
                  have u_2 := rg_e h
                  have k_3 : (1 : Int32).toInt = 1 := rfl
                  have k_5 : (8 : Int32).toInt = 8 := rfl
                  have v_6 := cv_nle c_2
                  have w_7 := hrr
                  have w_8 := hI.2.2.1 (Int32.toNatClampNeg r)
                  have w_9 := i1
                  have w_10 := hm
                  have u_4 := ad_o h 1
                  omega
                exact ih j_46 (h + 1) h_47 h_48 (fun o_1 eo_1 => kk o_1 (eo_1.trans (by rw [m_X8_holds_lp, if_neg c_2, ← ej_11, ← ej_21, ← ej_30, ← ej_46]))) _ _ hW hS ls (lv_sub hl [1, 0, 5, 6] rfl)
              · refine lv_aload_n hx hb dX8_holds_110 rfl (lv_at hl 5 rfl) ?_
                refine mm_get (v := .ref (ad 21 19)) hx hb hts hin hown hK hW 19 (by decide) (List.mem_of_getElem? (i := 6) rfl) rfl rfl dX8_holds_111 ?_
                refine lv_iload_n hx hb dX8_holds_114 rfl (lv_at hl 4 rfl) ?_
                have b_31 : vp_in h 8 := by
                  have u_1 := rg_e h
                  have k_2 : (8 : Int32).toInt = 8 := rfl
                  have v_3 := cv_nle c_2
                  have w_4 := hrr
                  have w_5 := hI.2.2.1 (Int32.toNatClampNeg r)
                  have w_6 := i1
                  exact vp_in_iff.mpr (by omega)
                refine mm_zald (v := (q.1 19 (Int32.toNatClampNeg h))) hx hb hK hW 19 8 rfl b_31 ((rfl)) dX8_holds_115 ?_
                refine lv_if_eq (tgt := 164) hx hb dX8_holds_116 (by decide) (fun c_32 => ?_) (fun c_32 => ?_)
                · refine lv_iload_n hx hb dX8_holds_164 rfl (lv_at hl 3 rfl) ?_
                  have e_33 : ((if (q.1 19 (Int32.toNatClampNeg h)) = 0 then n9 else (if j_11 = 0 then n9 else (if j_21 = 0 then n9 else (if j_30 = 0 then n9 else (if (m_X8_isIn (q.1 14 (Int32.toNatClampNeg r)) (q.1 23 (Int32.toNatClampNeg h)) (q.1 24 (Int32.toNatClampNeg h))) = 0 then n9 else (n9 + 1)))))) : Int32) = n9 := by rw [if_pos c_32]
                  exact hj _ _ _ e_33 ⟨hW, hS⟩
                · refine lv_iload hx hb dX8_holds_119 (lv_at hl 2 rfl) ?_
                  refine lv_if_eq (tgt := 164) hx hb dX8_holds_121 (by decide) (fun c_34 => ?_) (fun c_34 => ?_)
                  · refine lv_iload_n hx hb dX8_holds_164 rfl (lv_at hl 3 rfl) ?_
                    have e_35 : ((if (q.1 19 (Int32.toNatClampNeg h)) = 0 then n9 else (if j_11 = 0 then n9 else (if j_21 = 0 then n9 else (if j_30 = 0 then n9 else (if (m_X8_isIn (q.1 14 (Int32.toNatClampNeg r)) (q.1 23 (Int32.toNatClampNeg h)) (q.1 24 (Int32.toNatClampNeg h))) = 0 then n9 else (n9 + 1)))))) : Int32) = n9 := by rw [if_neg c_32, if_pos c_34]
                    exact hj _ _ _ e_35 ⟨hW, hS⟩
                  · refine lv_iload hx hb dX8_holds_124 (lv_at hl 1 rfl) ?_
                    refine lv_if_eq (tgt := 164) hx hb dX8_holds_126 (by decide) (fun c_36 => ?_) (fun c_36 => ?_)
                    · refine lv_iload_n hx hb dX8_holds_164 rfl (lv_at hl 3 rfl) ?_
                      have e_37 : ((if (q.1 19 (Int32.toNatClampNeg h)) = 0 then n9 else (if j_11 = 0 then n9 else (if j_21 = 0 then n9 else (if j_30 = 0 then n9 else (if (m_X8_isIn (q.1 14 (Int32.toNatClampNeg r)) (q.1 23 (Int32.toNatClampNeg h)) (q.1 24 (Int32.toNatClampNeg h))) = 0 then n9 else (n9 + 1)))))) : Int32) = n9 := by rw [if_neg c_32, if_neg c_34, if_pos c_36]
                      exact hj _ _ _ e_37 ⟨hW, hS⟩
                    · refine lv_iload hx hb dX8_holds_129 (lv_at hl 0 rfl) ?_
                      refine lv_if_eq (tgt := 164) hx hb dX8_holds_131 (by decide) (fun c_38 => ?_) (fun c_38 => ?_)
                      · refine lv_iload_n hx hb dX8_holds_164 rfl (lv_at hl 3 rfl) ?_
                        have e_39 : ((if (q.1 19 (Int32.toNatClampNeg h)) = 0 then n9 else (if j_11 = 0 then n9 else (if j_21 = 0 then n9 else (if j_30 = 0 then n9 else (if (m_X8_isIn (q.1 14 (Int32.toNatClampNeg r)) (q.1 23 (Int32.toNatClampNeg h)) (q.1 24 (Int32.toNatClampNeg h))) = 0 then n9 else (n9 + 1)))))) : Int32) = n9 := by rw [if_neg c_32, if_neg c_34, if_neg c_36, if_pos c_38]
                        exact hj _ _ _ e_39 ⟨hW, hS⟩
                      · refine lv_aload_n hx hb dX8_holds_134 rfl (lv_at hl 5 rfl) ?_
                        refine mm_get (v := .ref (ad 21 14)) hx hb hts hin hown hK hW 14 (by decide) (List.mem_of_getElem? (i := 7) rfl) rfl rfl dX8_holds_135 ?_
                        refine lv_iload_n hx hb dX8_holds_138 rfl (lv_at hl 6 rfl) ?_
                        have b_40 : vp_in r 64 := by
                          have u_1 := rg_e r
                          have k_2 : (8 : Int32).toInt = 8 := rfl
                          have u_3 := rg_e h
                          have v_4 := cv_nle c_2
                          have u_5 := rg_e (q.1 19 (Int32.toNatClampNeg h))
                          have k_6 : (0 : Int32).toInt = 0 := rfl
                          have v_7 := cv_ne c_32
                          have u_8 := rg_e j_11
                          have v_9 := cv_ne c_34
                          have u_10 := rg_e j_21
                          have v_11 := cv_ne c_36
                          have u_12 := rg_e j_30
                          have v_13 := cv_ne c_38
                          have w_14 := hrr
                          have w_15 := hI.2.2.1 (Int32.toNatClampNeg r)
                          have w_16 := i1
                          exact vp_in_iff.mpr (by omega)
                        refine mm_iald (v := (q.1 14 (Int32.toNatClampNeg r))) hx hb hK hW 14 64 rfl b_40 ((rfl)) dX8_holds_139 ?_
                        refine lv_aload_n hx hb dX8_holds_140 rfl (lv_at hl 5 rfl) ?_
                        refine mm_get (v := .ref (ad 21 23)) hx hb hts hin hown hK hW 23 (by decide) (List.mem_of_getElem? (i := 8) rfl) rfl rfl dX8_holds_141 ?_
                        refine lv_iload_n hx hb dX8_holds_144 rfl (lv_at hl 4 rfl) ?_
                        have b_41 : vp_in h 8 := by
                          have u_1 := rg_e h
                          have k_2 : (8 : Int32).toInt = 8 := rfl
                          have v_3 := cv_nle c_2
                          have u_4 := rg_e (q.1 19 (Int32.toNatClampNeg h))
                          have k_5 : (0 : Int32).toInt = 0 := rfl
                          have v_6 := cv_ne c_32
                          have u_7 := rg_e j_11
                          have v_8 := cv_ne c_34
                          have u_9 := rg_e j_21
                          have v_10 := cv_ne c_36
                          have u_11 := rg_e j_30
                          have v_12 := cv_ne c_38
                          have w_13 := hrr
                          have w_14 := hI.2.2.1 (Int32.toNatClampNeg r)
                          have w_15 := i1
                          exact vp_in_iff.mpr (by omega)
                        refine mm_iald (v := (q.1 23 (Int32.toNatClampNeg h))) hx hb hK hW 23 8 rfl b_41 ((rfl)) dX8_holds_145 ?_
                        refine lv_aload_n hx hb dX8_holds_146 rfl (lv_at hl 5 rfl) ?_
                        refine mm_get (v := .ref (ad 21 24)) hx hb hts hin hown hK hW 24 (by decide) (List.mem_of_getElem? (i := 9) rfl) rfl rfl dX8_holds_147 ?_
                        refine lv_iload_n hx hb dX8_holds_150 rfl (lv_at hl 4 rfl) ?_
                        have b_42 : vp_in h 8 := by
                          have u_1 := rg_e h
                          have k_2 : (8 : Int32).toInt = 8 := rfl
                          have v_3 := cv_nle c_2
                          have u_4 := rg_e (q.1 19 (Int32.toNatClampNeg h))
                          have k_5 : (0 : Int32).toInt = 0 := rfl
                          have v_6 := cv_ne c_32
                          have u_7 := rg_e j_11
                          have v_8 := cv_ne c_34
                          have u_9 := rg_e j_21
                          have v_10 := cv_ne c_36
                          have u_11 := rg_e j_30
                          have v_12 := cv_ne c_38
                          have w_13 := hrr
                          have w_14 := hI.2.2.1 (Int32.toNatClampNeg r)
                          have w_15 := i1
                          exact vp_in_iff.mpr (by omega)
                        refine mm_iald (v := (q.1 24 (Int32.toNatClampNeg h))) hx hb hK hW 24 8 rfl b_42 ((rfl)) dX8_holds_151 ?_
                        refine mm_callSi (n := 3) (As := [.int (q.1 14 (Int32.toNatClampNeg r)), .int (q.1 23 (Int32.toNatClampNeg h)), .int (q.1 24 (Int32.toNatClampNeg h))]) (rest := []) (r := (m_X8_isIn (q.1 14 (Int32.toNatClampNeg r)) (q.1 23 (Int32.toNatClampNeg h)) (q.1 24 (Int32.toNatClampNeg h)))) (q2 := q) ⟨hx, hb, hml, hown, hts⟩ (c_X8_isIn l D b0 Pc cA ad q (q.1 14 (Int32.toNatClampNeg r)) (q.1 23 (Int32.toNatClampNeg h)) (q.1 24 (Int32.toNatClampNeg h))) gX8_holds_X8_isIn rfl (by decide +kernel) rfl ⟨Nat.le_of_ble_eq_true rfl, Nat.le_of_ble_eq_true rfl⟩ ⟨Nat.le_of_ble_eq_true rfl, Nat.le_of_ble_eq_true rfl⟩ hK hW hS hl.1 rfl (Nat.le_of_ble_eq_true rfl) dX8_holds_152 (fun H locs hW hS => ?_)
                        refine lv_if_eq (tgt := 164) hx hb dX8_holds_155 (by decide) (fun c_43 => ?_) (fun c_43 => ?_)
                        · refine lv_iload_n hx hb dX8_holds_164 rfl (lv_at hl 3 rfl) ?_
                          have e_44 : ((if (q.1 19 (Int32.toNatClampNeg h)) = 0 then n9 else (if j_11 = 0 then n9 else (if j_21 = 0 then n9 else (if j_30 = 0 then n9 else (if (m_X8_isIn (q.1 14 (Int32.toNatClampNeg r)) (q.1 23 (Int32.toNatClampNeg h)) (q.1 24 (Int32.toNatClampNeg h))) = 0 then n9 else (n9 + 1)))))) : Int32) = n9 := by rw [if_neg c_32, if_neg c_34, if_neg c_36, if_neg c_38, if_pos c_43]
                          exact hj _ _ _ e_44 ⟨hW, hS⟩
                        · refine lv_iload_n hx hb dX8_holds_158 rfl (lv_at hl 3 rfl) ?_
                          refine lv_iconst (v := 1) hx hb dX8_holds_159 (by decide) ?_
                          refine lv_iadd hx hb dX8_holds_160 ?_
                          refine lv_goto (tgt := 165) hx hb dX8_holds_161 (by decide) ?_
                          have e_45 : ((if (q.1 19 (Int32.toNatClampNeg h)) = 0 then n9 else (if j_11 = 0 then n9 else (if j_21 = 0 then n9 else (if j_30 = 0 then n9 else (if (m_X8_isIn (q.1 14 (Int32.toNatClampNeg r)) (q.1 23 (Int32.toNatClampNeg h)) (q.1 24 (Int32.toNatClampNeg h))) = 0 then n9 else (n9 + 1)))))) : Int32) = (n9 + 1) := by rw [if_neg c_32, if_neg c_34, if_neg c_36, if_neg c_38, if_neg c_43]
                          exact hj _ _ _ e_45 ⟨hW, hS⟩
            · refine lv_aload_n hx hb dX8_holds_79 rfl (lv_at hl 4 rfl) ?_
              refine mm_get (v := .ref (ad 21 22)) hx hb hts hin hown hK hW 22 (by decide) (List.mem_of_getElem? (i := 5) rfl) rfl rfl dX8_holds_80 ?_
              refine lv_iload_n hx hb dX8_holds_83 rfl (lv_at hl 3 rfl) ?_
              have b_22 : vp_in h 8 := by
                have u_1 := rg_e h
                have k_2 : (8 : Int32).toInt = 8 := rfl
                have v_3 := cv_nle c_2
                have w_4 := hrr
                have w_5 := hI.2.2.1 (Int32.toNatClampNeg r)
                have w_6 := i1
                exact vp_in_iff.mpr (by omega)
              refine mm_iald (v := (q.1 22 (Int32.toNatClampNeg h))) hx hb hK hW 22 8 rfl b_22 ((rfl)) dX8_holds_84 ?_
              refine lv_iconst (v := (-1)) hx hb dX8_holds_85 (by decide) ?_
              refine lv_icmp_eq (tgt := 103) hx hb dX8_holds_86 (by decide) (fun c_23 => ?_) (fun c_23 => ?_)
              · refine lv_iconst (v := 1) hx hb dX8_holds_103 (by decide) ?_
                refine lv_goto (tgt := 108) hx hb dX8_holds_104 (by decide) ?_
                have e_24 : ((if (q.1 22 (Int32.toNatClampNeg h)) = (-1) then 1 else (if (m_X8_hasKey q r (q.1 22 (Int32.toNatClampNeg h))) = 0 then 0 else 1)) : Int32) = 1 := by rw [if_pos c_23]
                exact hj _ _ _ e_24 ⟨hW, hS⟩
              · refine lv_aload_n hx hb dX8_holds_89 rfl (lv_at hl 4 rfl) ?_
                refine lv_iload_n hx hb dX8_holds_90 rfl (lv_at hl 5 rfl) ?_
                refine lv_aload_n hx hb dX8_holds_91 rfl (lv_at hl 4 rfl) ?_
                refine mm_get (v := .ref (ad 21 22)) hx hb hts hin hown hK hW 22 (by decide) (List.mem_of_getElem? (i := 5) rfl) rfl rfl dX8_holds_92 ?_
                refine lv_iload_n hx hb dX8_holds_95 rfl (lv_at hl 3 rfl) ?_
                have b_25 : vp_in h 8 := by
                  have u_1 := rg_e h
                  have k_2 : (8 : Int32).toInt = 8 := rfl
                  have v_3 := cv_nle c_2
                  have u_4 := rg_e (q.1 22 (Int32.toNatClampNeg h))
                  have k_5 : ((-1) : Int32).toInt = -1 := rfl
                  have v_6 := cv_ne c_23
                  have w_7 := hrr
                  have w_8 := hI.2.2.1 (Int32.toNatClampNeg r)
                  have w_9 := i1
                  exact vp_in_iff.mpr (by omega)
                refine mm_iald (v := (q.1 22 (Int32.toNatClampNeg h))) hx hb hK hW 22 8 rfl b_25 ((rfl)) dX8_holds_96 ?_
                have h_26 : 0 ≤ (r : Int32).toInt ∧ (r : Int32).toInt ≤ 63 := by
                  have u_1 := rg_e r
                  have u_2 := rg_e h
                  have u_3 := rg_e (q.1 22 (Int32.toNatClampNeg h))
                  have k_4 : (8 : Int32).toInt = 8 := rfl
                  have v_5 := cv_nle c_2
                  have k_6 : ((-1) : Int32).toInt = -1 := rfl
                  have v_7 := cv_ne c_23
                  have w_8 := hrr
                  have w_9 := hI.2.2.1 (Int32.toNatClampNeg r)
                  have w_10 := i1
                  exact by omega
                refine mm_callVi (n := 2) (As := [.int r, .int (q.1 22 (Int32.toNatClampNeg h))]) (rest := []) (r := (m_X8_hasKey q r (q.1 22 (Int32.toNatClampNeg h)))) (q2 := q) ⟨hx, hb, hml, hown, hts⟩ (c_X8_hasKey l D b0 Pc cA ad q r (q.1 22 (Int32.toNatClampNeg h)) h_26) gX8_holds_X8_hasKey rfl (by decide +kernel) rfl ⟨Nat.le_of_ble_eq_true rfl, Nat.le_of_ble_eq_true rfl⟩ ⟨Nat.le_of_ble_eq_true rfl, Nat.le_of_ble_eq_true rfl⟩ hK hW hS hl.1 rfl (Nat.le_of_ble_eq_true rfl) dX8_holds_97 (fun H locs hW hS => ?_)
                refine lv_if_eq (tgt := 107) hx hb dX8_holds_100 (by decide) (fun c_27 => ?_) (fun c_27 => ?_)
                · refine lv_iconst (v := 0) hx hb dX8_holds_107 (by decide) ?_
                  have e_28 : ((if (q.1 22 (Int32.toNatClampNeg h)) = (-1) then 1 else (if (m_X8_hasKey q r (q.1 22 (Int32.toNatClampNeg h))) = 0 then 0 else 1)) : Int32) = 0 := by rw [if_neg c_23, if_pos c_27]
                  exact hj _ _ _ e_28 ⟨hW, hS⟩
                · refine lv_iconst (v := 1) hx hb dX8_holds_103 (by decide) ?_
                  refine lv_goto (tgt := 108) hx hb dX8_holds_104 (by decide) ?_
                  have e_29 : ((if (q.1 22 (Int32.toNatClampNeg h)) = (-1) then 1 else (if (m_X8_hasKey q r (q.1 22 (Int32.toNatClampNeg h))) = 0 then 0 else 1)) : Int32) = 1 := by rw [if_neg c_23, if_neg c_27]
                  exact hj _ _ _ e_29 ⟨hW, hS⟩
          · refine lv_aload_n hx hb dX8_holds_42 rfl (lv_at hl 3 rfl) ?_
            refine mm_get (v := .ref (ad 21 21)) hx hb hts hin hown hK hW 21 (by decide) (List.mem_of_getElem? (i := 3) rfl) rfl rfl dX8_holds_43 ?_
            refine lv_iload_n hx hb dX8_holds_46 rfl (lv_at hl 2 rfl) ?_
            have b_12 : vp_in h 8 := by
              have u_1 := rg_e h
              have k_2 : (8 : Int32).toInt = 8 := rfl
              have v_3 := cv_nle c_2
              have w_4 := hrr
              have w_5 := hI.2.2.1 (Int32.toNatClampNeg r)
              have w_6 := i1
              exact vp_in_iff.mpr (by omega)
            refine mm_iald (v := (q.1 21 (Int32.toNatClampNeg h))) hx hb hK hW 21 8 rfl b_12 ((rfl)) dX8_holds_47 ?_
            refine lv_iconst (v := (-1)) hx hb dX8_holds_48 (by decide) ?_
            refine lv_icmp_eq (tgt := 72) hx hb dX8_holds_49 (by decide) (fun c_13 => ?_) (fun c_13 => ?_)
            · refine lv_iconst (v := 1) hx hb dX8_holds_72 (by decide) ?_
              refine lv_goto (tgt := 77) hx hb dX8_holds_73 (by decide) ?_
              have e_14 : ((if (q.1 21 (Int32.toNatClampNeg h)) = (-1) then 1 else (if (q.1 21 (Int32.toNatClampNeg h)) = (q.1 9 (Int32.toNatClampNeg (q.1 13 (Int32.toNatClampNeg r)))) then 1 else 0)) : Int32) = 1 := by rw [if_pos c_13]
              exact hj _ _ _ e_14 ⟨hW, hS⟩
            · refine lv_aload_n hx hb dX8_holds_52 rfl (lv_at hl 3 rfl) ?_
              refine mm_get (v := .ref (ad 21 21)) hx hb hts hin hown hK hW 21 (by decide) (List.mem_of_getElem? (i := 3) rfl) rfl rfl dX8_holds_53 ?_
              refine lv_iload_n hx hb dX8_holds_56 rfl (lv_at hl 2 rfl) ?_
              have b_15 : vp_in h 8 := by
                have u_1 := rg_e h
                have k_2 : (8 : Int32).toInt = 8 := rfl
                have v_3 := cv_nle c_2
                have u_4 := rg_e (q.1 21 (Int32.toNatClampNeg h))
                have k_5 : ((-1) : Int32).toInt = -1 := rfl
                have v_6 := cv_ne c_13
                have w_7 := hrr
                have w_8 := hI.2.2.1 (Int32.toNatClampNeg r)
                have w_9 := i1
                exact vp_in_iff.mpr (by omega)
              refine mm_iald (v := (q.1 21 (Int32.toNatClampNeg h))) hx hb hK hW 21 8 rfl b_15 ((rfl)) dX8_holds_57 ?_
              refine lv_aload_n hx hb dX8_holds_58 rfl (lv_at hl 3 rfl) ?_
              refine mm_get (v := .ref (ad 21 9)) hx hb hts hin hown hK hW 9 (by decide) (List.mem_of_getElem? (i := 4) rfl) rfl rfl dX8_holds_59 ?_
              refine lv_aload_n hx hb dX8_holds_62 rfl (lv_at hl 3 rfl) ?_
              refine mm_get (v := .ref (ad 21 13)) hx hb hts hin hown hK hW 13 (by decide) (List.mem_of_getElem? (i := 2) rfl) rfl rfl dX8_holds_63 ?_
              refine lv_iload_n hx hb dX8_holds_66 rfl (lv_at hl 4 rfl) ?_
              have b_16 : vp_in r 64 := by
                have u_1 := rg_e r
                have k_2 : (8 : Int32).toInt = 8 := rfl
                have u_3 := rg_e h
                have v_4 := cv_nle c_2
                have u_5 := rg_e (q.1 21 (Int32.toNatClampNeg h))
                have k_6 : ((-1) : Int32).toInt = -1 := rfl
                have v_7 := cv_ne c_13
                have w_8 := hrr
                have w_9 := hI.2.2.1 (Int32.toNatClampNeg r)
                have w_10 := i1
                exact vp_in_iff.mpr (by omega)
              refine mm_iald (v := (q.1 13 (Int32.toNatClampNeg r))) hx hb hK hW 13 64 rfl b_16 ((rfl)) dX8_holds_67 ?_
              have b_17 : vp_in (q.1 13 (Int32.toNatClampNeg r)) 16 := by
                have u_1 := rg_e r
                have u_2 := rg_e (q.1 13 (Int32.toNatClampNeg r))
                have k_3 : (8 : Int32).toInt = 8 := rfl
                have u_4 := rg_e h
                have v_5 := cv_nle c_2
                have u_6 := rg_e (q.1 21 (Int32.toNatClampNeg h))
                have k_7 : ((-1) : Int32).toInt = -1 := rfl
                have v_8 := cv_ne c_13
                have w_9 := hrr
                have w_10 := hI.2.2.1 (Int32.toNatClampNeg r)
                have w_11 := i1
                exact vp_in_iff.mpr (by omega)
              refine mm_iald (v := (q.1 9 (Int32.toNatClampNeg (q.1 13 (Int32.toNatClampNeg r))))) hx hb hK hW 9 16 rfl b_17 ((rfl)) dX8_holds_68 ?_
              refine lv_icmp_ne (tgt := 76) hx hb dX8_holds_69 (by decide) (fun c_18 => ?_) (fun c_18 => ?_)
              · refine lv_iconst (v := 0) hx hb dX8_holds_76 (by decide) ?_
                have e_19 : ((if (q.1 21 (Int32.toNatClampNeg h)) = (-1) then 1 else (if (q.1 21 (Int32.toNatClampNeg h)) = (q.1 9 (Int32.toNatClampNeg (q.1 13 (Int32.toNatClampNeg r)))) then 1 else 0)) : Int32) = 0 := by rw [if_neg c_13, if_neg c_18]
                exact hj _ _ _ e_19 ⟨hW, hS⟩
              · refine lv_iconst (v := 1) hx hb dX8_holds_72 (by decide) ?_
                refine lv_goto (tgt := 77) hx hb dX8_holds_73 (by decide) ?_
                have e_20 : ((if (q.1 21 (Int32.toNatClampNeg h)) = (-1) then 1 else (if (q.1 21 (Int32.toNatClampNeg h)) = (q.1 9 (Int32.toNatClampNeg (q.1 13 (Int32.toNatClampNeg r)))) then 1 else 0)) : Int32) = 1 := by rw [if_neg c_13, if_pos c_18]
                exact hj _ _ _ e_20 ⟨hW, hS⟩
        · refine lv_aload_n hx hb dX8_holds_10 rfl (lv_at hl 2 rfl) ?_
          refine mm_get (v := .ref (ad 21 20)) hx hb hts hin hown hK hW 20 (by decide) (List.mem_of_getElem? (i := 1) rfl) rfl rfl dX8_holds_11 ?_
          refine lv_iload_n hx hb dX8_holds_14 rfl (lv_at hl 1 rfl) ?_
          have b_3 : vp_in h 8 := by
            have u_1 := rg_e h
            have k_2 : (8 : Int32).toInt = 8 := rfl
            have v_3 := cv_nle c_2
            have w_4 := hrr
            have w_5 := hI.2.2.1 (Int32.toNatClampNeg r)
            have w_6 := i1
            exact vp_in_iff.mpr (by omega)
          refine mm_iald (v := (q.1 20 (Int32.toNatClampNeg h))) hx hb hK hW 20 8 rfl b_3 ((rfl)) dX8_holds_15 ?_
          refine lv_iconst (v := (-1)) hx hb dX8_holds_16 (by decide) ?_
          refine lv_icmp_eq (tgt := 35) hx hb dX8_holds_17 (by decide) (fun c_4 => ?_) (fun c_4 => ?_)
          · refine lv_iconst (v := 1) hx hb dX8_holds_35 (by decide) ?_
            refine lv_goto (tgt := 40) hx hb dX8_holds_36 (by decide) ?_
            have e_5 : ((if (q.1 20 (Int32.toNatClampNeg h)) = (-1) then 1 else (if (q.1 20 (Int32.toNatClampNeg h)) = (q.1 13 (Int32.toNatClampNeg r)) then 1 else 0)) : Int32) = 1 := by rw [if_pos c_4]
            exact hj _ _ _ e_5 ⟨hW, hS⟩
          · refine lv_aload_n hx hb dX8_holds_20 rfl (lv_at hl 2 rfl) ?_
            refine mm_get (v := .ref (ad 21 20)) hx hb hts hin hown hK hW 20 (by decide) (List.mem_of_getElem? (i := 1) rfl) rfl rfl dX8_holds_21 ?_
            refine lv_iload_n hx hb dX8_holds_24 rfl (lv_at hl 1 rfl) ?_
            have b_6 : vp_in h 8 := by
              have u_1 := rg_e h
              have k_2 : (8 : Int32).toInt = 8 := rfl
              have v_3 := cv_nle c_2
              have u_4 := rg_e (q.1 20 (Int32.toNatClampNeg h))
              have k_5 : ((-1) : Int32).toInt = -1 := rfl
              have v_6 := cv_ne c_4
              have w_7 := hrr
              have w_8 := hI.2.2.1 (Int32.toNatClampNeg r)
              have w_9 := i1
              exact vp_in_iff.mpr (by omega)
            refine mm_iald (v := (q.1 20 (Int32.toNatClampNeg h))) hx hb hK hW 20 8 rfl b_6 ((rfl)) dX8_holds_25 ?_
            refine lv_aload_n hx hb dX8_holds_26 rfl (lv_at hl 2 rfl) ?_
            refine mm_get (v := .ref (ad 21 13)) hx hb hts hin hown hK hW 13 (by decide) (List.mem_of_getElem? (i := 2) rfl) rfl rfl dX8_holds_27 ?_
            refine lv_iload_n hx hb dX8_holds_30 rfl (lv_at hl 3 rfl) ?_
            have b_7 : vp_in r 64 := by
              have u_1 := rg_e r
              have k_2 : (8 : Int32).toInt = 8 := rfl
              have u_3 := rg_e h
              have v_4 := cv_nle c_2
              have u_5 := rg_e (q.1 20 (Int32.toNatClampNeg h))
              have k_6 : ((-1) : Int32).toInt = -1 := rfl
              have v_7 := cv_ne c_4
              have w_8 := hrr
              have w_9 := hI.2.2.1 (Int32.toNatClampNeg r)
              have w_10 := i1
              exact vp_in_iff.mpr (by omega)
            refine mm_iald (v := (q.1 13 (Int32.toNatClampNeg r))) hx hb hK hW 13 64 rfl b_7 ((rfl)) dX8_holds_31 ?_
            refine lv_icmp_ne (tgt := 39) hx hb dX8_holds_32 (by decide) (fun c_8 => ?_) (fun c_8 => ?_)
            · refine lv_iconst (v := 0) hx hb dX8_holds_39 (by decide) ?_
              have e_9 : ((if (q.1 20 (Int32.toNatClampNeg h)) = (-1) then 1 else (if (q.1 20 (Int32.toNatClampNeg h)) = (q.1 13 (Int32.toNatClampNeg r)) then 1 else 0)) : Int32) = 0 := by rw [if_neg c_4, if_neg c_8]
              exact hj _ _ _ e_9 ⟨hW, hS⟩
            · refine lv_iconst (v := 1) hx hb dX8_holds_35 (by decide) ?_
              refine lv_goto (tgt := 40) hx hb dX8_holds_36 (by decide) ?_
              have e_10 : ((if (q.1 20 (Int32.toNatClampNeg h)) = (-1) then 1 else (if (q.1 20 (Int32.toNatClampNeg h)) = (q.1 13 (Int32.toNatClampNeg r)) then 1 else 0)) : Int32) = 1 := by rw [if_neg c_4, if_pos c_8]
              exact hj _ _ _ e_10 ⟨hW, hS⟩
  have h_50 : 0 ≤ (0 : Int32).toInt ∧ (0 : Int32).toInt ≤ 8 := by
    have k_1 : (0 : Int32).toInt = 0 := rfl
    have w_2 := hrr
    have w_3 := hI.2.2.1 (Int32.toNatClampNeg r)
    omega
  have h_51 : 8 - (0 : Int32).toInt < ((9 : Nat) : Int) := by
    have k_1 : (0 : Int32).toInt = 0 := rfl
    have w_2 := hrr
    have w_3 := hI.2.2.1 (Int32.toNatClampNeg r)
    omega
  refine lp_49 _ 9 0 0 h_50 h_51 (fun o_1 eo_1 H locs hW hS ls hl => ?_) _ _ hW hS ls (lv_sub hl [1, 0, 2, 3] rfl)
  refine lv_iload_n hx hb dX8_holds_172 rfl (lv_at hl 0 rfl) ?_
  exact mm_iret hx hb hr hlk hK hW hS (by rw [m_X8_holds, ← eo_1]) dX8_holds_173

def m_X8_termFor_lp1 (q : qM) (cl : Int32) (day : Int32) : Nat → Int32 → Int32 → Int32
  | 0, _, _ => 0
  | n + 1, v, k => (if (q.1 5 (Int32.toNatClampNeg cl)) ≤ k then v else (m_X8_termFor_lp1 q cl day n ((if day < (q.1 7 (Int32.toNatClampNeg ((6 * cl) + k))) then v else k) : Int32) (k + 1)))
def m_X8_termFor_lp2 (q : qM) (cl : Int32) (day : Int32) : Nat → Int32 → Int32 → Int32
  | 0, _, _ => 0
  | n + 1, best, k => (if (q.1 5 (Int32.toNatClampNeg cl)) ≤ k then best else (m_X8_termFor_lp2 q cl day n ((if (q.1 8 (Int32.toNatClampNeg ((6 * cl) + k))) = 0 then best else k) : Int32) (k + 1)))
def m_X8_termFor (q : qM) (cl : Int32) (day : Int32) : Int32 := (q.1 6 (Int32.toNatClampNeg ((6 * cl) + (m_X8_termFor_lp2 q cl day 8 (m_X8_termFor_lp1 q cl day 8 0 0) ((m_X8_termFor_lp1 q cl day 8 0 0) + 1)))))
set_option maxHeartbeats 4000000 in
set_option maxRecDepth 100000 in
theorem c_X8_termFor (l : Launch) (D : va_G) (b0 : Nat) (Pc : Nat → Nat → Option va_E) (cA : Nat → ClassId) (ad : Nat → Nat → Nat) (q : qM) (cl : Int32) (day : Int32) (hc : 0 ≤ (cl : Int32).toInt ∧ (cl : Int32).toInt ≤ 7) (hI : gI q) : mc_i l yX8_termFor wsX8_termFor 0 0 D b0 Pc cA ad q [.ref (ad 20 0), .int cl, .int day] (m_X8_termFor q cl day, q) := by
  refine mc_of (by decide) rfl (Nat.le_of_ble_eq_true rfl) ?_
  intro p e s m below meth c hx hb hml hr hlk hown hts hK hW ls hl
  have hown : s.vm.findClass RX8 = some m.cls := hown
  have hS : va_S (wA b0) s.heap s.heap [] := va_S.rf
  have hl : lv_has ls 6 [(0, .ref (ad 20 0)), (1, .int cl), (2, .int day)] := hl
  have hin : ∀ w ∈ wsX80, w ∈ wsX8_termFor := fun w h => List.mem_cons_of_mem _ (List.mem_append_right _ h)
  refine lv_iconst (v := 0) hx hb dX8_termFor_0 (by decide) ?_
  refine lv_istore_n (lv' := [(3, .int 0), (0, .ref (ad 20 0)), (1, .int cl), (2, .int day)]) hx hb dX8_termFor_1 rfl hl (by decide) rfl (fun ls hl => ?_)
  refine lv_iconst (v := 0) hx hb dX8_termFor_2 (by decide) ?_
  refine lv_istore (lv' := [(4, .int 0), (3, .int 0), (0, .ref (ad 20 0)), (1, .int cl), (2, .int day)]) hx hb dX8_termFor_3 hl (by decide) rfl (fun ls hl => ?_)
  have lp_12 : ∀ (Q : State → Prop) (n : Nat) (v : Int32) (k : Int32), (0 ≤ k.toInt ∧ k.toInt ≤ 6 ∧ 0 ≤ v.toInt ∧ v.toInt ≤ 5) → 6 - k.toInt < (n : Int) → (∀ o_1 : Int32, o_1 = (m_X8_termFor_lp1 q cl day n v k) → (0 ≤ (o_1).toInt ∧ (o_1).toInt ≤ 5) → ∀ (H : Heap) (locs : List Loc), wd D (wA b0) (PW Pc cA ad q) ad H → va_S (wA b0) s.heap H locs → ∀ ls : Array Slot, lv_has ls 6 [(3, .int o_1), (0, .ref (ad 20 0)), (1, .int cl), (2, .int day)] → W p l e { frames := 0, cells := 0, slots := 0, locals := 0 } s m [.ref (ad 20 0), .int cl, .int day].toArray below meth c H locs 0 0 Q (F0 m 45 ls [])) → ∀ (H : Heap) (locs : List Loc), wd D (wA b0) (PW Pc cA ad q) ad H → va_S (wA b0) s.heap H locs → ∀ ls : Array Slot, lv_has ls 6 [(3, .int v), (4, .int k), (0, .ref (ad 20 0)), (1, .int cl), (2, .int day)] → W p l e { frames := 0, cells := 0, slots := 0, locals := 0 } s m [.ref (ad 20 0), .int cl, .int day].toArray below meth c H locs 0 0 Q (F0 m 5 ls []) := by
    intro Q n
    induction n with
    | zero =>
      intro v k i1 hm
      have hz : 0 ≤ 6 - k.toInt := by
        have w_1 := hc
        have w_2 := hI.1 (Int32.toNatClampNeg cl)
        have w_3 := i1
        omega
      exact absurd hm (by omega)
    | succ n ih =>
      intro v k i1 hm kk H locs hW hS ls hl
      refine lv_iload hx hb dX8_termFor_5 (lv_at hl 1 rfl) ?_
      refine lv_aload_n hx hb dX8_termFor_7 rfl (lv_at hl 2 rfl) ?_
      refine mm_get (v := .ref (ad 21 5)) hx hb hts hin hown hK hW 5 (by decide) (List.mem_of_getElem? (i := 1) rfl) rfl rfl dX8_termFor_8 ?_
      refine lv_iload_n hx hb dX8_termFor_11 rfl (lv_at hl 3 rfl) ?_
      have b_2 : vp_in cl 8 := by
        have u_1 := rg_e cl
        have w_2 := hc
        have w_3 := hI.1 (Int32.toNatClampNeg cl)
        have w_4 := i1
        exact vp_in_iff.mpr (by omega)
      refine mm_iald (v := (q.1 5 (Int32.toNatClampNeg cl))) hx hb hK hW 5 8 rfl b_2 ((rfl)) dX8_termFor_12 ?_
      refine lv_icmp_ge (tgt := 45) hx hb dX8_termFor_13 (by decide) (fun c_3 => ?_) (fun c_3 => ?_)
      · have h_4 : 0 ≤ (v).toInt ∧ (v).toInt ≤ 5 := by
          have u_1 := rg_e v
          have u_2 := rg_e cl
          have u_3 := rg_e (q.1 5 (Int32.toNatClampNeg cl))
          have u_4 := rg_e k
          have v_5 := cv_le c_3
          have w_6 := hc
          have w_7 := hI.1 (Int32.toNatClampNeg cl)
          have w_8 := i1
          omega
        exact kk v (by rw [m_X8_termFor_lp1, if_pos c_3]) h_4 H locs hW hS ls (lv_sub hl [0, 2, 3, 4] rfl)
      · refine jn_w (J := 38) (rest := []) (Wd := fun H locs => wd D (wA b0) (PW Pc cA ad q) ad H ∧ va_S (wA b0) s.heap H locs) ((if day < (q.1 7 (Int32.toNatClampNeg ((6 * cl) + k))) then v else k) : Int32) ⟨hW, hS⟩ (fun H locs hWS => ?_) (fun hj => ?_)
        · obtain ⟨hW, hS⟩ := hWS
          have fj_9 : ∀ z : Int32, z = ((if day < (q.1 7 (Int32.toNatClampNeg ((6 * cl) + k))) then v else k) : Int32) → z.toInt = (v : Int32).toInt ∨ z.toInt = (k : Int32).toInt := by
            intro z hz
            rw [hz]
            repeat' split
            all_goals simp
          obtain ⟨j_9, ej_9⟩ : ∃ z : Int32, z = ((if day < (q.1 7 (Int32.toNatClampNeg ((6 * cl) + k))) then v else k) : Int32) := ⟨_, rfl⟩
          rw [← ej_9]
          refine lv_istore_n (lv' := [(3, .int j_9), (4, .int k), (0, .ref (ad 20 0)), (1, .int cl), (2, .int day)]) hx hb dX8_termFor_38 rfl hl (by decide) rfl (fun ls hl => ?_)
          refine lv_iinc (v := (k + 1)) (lv' := [(4, .int (k + 1)), (3, .int j_9), (0, .ref (ad 20 0)), (1, .int cl), (2, .int day)]) hx hb dX8_termFor_39 hl (k := 1) rfl (by first | rfl | decide) (by decide) rfl (fun ls hl => ?_)
          refine lv_goto (tgt := 5) hx hb dX8_termFor_42 (by decide) ?_
          have h_10 : 0 ≤ (k + 1).toInt ∧ (k + 1).toInt ≤ 6 ∧ 0 ≤ j_9.toInt ∧ j_9.toInt ≤ 5 := by
            have u_1 := rg_e j_9
            have u_2 := rg_e k
            have k_3 : (1 : Int32).toInt = 1 := rfl
            have u_5 := rg_e cl
            have u_6 := rg_e (q.1 5 (Int32.toNatClampNeg cl))
            have v_7 := cv_nle c_3
            have w_8 := hc
            have w_9 := hI.1 (Int32.toNatClampNeg cl)
            have w_10 := i1
            have w_11 := fj_9 j_9 ej_9
            have u_4 := ad_o k 1
            omega
          have h_11 : 6 - (k + 1).toInt < (n : Int) := by
            have u_1 := rg_e j_9
            have u_2 := rg_e k
            have k_3 : (1 : Int32).toInt = 1 := rfl
            have u_5 := rg_e cl
            have u_6 := rg_e (q.1 5 (Int32.toNatClampNeg cl))
            have v_7 := cv_nle c_3
            have w_8 := hc
            have w_9 := hI.1 (Int32.toNatClampNeg cl)
            have w_10 := i1
            have w_11 := fj_9 j_9 ej_9
            have w_12 := hm
            have u_4 := ad_o k 1
            omega
          exact ih j_9 (k + 1) h_10 h_11 (fun o_1 eo_1 => kk o_1 (eo_1.trans (by rw [m_X8_termFor_lp1, if_neg c_3, ← ej_9]))) _ _ hW hS ls (lv_sub hl [1, 0, 2, 3, 4] rfl)
        · refine lv_aload_n hx hb dX8_termFor_16 rfl (lv_at hl 2 rfl) ?_
          refine mm_get (v := .ref (ad 21 7)) hx hb hts hin hown hK hW 7 (by decide) (List.mem_of_getElem? (i := 2) rfl) rfl rfl dX8_termFor_17 ?_
          refine lv_bipush (v := 6) hx hb dX8_termFor_20 (by decide) ?_
          refine lv_iload_n hx hb dX8_termFor_22 rfl (lv_at hl 3 rfl) ?_
          refine lv_imul hx hb dX8_termFor_23 ?_
          refine lv_iload hx hb dX8_termFor_24 (lv_at hl 1 rfl) ?_
          refine lv_iadd hx hb dX8_termFor_26 ?_
          have b_5 : vp_in ((6 * cl) + k) 48 := by
            have k_1 : (6 : Int32).toInt = 6 := rfl
            have u_2 := rg_e cl
            have u_4 := rg_e k
            have u_6 := rg_e (q.1 5 (Int32.toNatClampNeg cl))
            have v_7 := cv_nle c_3
            have w_8 := hc
            have w_9 := hI.1 (Int32.toNatClampNeg cl)
            have w_10 := i1
            have u_3 := mu_o 6 6 cl rfl
            have u_5 := ad_o (6 * cl) k
            exact vp_in_iff.mpr (by omega)
          refine mm_iald (v := (q.1 7 (Int32.toNatClampNeg ((6 * cl) + k)))) hx hb hK hW 7 48 rfl b_5 ((rfl)) dX8_termFor_27 ?_
          refine lv_iload_n hx hb dX8_termFor_28 rfl (lv_at hl 4 rfl) ?_
          refine lv_icmp_gt (tgt := 37) hx hb dX8_termFor_29 (by decide) (fun c_6 => ?_) (fun c_6 => ?_)
          · refine lv_iload_n hx hb dX8_termFor_37 rfl (lv_at hl 0 rfl) ?_
            have e_7 : ((if day < (q.1 7 (Int32.toNatClampNeg ((6 * cl) + k))) then v else k) : Int32) = v := by rw [if_pos c_6]
            exact hj _ _ _ e_7 ⟨hW, hS⟩
          · refine lv_iload hx hb dX8_termFor_32 (lv_at hl 1 rfl) ?_
            refine lv_goto (tgt := 38) hx hb dX8_termFor_34 (by decide) ?_
            have e_8 : ((if day < (q.1 7 (Int32.toNatClampNeg ((6 * cl) + k))) then v else k) : Int32) = k := by rw [if_neg c_6]
            exact hj _ _ _ e_8 ⟨hW, hS⟩
  have h_13 : 0 ≤ (0 : Int32).toInt ∧ (0 : Int32).toInt ≤ 6 ∧ 0 ≤ (0 : Int32).toInt ∧ (0 : Int32).toInt ≤ 5 := by
    have k_1 : (0 : Int32).toInt = 0 := rfl
    have w_2 := hc
    have w_3 := hI.1 (Int32.toNatClampNeg cl)
    omega
  have h_14 : 6 - (0 : Int32).toInt < ((8 : Nat) : Int) := by
    have k_1 : (0 : Int32).toInt = 0 := rfl
    have w_2 := hc
    have w_3 := hI.1 (Int32.toNatClampNeg cl)
    omega
  refine lp_12 _ 8 0 0 h_13 h_14 (fun o_1 eo_1 ho_1 H locs hW hS ls hl => ?_) _ _ hW hS ls (lv_sub hl [1, 0, 2, 3, 4] rfl)
  refine lv_iload_n hx hb dX8_termFor_45 rfl (lv_at hl 0 rfl) ?_
  refine lv_istore (lv' := [(4, .int o_1), (3, .int o_1), (0, .ref (ad 20 0)), (1, .int cl), (2, .int day)]) hx hb dX8_termFor_46 hl (by decide) rfl (fun ls hl => ?_)
  refine lv_iload_n hx hb dX8_termFor_48 rfl (lv_at hl 1 rfl) ?_
  refine lv_iconst (v := 1) hx hb dX8_termFor_49 (by decide) ?_
  refine lv_iadd hx hb dX8_termFor_50 ?_
  refine lv_istore (lv' := [(5, .int (o_1 + 1)), (4, .int o_1), (3, .int o_1), (0, .ref (ad 20 0)), (1, .int cl), (2, .int day)]) hx hb dX8_termFor_51 hl (by decide) rfl (fun ls hl => ?_)
  have lp_26 : ∀ (Q : State → Prop) (n : Nat) (best : Int32) (k : Int32), (0 ≤ k.toInt ∧ k.toInt ≤ 7 ∧ 0 ≤ best.toInt ∧ best.toInt ≤ 5) → 7 - k.toInt < (n : Int) → (∀ o_15 : Int32, o_15 = (m_X8_termFor_lp2 q cl day n best k) → (0 ≤ (o_15).toInt ∧ (o_15).toInt ≤ 5) → ∀ (H : Heap) (locs : List Loc), wd D (wA b0) (PW Pc cA ad q) ad H → va_S (wA b0) s.heap H locs → ∀ ls : Array Slot, lv_has ls 6 [(4, .int o_15), (3, .int o_1), (0, .ref (ad 20 0)), (1, .int cl), (2, .int day)] → W p l e { frames := 0, cells := 0, slots := 0, locals := 0 } s m [.ref (ad 20 0), .int cl, .int day].toArray below meth c H locs 0 0 Q (F0 m 94 ls [])) → ∀ (H : Heap) (locs : List Loc), wd D (wA b0) (PW Pc cA ad q) ad H → va_S (wA b0) s.heap H locs → ∀ ls : Array Slot, lv_has ls 6 [(4, .int best), (5, .int k), (3, .int o_1), (0, .ref (ad 20 0)), (1, .int cl), (2, .int day)] → W p l e { frames := 0, cells := 0, slots := 0, locals := 0 } s m [.ref (ad 20 0), .int cl, .int day].toArray below meth c H locs 0 0 Q (F0 m 53 ls []) := by
    intro Q n
    induction n with
    | zero =>
      intro best k i1 hm
      have hz : 0 ≤ 7 - k.toInt := by
        have w_1 := hc
        have w_2 := hI.1 (Int32.toNatClampNeg cl)
        have w_3 := ho_1
        have w_4 := i1
        omega
      exact absurd hm (by omega)
    | succ n ih =>
      intro best k i1 hm kk H locs hW hS ls hl
      refine lv_iload hx hb dX8_termFor_53 (lv_at hl 1 rfl) ?_
      refine lv_aload_n hx hb dX8_termFor_55 rfl (lv_at hl 3 rfl) ?_
      refine mm_get (v := .ref (ad 21 5)) hx hb hts hin hown hK hW 5 (by decide) (List.mem_of_getElem? (i := 1) rfl) rfl rfl dX8_termFor_56 ?_
      refine lv_iload_n hx hb dX8_termFor_59 rfl (lv_at hl 4 rfl) ?_
      have b_16 : vp_in cl 8 := by
        have u_1 := rg_e cl
        have w_2 := hc
        have w_3 := hI.1 (Int32.toNatClampNeg cl)
        have w_4 := ho_1
        have w_5 := i1
        exact vp_in_iff.mpr (by omega)
      refine mm_iald (v := (q.1 5 (Int32.toNatClampNeg cl))) hx hb hK hW 5 8 rfl b_16 ((rfl)) dX8_termFor_60 ?_
      refine lv_icmp_ge (tgt := 94) hx hb dX8_termFor_61 (by decide) (fun c_17 => ?_) (fun c_17 => ?_)
      · have h_18 : 0 ≤ (best).toInt ∧ (best).toInt ≤ 5 := by
          have u_1 := rg_e best
          have u_2 := rg_e cl
          have u_3 := rg_e (q.1 5 (Int32.toNatClampNeg cl))
          have u_4 := rg_e k
          have v_5 := cv_le c_17
          have w_6 := hc
          have w_7 := hI.1 (Int32.toNatClampNeg cl)
          have w_8 := ho_1
          have w_9 := i1
          omega
        exact kk best (by rw [m_X8_termFor_lp2, if_pos c_17]) h_18 H locs hW hS ls (lv_sub hl [0, 2, 3, 4, 5] rfl)
      · refine jn_w (J := 86) (rest := []) (Wd := fun H locs => wd D (wA b0) (PW Pc cA ad q) ad H ∧ va_S (wA b0) s.heap H locs) ((if (q.1 8 (Int32.toNatClampNeg ((6 * cl) + k))) = 0 then best else k) : Int32) ⟨hW, hS⟩ (fun H locs hWS => ?_) (fun hj => ?_)
        · obtain ⟨hW, hS⟩ := hWS
          have fj_23 : ∀ z : Int32, z = ((if (q.1 8 (Int32.toNatClampNeg ((6 * cl) + k))) = 0 then best else k) : Int32) → z.toInt = (best : Int32).toInt ∨ z.toInt = (k : Int32).toInt := by
            intro z hz
            rw [hz]
            repeat' split
            all_goals simp
          obtain ⟨j_23, ej_23⟩ : ∃ z : Int32, z = ((if (q.1 8 (Int32.toNatClampNeg ((6 * cl) + k))) = 0 then best else k) : Int32) := ⟨_, rfl⟩
          rw [← ej_23]
          refine lv_istore (lv' := [(4, .int j_23), (5, .int k), (3, .int o_1), (0, .ref (ad 20 0)), (1, .int cl), (2, .int day)]) hx hb dX8_termFor_86 hl (by decide) rfl (fun ls hl => ?_)
          refine lv_iinc (v := (k + 1)) (lv' := [(5, .int (k + 1)), (4, .int j_23), (3, .int o_1), (0, .ref (ad 20 0)), (1, .int cl), (2, .int day)]) hx hb dX8_termFor_88 hl (k := 1) rfl (by first | rfl | decide) (by decide) rfl (fun ls hl => ?_)
          refine lv_goto (tgt := 53) hx hb dX8_termFor_91 (by decide) ?_
          have h_24 : 0 ≤ (k + 1).toInt ∧ (k + 1).toInt ≤ 7 ∧ 0 ≤ j_23.toInt ∧ j_23.toInt ≤ 5 := by
            have u_1 := rg_e j_23
            have u_2 := rg_e k
            have k_3 : (1 : Int32).toInt = 1 := rfl
            have u_5 := rg_e cl
            have u_6 := rg_e (q.1 5 (Int32.toNatClampNeg cl))
            have v_7 := cv_nle c_17
            have w_8 := hc
            have w_9 := hI.1 (Int32.toNatClampNeg cl)
            have w_10 := ho_1
            have w_11 := i1
            have w_12 := fj_23 j_23 ej_23
            have u_4 := ad_o k 1
            omega
          have h_25 : 7 - (k + 1).toInt < (n : Int) := by
            have u_1 := rg_e j_23
            have u_2 := rg_e k
            have k_3 : (1 : Int32).toInt = 1 := rfl
            have u_5 := rg_e cl
            have u_6 := rg_e (q.1 5 (Int32.toNatClampNeg cl))
            have v_7 := cv_nle c_17
            have w_8 := hc
            have w_9 := hI.1 (Int32.toNatClampNeg cl)
            have w_10 := ho_1
            have w_11 := i1
            have w_12 := fj_23 j_23 ej_23
            have w_13 := hm
            have u_4 := ad_o k 1
            omega
          exact ih j_23 (k + 1) h_24 h_25 (fun o_15 eo_15 => kk o_15 (eo_15.trans (by rw [m_X8_termFor_lp2, if_neg c_17, ← ej_23]))) _ _ hW hS ls (lv_sub hl [1, 0, 2, 3, 4, 5] rfl)
        · refine lv_aload_n hx hb dX8_termFor_64 rfl (lv_at hl 3 rfl) ?_
          refine mm_get (v := .ref (ad 21 8)) hx hb hts hin hown hK hW 8 (by decide) (List.mem_of_getElem? (i := 3) rfl) rfl rfl dX8_termFor_65 ?_
          refine lv_bipush (v := 6) hx hb dX8_termFor_68 (by decide) ?_
          refine lv_iload_n hx hb dX8_termFor_70 rfl (lv_at hl 4 rfl) ?_
          refine lv_imul hx hb dX8_termFor_71 ?_
          refine lv_iload hx hb dX8_termFor_72 (lv_at hl 1 rfl) ?_
          refine lv_iadd hx hb dX8_termFor_74 ?_
          have b_19 : vp_in ((6 * cl) + k) 48 := by
            have k_1 : (6 : Int32).toInt = 6 := rfl
            have u_2 := rg_e cl
            have u_4 := rg_e k
            have u_6 := rg_e (q.1 5 (Int32.toNatClampNeg cl))
            have v_7 := cv_nle c_17
            have w_8 := hc
            have w_9 := hI.1 (Int32.toNatClampNeg cl)
            have w_10 := ho_1
            have w_11 := i1
            have u_3 := mu_o 6 6 cl rfl
            have u_5 := ad_o (6 * cl) k
            exact vp_in_iff.mpr (by omega)
          refine mm_zald (v := (q.1 8 (Int32.toNatClampNeg ((6 * cl) + k)))) hx hb hK hW 8 48 rfl b_19 ((rfl)) dX8_termFor_75 ?_
          refine lv_if_eq (tgt := 84) hx hb dX8_termFor_76 (by decide) (fun c_20 => ?_) (fun c_20 => ?_)
          · refine lv_iload hx hb dX8_termFor_84 (lv_at hl 0 rfl) ?_
            have e_21 : ((if (q.1 8 (Int32.toNatClampNeg ((6 * cl) + k))) = 0 then best else k) : Int32) = best := by rw [if_pos c_20]
            exact hj _ _ _ e_21 ⟨hW, hS⟩
          · refine lv_iload hx hb dX8_termFor_79 (lv_at hl 1 rfl) ?_
            refine lv_goto (tgt := 86) hx hb dX8_termFor_81 (by decide) ?_
            have e_22 : ((if (q.1 8 (Int32.toNatClampNeg ((6 * cl) + k))) = 0 then best else k) : Int32) = k := by rw [if_neg c_20]
            exact hj _ _ _ e_22 ⟨hW, hS⟩
  have h_27 : 0 ≤ (o_1 + 1).toInt ∧ (o_1 + 1).toInt ≤ 7 ∧ 0 ≤ o_1.toInt ∧ o_1.toInt ≤ 5 := by
    have u_1 := rg_e o_1
    have k_2 : (1 : Int32).toInt = 1 := rfl
    have w_4 := hc
    have w_5 := hI.1 (Int32.toNatClampNeg cl)
    have w_6 := ho_1
    have u_3 := ad_o o_1 1
    omega
  have h_28 : 7 - (o_1 + 1).toInt < ((8 : Nat) : Int) := by
    have u_1 := rg_e o_1
    have k_2 : (1 : Int32).toInt = 1 := rfl
    have w_4 := hc
    have w_5 := hI.1 (Int32.toNatClampNeg cl)
    have w_6 := ho_1
    have u_3 := ad_o o_1 1
    omega
  refine lp_26 _ 8 o_1 (o_1 + 1) h_27 h_28 (fun o_15 eo_15 ho_15 H locs hW hS ls hl => ?_) _ _ hW hS ls (lv_sub hl [1, 0, 2, 3, 4, 5] rfl)
  refine lv_aload_n hx hb dX8_termFor_94 rfl (lv_at hl 2 rfl) ?_
  refine mm_get (v := .ref (ad 21 6)) hx hb hts hin hown hK hW 6 (by decide) (List.mem_of_getElem? (i := 4) rfl) rfl rfl dX8_termFor_95 ?_
  refine lv_bipush (v := 6) hx hb dX8_termFor_98 (by decide) ?_
  refine lv_iload_n hx hb dX8_termFor_100 rfl (lv_at hl 3 rfl) ?_
  refine lv_imul hx hb dX8_termFor_101 ?_
  refine lv_iload hx hb dX8_termFor_102 (lv_at hl 0 rfl) ?_
  refine lv_iadd hx hb dX8_termFor_104 ?_
  have b_29 : vp_in ((6 * cl) + o_15) 48 := by
    have k_1 : (6 : Int32).toInt = 6 := rfl
    have u_2 := rg_e cl
    have u_4 := rg_e o_15
    have w_6 := hc
    have w_7 := hI.1 (Int32.toNatClampNeg cl)
    have w_8 := ho_1
    have w_9 := ho_15
    have u_3 := mu_o 6 6 cl rfl
    have u_5 := ad_o (6 * cl) o_15
    exact vp_in_iff.mpr (by omega)
  refine mm_iald (v := (q.1 6 (Int32.toNatClampNeg ((6 * cl) + o_15)))) hx hb hK hW 6 48 rfl b_29 ((rfl)) dX8_termFor_105 ?_
  exact mm_iret hx hb hr hlk hK hW hS (by rw [m_X8_termFor, ← eo_1, ← eo_15]) dX8_termFor_106
