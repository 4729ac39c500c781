/-! laid by wip/whole/tools/xclass3.py -/
theorem lo_t {v : Int32} {k j : Int32} {A : Int32} (hk : ¬ A = 0) (h : (if v < k then A else (if v < j then 0 else A)) = 0) : k.toInt ≤ v.toInt ∧ v.toInt < j.toInt := by
  by_cases h1 : v < k
  · rw [if_pos h1] at h; exact absurd h hk
  · rw [if_neg h1] at h
    by_cases h2 : v < j
    · exact ⟨cv_nlt h1, cv_lt h2⟩
    · rw [if_neg h2] at h; exact absurd h hk
theorem le_t {v : Int32} {k j : Int32} {A : Int32} (hk : ¬ A = 0) (h : (if v < k then A else (if v ≤ j then 0 else A)) = 0) : k.toInt ≤ v.toInt ∧ v.toInt ≤ j.toInt := by
  by_cases h1 : v < k
  · rw [if_pos h1] at h; exact absurd h hk
  · rw [if_neg h1] at h
    by_cases h2 : v ≤ j
    · exact ⟨cv_nlt h1, cv_le h2⟩
    · rw [if_neg h2] at h; exact absurd h hk
theorem ncl_t {v : Int32} (h : m_X7_needClass v = 0) : 0 ≤ v.toInt ∧ v.toInt < 8 := lo_t (k := 0) (j := 8) (A := 1) (by decide) h
theorem nho_t {v : Int32} (h : m_X7_needHold v = 0) : 0 ≤ v.toInt ∧ v.toInt < 8 := lo_t (k := 0) (j := 8) (A := 1) (by decide) h
theorem nof_t {v : Int32} (h : m_X7_needOfficer v = 0) : 0 ≤ v.toInt ∧ v.toInt < 8 := lo_t (k := 0) (j := 8) (A := 1) (by decide) h
theorem nda_t {v : Int32} (h : m_X7_needDay v = 0) : 0 ≤ v.toInt ∧ v.toInt ≤ 120000 := le_t (k := 0) (j := 120000) (A := 2) (by decide) h
theorem nke_t {v : Int32} (h : m_X7_needKeyOrNone v = 0) : -1 ≤ v.toInt ∧ v.toInt ≤ 99 := le_t (k := -1) (j := 99) (A := 2) (by decide) h
theorem nnu_t {v : Int32} (h : m_X7_needNumberOfAct v = 0) : 0 ≤ v.toInt ∧ v.toInt < 4 := lo_t (k := 0) (j := 4) (A := 2) (by decide) h
theorem nac_t {q : qC} {v : Int32} (h : m_X7_needAct q v = 0) : 0 ≤ v.toInt ∧ v.toInt < (q.1 7 0 2).toInt := lo_t (k := 0) (j := q.1 7 0 2) (A := 1) (by decide) h
theorem rat_t {q : qC} {v : Int32} (h : m_X7_recordAt q v = 0) : 0 ≤ v.toInt ∧ v.toInt < (q.1 0 0 7).toInt := lo_t (k := 0) (j := q.1 0 0 7) (A := 1) (by decide) h
theorem lat_t {q : qC} {v : Int32} (h : m_X7_listAt q v = 0) : 0 ≤ v.toInt ∧ v.toInt < (q.1 0 0 8).toInt := lo_t (k := 0) (j := q.1 0 0 8) (A := 1) (by decide) h
theorem ra_p {q : qC} (hI : cI q) {v : Int32} (h : m_X7_recordAt q v = 0) : ¬ q.1 5 0 (Int32.toNatClampNeg v) = 0 := cI_rec hI (rat_t h).1 (rat_t h).2
theorem la_p {q : qC} (hI : cI q) {v : Int32} (h : m_X7_listAt q v = 0) : ¬ q.1 6 0 (Int32.toNatClampNeg v) = 0 := cI_lis hI (lat_t h).1 (lat_t h).2
theorem fat_t {q : qC} {v : Int32} (h : m_X7_folderAt q v = 0) : 0 ≤ v.toInt ∧ v.toInt < 16 ∧ ¬ q.1 3 0 (Int32.toNatClampNeg v) = 0 := by
  unfold m_X7_folderAt at h
  by_cases h1 : v < 0
  · rw [if_pos h1] at h; exact absurd h (by decide)
  · rw [if_neg h1] at h
    by_cases h2 : 16 ≤ v
    · rw [if_pos h2] at h; exact absurd h (by decide)
    · rw [if_neg h2] at h
      by_cases h3 : (q.1 3 0 (Int32.toNatClampNeg v)) = 0
      · rw [if_pos h3] at h; exact absurd h (by decide)
      · exact ⟨cv_nlt h1, cv_nle h2, h3⟩
theorem fa_p {q : qC} {v : Int32} (h : m_X7_folderAt q v = 0) : ¬ q.1 3 0 (Int32.toNatClampNeg v) = 0 := (fat_t h).2.2
theorem fa_r {q : qC} {v : Int32} (h : m_X7_folderAt q v = 0) : 0 ≤ v.toInt ∧ v.toInt < 16 := ⟨(fat_t h).1, (fat_t h).2.1⟩
theorem ndo_t {q : qC} {v : Int32} (h : m_X7_needDayOfAct q v = 0) : (0 ≤ v.toInt ∧ v.toInt ≤ 120000) ∧ (q.1 0 0 9).toInt ≤ v.toInt := by
  unfold m_X7_needDayOfAct at h
  by_cases h1 : m_X7_needDay v = 0
  · rw [if_pos h1] at h
    by_cases h2 : (q.1 0 0 9) ≤ v
    · exact ⟨nda_t h1, cv_le h2⟩
    · rw [if_neg h2] at h; exact absurd h (by decide)
  · rw [if_neg h1] at h; exact absurd h h1
theorem nro_t {q : qC} (hI : cI q) {n : Int32} (h : m_X7_needRoom q n = 0) : (q.1 7 0 2).toInt + n.toInt ≤ 400 := by
  unfold m_X7_needRoom at h
  have g := su_o 400 (q.1 7 0 2)
  have g2 := hI.2.2.2.2.2.2.2.2.2.2.1
  have k4 : (400 : Int32).toInt = 400 := rfl
  by_cases h1 : n ≤ (400 - (q.1 7 0 2))
  · have := cv_le h1; omega
  · rw [if_neg h1] at h; exact absurd h (by decide)
theorem nte_t {a b : Int32} (h : m_X7_needTerm a b = 0) : (0 ≤ a.toInt ∧ a.toInt ≤ 100) ∧ 0 ≤ b.toInt ∧ b.toInt ≤ 11 := by
  unfold m_X7_needTerm at h
  by_cases h1 : a < 0
  · rw [if_pos h1] at h; exact absurd h (by decide)
  · rw [if_neg h1] at h
    by_cases h2 : 100 < a
    · rw [if_pos h2] at h; exact absurd h (by decide)
    · rw [if_neg h2] at h
      have := le_t (k := 0) (j := 11) (A := 2) (by decide) h
      exact ⟨⟨cv_nlt h1, cv_nlt h2⟩, this⟩

def m_X7_officer (q : qC) (o : Int32) (rights : Int32) : Int32 × qC := (if (m_X7_needOfficer o) = 0 then (if rights < 0 then (2, q) else (if rights ≤ 7 then (0, (cq_i q 1 0 (Int32.toNatClampNeg o) rights)) else (2, q))) else ((m_X7_needOfficer o), q))
set_option maxHeartbeats 4000000 in
set_option maxRecDepth 100000 in
theorem c_X7_officer (l : Launch) (hlt : l.stackTraces = false) (D : va_G) (b0 : Nat) (cA : Nat → ClassId) (ad : Nat → Nat → Nat) (mq : qM) (q : qC) (o : Int32) (rights : Int32) : xc_v l yX7_officer wsX7_officer 7 110 2 12 D b0 cA ad mq q [.ref (ad 0 0), .int o, .int rights] (m_X7_officer q o rights) := by
  refine xc_of (by decide) rfl (Nat.le_of_ble_eq_true rfl) ?_
  intro p e s m below meth c hx hb hml hr hlk hown hts hK hW hKD hKX hz hxt ls hl
  have hown : s.vm.findClass RX7 = some m.cls := hown
  have hS : va_S (wA b0) s.heap s.heap [] := va_S.rf
  have hl : lv_has ls 3 [(0, .ref (ad 0 0)), (1, .int o), (2, .int rights)] := hl
  have hin_X7 : ∀ w ∈ wsX70, w ∈ wsX7_officer := fun w h => List.mem_cons_of_mem _ (List.mem_append_left _ (List.mem_append_left _ (List.mem_append_right _ h)))
  have hat_2 := xat_2 (fun w h => hts w (List.mem_cons_of_mem _ (List.mem_append_left _ (List.mem_append_right _ h)))) hKX
  refine lv_iload_n hx hb dX7_officer_0 rfl (lv_at hl 1 rfl) ?_
  refine ox_callSv (n := 1) (As := [.int o]) (rest := []) (z2 := q) (k0 := (m_X7_needOfficer o)) ⟨hx, hb, hml, hown, hts⟩ (c_X7_needOfficer l hlt D b0 cA ad mq q o) gX7_officer_X7_needOfficer rfl (by decide +kernel) rfl ⟨Nat.le_of_ble_eq_true rfl, Nat.le_of_ble_eq_true rfl⟩ ⟨Nat.le_of_ble_eq_true rfl, Nat.le_of_ble_eq_true rfl⟩ hK hW hS hKD hKX hz hl.1 rfl (Nat.le_of_ble_eq_true rfl) dX7_officer_1 (fun hne H locs ce q9 hW hS h1 h2 h3 => ox_out hxt hlk hK (by rw [m_X7_officer, if_neg hne]) hne hW hS h1 h2 h3 (Nat.le_of_ble_eq_true rfl) (Nat.le_of_ble_eq_true rfl)) (fun c_1 H locs hW hS => ?_)
  refine lv_iload_n hx hb dX7_officer_4 rfl (lv_at hl 2 rfl) ?_
  refine lv_if_lt (tgt := 14) hx hb dX7_officer_5 (by decide) (fun c_2 => ?_) (fun c_2 => ?_)
  · exact ox_throwS (cls := "java/lang/IllegalArgumentException") (text := "no such rights") hx hb hlt hown (hts _ (List.mem_of_getElem? (i := 1) rfl)) (hts _ (List.mem_of_getElem? (i := 2) rfl)) hat_2 (by decide +kernel) (by decide +kernel) hK hW hS hKX (by decide +kernel) (hl.1.trans hml.symm) hxt (by rw [m_X7_officer, if_pos c_1, if_pos c_2]; exact ⟨rfl, show ¬ (2 : Int32) = 0 by decide⟩) (Nat.le_of_ble_eq_true rfl) (Nat.le_of_ble_eq_true rfl) (Nat.le_of_ble_eq_true rfl) (Nat.le_of_ble_eq_true rfl) hlk (Nat.le_of_ble_eq_true rfl) (Nat.le_of_ble_eq_true rfl) dX7_officer_14 dX7_officer_17 dX7_officer_18 dX7_officer_20 dX7_officer_23
  · refine lv_iload_n hx hb dX7_officer_8 rfl (lv_at hl 2 rfl) ?_
    refine lv_bipush (v := 7) hx hb dX7_officer_9 (by decide) ?_
    refine lv_icmp_le (tgt := 24) hx hb dX7_officer_11 (by decide) (fun c_3 => ?_) (fun c_3 => ?_)
    · refine lv_aload_n hx hb dX7_officer_24 rfl (lv_at hl 0 rfl) ?_
      refine ow_get (v2 := .ref (ad 1 0)) (ci := 6) (C := RX7) (T := TX7) (N := 11) hx hb hts hin_X7 hown hK hW 0 0 (PO_k0) rfl 0 (by decide) (List.mem_of_getElem? (i := 3) rfl) rfl rfl rfl dX7_officer_25 ?_
      refine lv_iload_n hx hb dX7_officer_28 rfl (lv_at hl 1 rfl) ?_
      refine lv_iload_n hx hb dX7_officer_29 rfl (lv_at hl 2 rfl) ?_
      have b_4 : vp_in o 8 := by
        have u_1 := rg_e o
        have u_2 := rg_e (m_X7_needOfficer o)
        have k_3 : (0 : Int32).toInt = 0 := rfl
        have v_4 := cv_eq c_1
        have v_5 := nof_t c_1
        have u_6 := rg_e rights
        have v_7 := cv_nlt c_2
        have k_8 : (7 : Int32).toInt = 7 := rfl
        have v_9 := cv_le c_3
        exact vp_in_iff.mpr (by omega)
      refine ow_iast hx hb hK hW hS 1 0 (PO_k1) b_4 (by decide) (PO_w1) dX7_officer_30 (fun H locs hW hS => ?_)
      exact ox_vret hx hb hr hlk hK hW hS (Nat.le_of_ble_eq_true rfl) (Nat.le_of_ble_eq_true rfl) (by rw [m_X7_officer, if_pos c_1, if_neg c_2, if_pos c_3]) dX7_officer_31
    · exact ox_throwS (cls := "java/lang/IllegalArgumentException") (text := "no such rights") hx hb hlt hown (hts _ (List.mem_of_getElem? (i := 1) rfl)) (hts _ (List.mem_of_getElem? (i := 2) rfl)) hat_2 (by decide +kernel) (by decide +kernel) hK hW hS hKX (by decide +kernel) (hl.1.trans hml.symm) hxt (by rw [m_X7_officer, if_pos c_1, if_neg c_2, if_neg c_3]; exact ⟨rfl, show ¬ (2 : Int32) = 0 by decide⟩) (Nat.le_of_ble_eq_true rfl) (Nat.le_of_ble_eq_true rfl) (Nat.le_of_ble_eq_true rfl) (Nat.le_of_ble_eq_true rfl) hlk (Nat.le_of_ble_eq_true rfl) (Nat.le_of_ble_eq_true rfl) dX7_officer_14 dX7_officer_17 dX7_officer_18 dX7_officer_20 dX7_officer_23

def m_X7_fiscal (q : qC) (month : Int32) : Int32 × qC := (if month < 1 then (2, q) else (if month ≤ 12 then (if (q.1 0 0 7) ≤ 0 then (0, (cq_i q 0 0 10 month)) else (3, q)) else (2, q)))
set_option maxHeartbeats 4000000 in
set_option maxRecDepth 100000 in
theorem c_X7_fiscal (l : Launch) (hlt : l.stackTraces = false) (D : va_G) (b0 : Nat) (cA : Nat → ClassId) (ad : Nat → Nat → Nat) (mq : qM) (q : qC) (month : Int32) : xc_v l yX7_fiscal wsX7_fiscal 6 90 1 6 D b0 cA ad mq q [.ref (ad 0 0), .int month] (m_X7_fiscal q month) := by
  refine xc_of (by decide) rfl (Nat.le_of_ble_eq_true rfl) ?_
  intro p e s m below meth c hx hb hml hr hlk hown hts hK hW hKD hKX hz hxt ls hl
  have hown : s.vm.findClass RX7 = some m.cls := hown
  have hS : va_S (wA b0) s.heap s.heap [] := va_S.rf
  have hl : lv_has ls 2 [(0, .ref (ad 0 0)), (1, .int month)] := hl
  have hin_X7 : ∀ w ∈ wsX70, w ∈ wsX7_fiscal := fun w h => List.mem_cons_of_mem _ (List.mem_append_left _ (List.mem_append_left _ (List.mem_append_right _ h)))
  have hat_2 := xat_2 (fun w h => hts w (List.mem_cons_of_mem _ (List.mem_append_left _ (List.mem_append_right _ h)))) hKX
  have hat_3 := xat_3 (fun w h => hts w (List.mem_cons_of_mem _ (List.mem_append_right _ h))) hKX
  refine lv_iload_n hx hb dX7_fiscal_0 rfl (lv_at hl 1 rfl) ?_
  refine lv_iconst (v := 1) hx hb dX7_fiscal_1 (by decide) ?_
  refine lv_icmp_lt (tgt := 11) hx hb dX7_fiscal_2 (by decide) (fun c_1 => ?_) (fun c_1 => ?_)
  · exact ox_throwS (cls := "java/lang/IllegalArgumentException") (text := "no such month") hx hb hlt hown (hts _ (List.mem_of_getElem? (i := 1) rfl)) (hts _ (List.mem_of_getElem? (i := 2) rfl)) hat_2 (by decide +kernel) (by decide +kernel) hK hW hS hKX (by decide +kernel) (hl.1.trans hml.symm) hxt (by rw [m_X7_fiscal, if_pos c_1]; exact ⟨rfl, show ¬ (2 : Int32) = 0 by decide⟩) (Nat.le_of_ble_eq_true rfl) (Nat.le_of_ble_eq_true rfl) (Nat.le_of_ble_eq_true rfl) (Nat.le_of_ble_eq_true rfl) hlk (Nat.le_of_ble_eq_true rfl) (Nat.le_of_ble_eq_true rfl) dX7_fiscal_11 dX7_fiscal_14 dX7_fiscal_15 dX7_fiscal_17 dX7_fiscal_20
  · refine lv_iload_n hx hb dX7_fiscal_5 rfl (lv_at hl 1 rfl) ?_
    refine lv_bipush (v := 12) hx hb dX7_fiscal_6 (by decide) ?_
    refine lv_icmp_le (tgt := 21) hx hb dX7_fiscal_8 (by decide) (fun c_2 => ?_) (fun c_2 => ?_)
    · refine lv_aload_n hx hb dX7_fiscal_21 rfl (lv_at hl 0 rfl) ?_
      refine ow_get (v2 := .int (q.1 0 0 7)) (ci := 6) (C := RX7) (T := TX7) (N := 11) hx hb hts hin_X7 hown hK hW 0 0 (PO_k0) rfl 7 (by decide) (List.mem_of_getElem? (i := 5) rfl) rfl rfl rfl dX7_fiscal_22 ?_
      refine lv_if_le (tgt := 38) hx hb dX7_fiscal_25 (by decide) (fun c_3 => ?_) (fun c_3 => ?_)
      · refine lv_aload_n hx hb dX7_fiscal_38 rfl (lv_at hl 0 rfl) ?_
        refine lv_iload_n hx hb dX7_fiscal_39 rfl (lv_at hl 1 rfl) ?_
        refine ow_puti (ci := 6) (C := RX7) (T := TX7) (N := 11) (ty := .int) hx hb hts hin_X7 tyX7 tyX7_ok nmX7 hown hK hW hS 0 0 (PO_k0) rfl 10 (by decide) (List.mem_of_getElem? (i := 6) rfl) rfl rfl (by decide +kernel) rfl rfl (Nat.le_of_ble_eq_true rfl) (by decide) (PO_w0_10) dX7_fiscal_40 (fun H locs hW hS => ?_)
        exact ox_vret hx hb hr hlk hK hW hS (Nat.le_of_ble_eq_true rfl) (Nat.le_of_ble_eq_true rfl) (by rw [m_X7_fiscal, if_neg c_1, if_pos c_2, if_pos c_3]) dX7_fiscal_43
      · exact ox_throwS (cls := "java/lang/IllegalStateException") (text := "a record was filed") hx hb hlt hown (hts _ (List.mem_of_getElem? (i := 3) rfl)) (hts _ (List.mem_of_getElem? (i := 4) rfl)) hat_3 (by decide +kernel) (by decide +kernel) hK hW hS hKX (by decide +kernel) (hl.1.trans hml.symm) hxt (by rw [m_X7_fiscal, if_neg c_1, if_pos c_2, if_neg c_3]; exact ⟨rfl, show ¬ (3 : Int32) = 0 by decide⟩) (Nat.le_of_ble_eq_true rfl) (Nat.le_of_ble_eq_true rfl) (Nat.le_of_ble_eq_true rfl) (Nat.le_of_ble_eq_true rfl) hlk (Nat.le_of_ble_eq_true rfl) (Nat.le_of_ble_eq_true rfl) dX7_fiscal_28 dX7_fiscal_31 dX7_fiscal_32 dX7_fiscal_34 dX7_fiscal_37
    · exact ox_throwS (cls := "java/lang/IllegalArgumentException") (text := "no such month") hx hb hlt hown (hts _ (List.mem_of_getElem? (i := 1) rfl)) (hts _ (List.mem_of_getElem? (i := 2) rfl)) hat_2 (by decide +kernel) (by decide +kernel) hK hW hS hKX (by decide +kernel) (hl.1.trans hml.symm) hxt (by rw [m_X7_fiscal, if_neg c_1, if_neg c_2]; exact ⟨rfl, show ¬ (2 : Int32) = 0 by decide⟩) (Nat.le_of_ble_eq_true rfl) (Nat.le_of_ble_eq_true rfl) (Nat.le_of_ble_eq_true rfl) (Nat.le_of_ble_eq_true rfl) hlk (Nat.le_of_ble_eq_true rfl) (Nat.le_of_ble_eq_true rfl) dX7_fiscal_11 dX7_fiscal_14 dX7_fiscal_15 dX7_fiscal_17 dX7_fiscal_20

def m_X7_close (q : qC) (f : Int32) (day : Int32) : Int32 × qC := (if (m_X7_folderAt q f) = 0 then (if (m_X7_needDayOfAct q day) = 0 then (if (m_X7_needRoom q 1) = 0 then (if (q.1 14 (Int32.toNatClampNeg f) 2) = (-1) then (0, (m_X0_write (cq_i (cq_i q 14 (Int32.toNatClampNeg f) 2 day) 0 0 9 day) 3 f day 0 0)) else (3, q)) else ((m_X7_needRoom q 1), q)) else ((m_X7_needDayOfAct q day), q)) else ((m_X7_folderAt q f), q))
set_option maxHeartbeats 4000000 in
set_option maxRecDepth 100000 in
theorem c_X7_close (l : Launch) (hlt : l.stackTraces = false) (D : va_G) (b0 : Nat) (cA : Nat → ClassId) (ad : Nat → Nat → Nat) (mq : qM) (q : qC) (f : Int32) (day : Int32) (hI : cI q) : xc_v l yX7_close wsX7_close 8 131 5 30 D b0 cA ad mq q [.ref (ad 0 0), .int f, .int day] (m_X7_close q f day) := by
  refine xc_of (by decide) rfl (Nat.le_of_ble_eq_true rfl) ?_
  intro p e s m below meth c hx hb hml hr hlk hown hts hK hW hKD hKX hz hxt ls hl
  have hown : s.vm.findClass RX7 = some m.cls := hown
  have hS : va_S (wA b0) s.heap s.heap [] := va_S.rf
  have hl : lv_has ls 4 [(0, .ref (ad 0 0)), (1, .int f), (2, .int day)] := hl
  have hin_X4 : ∀ w ∈ wsX40, w ∈ wsX7_close := fun w h => List.mem_cons_of_mem _ (List.mem_append_left _ (List.mem_append_left _ (List.mem_append_left _ (List.mem_append_left _ (List.mem_append_left _ (List.mem_append_right _ h))))))
  have hin_X7 : ∀ w ∈ wsX70, w ∈ wsX7_close := fun w h => List.mem_cons_of_mem _ (List.mem_append_left _ (List.mem_append_left _ (List.mem_append_left _ (List.mem_append_left _ (List.mem_append_right _ h)))))
  have hin_X0 : ∀ w ∈ wsX00, w ∈ wsX7_close := fun w h => List.mem_cons_of_mem _ (List.mem_append_left _ (List.mem_append_left _ (List.mem_append_left _ (List.mem_append_right _ h))))
  have hat_3 := xat_3 (fun w h => hts w (List.mem_cons_of_mem _ (List.mem_append_left _ (List.mem_append_left _ (List.mem_append_right _ h))))) hKX
  refine lv_aload_n hx hb dX7_close_0 rfl (lv_at hl 0 rfl) ?_
  refine lv_iload_n hx hb dX7_close_1 rfl (lv_at hl 1 rfl) ?_
  refine ox_callVr (C := RX7) (T := TX7) (N := 11) (ci := 6) (k := 0) (j := 0) (n := 1) (As := [.int f]) (rest := []) (a := (ad 14 (Int32.toNatClampNeg f))) (k0 := (m_X7_folderAt q f)) ⟨hx, hb, hml, hown, hts⟩ (c_X7_folderAt l hlt D b0 cA ad mq q f) (PO_k0) rfl gX7_close_X7_folderAt rfl (by decide +kernel) rfl ⟨Nat.le_of_ble_eq_true rfl, Nat.le_of_ble_eq_true rfl⟩ ⟨Nat.le_of_ble_eq_true rfl, Nat.le_of_ble_eq_true rfl⟩ hK hW hS hKD hKX hz hl.1 rfl (Nat.le_of_ble_eq_true rfl) dX7_close_2 (fun hne H locs ce q9 hW hS h1 h2 h3 => ox_out hxt hlk hK (by rw [m_X7_close, if_neg hne]) hne hW hS h1 h2 h3 (Nat.le_of_ble_eq_true rfl) (Nat.le_of_ble_eq_true rfl)) (fun c_1 H locs hW hS => ?_)
  refine lv_astore_n (lv' := [(3, .ref (ad 14 (Int32.toNatClampNeg f))), (0, .ref (ad 0 0)), (1, .int f), (2, .int day)]) hx hb dX7_close_5 rfl hl (by decide) rfl (fun ls hl => ?_)
  refine lv_aload_n hx hb dX7_close_6 rfl (lv_at hl 1 rfl) ?_
  refine lv_iload_n hx hb dX7_close_7 rfl (lv_at hl 3 rfl) ?_
  refine ox_callVv (C := RX7) (T := TX7) (N := 11) (ci := 6) (k := 0) (j := 0) (n := 1) (As := [.int day]) (rest := []) (z2 := q) (k0 := (m_X7_needDayOfAct q day)) ⟨hx, hb, hml, hown, hts⟩ (c_X7_needDayOfAct l hlt D b0 cA ad mq q day) (PO_k0) rfl gX7_close_X7_needDayOfAct rfl (by decide +kernel) rfl ⟨Nat.le_of_ble_eq_true rfl, Nat.le_of_ble_eq_true rfl⟩ ⟨Nat.le_of_ble_eq_true rfl, Nat.le_of_ble_eq_true rfl⟩ hK hW hS hKD hKX hz hl.1 rfl (Nat.le_of_ble_eq_true rfl) dX7_close_8 (fun hne H locs ce q9 hW hS h1 h2 h3 => ox_out hxt hlk hK (by rw [m_X7_close, if_pos c_1, if_neg hne]) hne hW hS h1 h2 h3 (Nat.le_of_ble_eq_true rfl) (Nat.le_of_ble_eq_true rfl)) (fun c_2 H locs hW hS => ?_)
  refine lv_aload_n hx hb dX7_close_11 rfl (lv_at hl 1 rfl) ?_
  refine lv_iconst (v := 1) hx hb dX7_close_12 (by decide) ?_
  refine ox_callVv (C := RX7) (T := TX7) (N := 11) (ci := 6) (k := 0) (j := 0) (n := 1) (As := [.int 1]) (rest := []) (z2 := q) (k0 := (m_X7_needRoom q 1)) ⟨hx, hb, hml, hown, hts⟩ (c_X7_needRoom l hlt D b0 cA ad mq q 1) (PO_k0) rfl gX7_close_X7_needRoom rfl (by decide +kernel) rfl ⟨Nat.le_of_ble_eq_true rfl, Nat.le_of_ble_eq_true rfl⟩ ⟨Nat.le_of_ble_eq_true rfl, Nat.le_of_ble_eq_true rfl⟩ hK hW hS hKD hKX hz hl.1 rfl (Nat.le_of_ble_eq_true rfl) dX7_close_13 (fun hne H locs ce q9 hW hS h1 h2 h3 => ox_out hxt hlk hK (by rw [m_X7_close, if_pos c_1, if_pos c_2, if_neg hne]) hne hW hS h1 h2 h3 (Nat.le_of_ble_eq_true rfl) (Nat.le_of_ble_eq_true rfl)) (fun c_3 H locs hW hS => ?_)
  refine lv_aload_n hx hb dX7_close_16 rfl (lv_at hl 0 rfl) ?_
  refine ow_get (v2 := .int (q.1 14 (Int32.toNatClampNeg f) 2)) (ci := 3) (C := RX4) (T := TX4) (N := 4) hx hb hts hin_X4 hown hK hW 14 (Int32.toNatClampNeg f) (PO_k14 (fa_p c_1)) rfl 2 (by decide) (List.mem_of_getElem? (i := 3) rfl) rfl rfl rfl dX7_close_17 ?_
  refine lv_iconst (v := (-1)) hx hb dX7_close_20 (by decide) ?_
  refine lv_icmp_eq (tgt := 34) hx hb dX7_close_21 (by decide) (fun c_4 => ?_) (fun c_4 => ?_)
  · refine lv_aload_n hx hb dX7_close_34 rfl (lv_at hl 0 rfl) ?_
    refine lv_iload_n hx hb dX7_close_35 rfl (lv_at hl 3 rfl) ?_
    refine ow_puti (ci := 3) (C := RX4) (T := TX4) (N := 4) (ty := .int) hx hb hts hin_X4 tyX4 tyX4_ok nmX4 hown hK hW hS 14 (Int32.toNatClampNeg f) (PO_k14 (fa_p c_1)) rfl 2 (by decide) (List.mem_of_getElem? (i := 3) rfl) rfl rfl (by decide +kernel) rfl rfl (Nat.le_of_ble_eq_true rfl) (by decide) (PO_w14_2 (fa_p c_1)) dX7_close_36 (fun H locs hW hS => ?_)
    refine lv_aload_n hx hb dX7_close_39 rfl (lv_at hl 1 rfl) ?_
    refine lv_iload_n hx hb dX7_close_40 rfl (lv_at hl 3 rfl) ?_
    refine ow_puti (ci := 6) (C := RX7) (T := TX7) (N := 11) (ty := .int) hx hb hts hin_X7 tyX7 tyX7_ok nmX7 hown hK hW hS 0 0 (PO_k0) rfl 9 (by decide) (List.mem_of_getElem? (i := 4) rfl) rfl rfl (by decide +kernel) rfl rfl (Nat.le_of_ble_eq_true rfl) (by decide) (PO_w0_9) dX7_close_41 (fun H locs hW hS => ?_)
    refine lv_aload_n hx hb dX7_close_44 rfl (lv_at hl 1 rfl) ?_
    refine ow_get (v2 := .ref (ad 7 0)) (ci := 6) (C := RX7) (T := TX7) (N := 11) hx hb hts hin_X7 hown hK hW 0 0 (PO_k0) rfl 6 (by decide) (List.mem_of_getElem? (i := 5) rfl) rfl rfl rfl dX7_close_45 ?_
    refine lv_iconst (v := 3) hx hb dX7_close_48 (by decide) ?_
    refine lv_iload_n hx hb dX7_close_49 rfl (lv_at hl 2 rfl) ?_
    refine lv_iload_n hx hb dX7_close_50 rfl (lv_at hl 3 rfl) ?_
    refine lv_iconst (v := 0) hx hb dX7_close_51 (by decide) ?_
    refine lv_lconst (v := 0) hx hb dX7_close_52 (by decide) ?_
    have h_5 : 0 ≤ ((cq_i (cq_i q 14 (Int32.toNatClampNeg f) 2 day) 0 0 9 day).1 7 0 2).toInt ∧ ((cq_i (cq_i q 14 (Int32.toNatClampNeg f) 2 day) 0 0 9 day).1 7 0 2).toInt ≤ 399 := by
      rw [show (cq_i (cq_i q 14 (Int32.toNatClampNeg f) 2 day) 0 0 9 day).1 7 0 2 = (q.1 7 0 2) from ((cq_ne (by decide)).trans (cq_ne (by decide)))]
      have k_1 : (3 : Int32).toInt = 3 := rfl
      have u_2 := rg_e f
      have u_3 := rg_e day
      have k_4 : (0 : Int32).toInt = 0 := rfl
      have u_5 := rg_e (m_X7_folderAt q f)
      have v_6 := cv_eq c_1
      have v_7 := fa_r c_1
      have u_8 := rg_e (m_X7_needDayOfAct q day)
      have v_9 := cv_eq c_2
      have v_10 := ndo_t c_2
      have u_11 := rg_e (m_X7_needRoom q 1)
      have v_12 := cv_eq c_3
      have k_13 : (1 : Int32).toInt = 1 := rfl
      have v_14 := nro_t hI c_3
      have u_15 := rg_e (q.1 14 (Int32.toNatClampNeg f) 2)
      have k_16 : ((-1) : Int32).toInt = -1 := rfl
      have v_17 := cv_eq c_4
      have w_18 := hI.2.2.2.2.2.2.2.2.2.2.1
      exact by omega
    refine ow_callVv (C := RX0) (T := TX0) (N := 3) (ci := 0) (k := 7) (j := 0) (n := 5) (As := [.int 3, .int f, .int day, .int 0, .long 0]) (rest := []) (z2 := (m_X0_write (cq_i (cq_i q 14 (Int32.toNatClampNeg f) 2 day) 0 0 9 day) 3 f day 0 0)) ⟨hx, hb, hml, hown, hts⟩ (c_X0_write l D b0 cA ad mq (cq_i (cq_i q 14 (Int32.toNatClampNeg f) 2 day) 0 0 9 day) 3 f day 0 0 h_5) (PO_k7) rfl gX7_close_X0_write rfl (by decide +kernel) rfl ⟨Nat.le_of_ble_eq_true rfl, Nat.le_of_ble_eq_true rfl⟩ ⟨Nat.le_of_ble_eq_true rfl, Nat.le_of_ble_eq_true rfl⟩ hK hW hS hKD hl.1 rfl (Nat.le_of_ble_eq_true rfl) dX7_close_53 (fun H locs hW hS => ?_)
    exact ox_vret hx hb hr hlk hK hW hS (Nat.le_of_ble_eq_true rfl) (Nat.le_of_ble_eq_true rfl) (by rw [m_X7_close, if_pos c_1, if_pos c_2, if_pos c_3, if_pos c_4]) dX7_close_56
  · exact ox_throwS (cls := "java/lang/IllegalStateException") (text := "the folder is closed") hx hb hlt hown (hts _ (List.mem_of_getElem? (i := 1) rfl)) (hts _ (List.mem_of_getElem? (i := 2) rfl)) hat_3 (by decide +kernel) (by decide +kernel) hK hW hS hKX (by decide +kernel) (hl.1.trans hml.symm) hxt (by rw [m_X7_close, if_pos c_1, if_pos c_2, if_pos c_3, if_neg c_4]; exact ⟨rfl, show ¬ (3 : Int32) = 0 by decide⟩) (Nat.le_of_ble_eq_true rfl) (Nat.le_of_ble_eq_true rfl) (Nat.le_of_ble_eq_true rfl) (Nat.le_of_ble_eq_true rfl) hlk (Nat.le_of_ble_eq_true rfl) (Nat.le_of_ble_eq_true rfl) dX7_close_24 dX7_close_27 dX7_close_28 dX7_close_30 dX7_close_33

def m_X7_left (q : qC) (f : Int32) (day : Int32) : Int32 × qC := (if (m_X7_folderAt q f) = 0 then (if (m_X7_needDayOfAct q day) = 0 then (if (m_X7_needRoom q 1) = 0 then (if (q.1 14 (Int32.toNatClampNeg f) 3) = (-1) then (0, (m_X0_write (cq_i (cq_i q 14 (Int32.toNatClampNeg f) 3 day) 0 0 9 day) 4 f day 0 0)) else (3, q)) else ((m_X7_needRoom q 1), q)) else ((m_X7_needDayOfAct q day), q)) else ((m_X7_folderAt q f), q))
set_option maxHeartbeats 4000000 in
set_option maxRecDepth 100000 in
theorem c_X7_left (l : Launch) (hlt : l.stackTraces = false) (D : va_G) (b0 : Nat) (cA : Nat → ClassId) (ad : Nat → Nat → Nat) (mq : qM) (q : qC) (f : Int32) (day : Int32) (hI : cI q) : xc_v l yX7_left wsX7_left 8 131 5 30 D b0 cA ad mq q [.ref (ad 0 0), .int f, .int day] (m_X7_left q f day) := by
  refine xc_of (by decide) rfl (Nat.le_of_ble_eq_true rfl) ?_
  intro p e s m below meth c hx hb hml hr hlk hown hts hK hW hKD hKX hz hxt ls hl
  have hown : s.vm.findClass RX7 = some m.cls := hown
  have hS : va_S (wA b0) s.heap s.heap [] := va_S.rf
  have hl : lv_has ls 4 [(0, .ref (ad 0 0)), (1, .int f), (2, .int day)] := hl
  have hin_X4 : ∀ w ∈ wsX40, w ∈ wsX7_left := fun w h => List.mem_cons_of_mem _ (List.mem_append_left _ (List.mem_append_left _ (List.mem_append_left _ (List.mem_append_left _ (List.mem_append_left _ (List.mem_append_right _ h))))))
  have hin_X7 : ∀ w ∈ wsX70, w ∈ wsX7_left := fun w h => List.mem_cons_of_mem _ (List.mem_append_left _ (List.mem_append_left _ (List.mem_append_left _ (List.mem_append_left _ (List.mem_append_right _ h)))))
  have hin_X0 : ∀ w ∈ wsX00, w ∈ wsX7_left := fun w h => List.mem_cons_of_mem _ (List.mem_append_left _ (List.mem_append_left _ (List.mem_append_left _ (List.mem_append_right _ h))))
  have hat_3 := xat_3 (fun w h => hts w (List.mem_cons_of_mem _ (List.mem_append_left _ (List.mem_append_left _ (List.mem_append_right _ h))))) hKX
  refine lv_aload_n hx hb dX7_left_0 rfl (lv_at hl 0 rfl) ?_
  refine lv_iload_n hx hb dX7_left_1 rfl (lv_at hl 1 rfl) ?_
  refine ox_callVr (C := RX7) (T := TX7) (N := 11) (ci := 6) (k := 0) (j := 0) (n := 1) (As := [.int f]) (rest := []) (a := (ad 14 (Int32.toNatClampNeg f))) (k0 := (m_X7_folderAt q f)) ⟨hx, hb, hml, hown, hts⟩ (c_X7_folderAt l hlt D b0 cA ad mq q f) (PO_k0) rfl gX7_left_X7_folderAt rfl (by decide +kernel) rfl ⟨Nat.le_of_ble_eq_true rfl, Nat.le_of_ble_eq_true rfl⟩ ⟨Nat.le_of_ble_eq_true rfl, Nat.le_of_ble_eq_true rfl⟩ hK hW hS hKD hKX hz hl.1 rfl (Nat.le_of_ble_eq_true rfl) dX7_left_2 (fun hne H locs ce q9 hW hS h1 h2 h3 => ox_out hxt hlk hK (by rw [m_X7_left, if_neg hne]) hne hW hS h1 h2 h3 (Nat.le_of_ble_eq_true rfl) (Nat.le_of_ble_eq_true rfl)) (fun c_1 H locs hW hS => ?_)
  refine lv_astore_n (lv' := [(3, .ref (ad 14 (Int32.toNatClampNeg f))), (0, .ref (ad 0 0)), (1, .int f), (2, .int day)]) hx hb dX7_left_5 rfl hl (by decide) rfl (fun ls hl => ?_)
  refine lv_aload_n hx hb dX7_left_6 rfl (lv_at hl 1 rfl) ?_
  refine lv_iload_n hx hb dX7_left_7 rfl (lv_at hl 3 rfl) ?_
  refine ox_callVv (C := RX7) (T := TX7) (N := 11) (ci := 6) (k := 0) (j := 0) (n := 1) (As := [.int day]) (rest := []) (z2 := q) (k0 := (m_X7_needDayOfAct q day)) ⟨hx, hb, hml, hown, hts⟩ (c_X7_needDayOfAct l hlt D b0 cA ad mq q day) (PO_k0) rfl gX7_left_X7_needDayOfAct rfl (by decide +kernel) rfl ⟨Nat.le_of_ble_eq_true rfl, Nat.le_of_ble_eq_true rfl⟩ ⟨Nat.le_of_ble_eq_true rfl, Nat.le_of_ble_eq_true rfl⟩ hK hW hS hKD hKX hz hl.1 rfl (Nat.le_of_ble_eq_true rfl) dX7_left_8 (fun hne H locs ce q9 hW hS h1 h2 h3 => ox_out hxt hlk hK (by rw [m_X7_left, if_pos c_1, if_neg hne]) hne hW hS h1 h2 h3 (Nat.le_of_ble_eq_true rfl) (Nat.le_of_ble_eq_true rfl)) (fun c_2 H locs hW hS => ?_)
  refine lv_aload_n hx hb dX7_left_11 rfl (lv_at hl 1 rfl) ?_
  refine lv_iconst (v := 1) hx hb dX7_left_12 (by decide) ?_
  refine ox_callVv (C := RX7) (T := TX7) (N := 11) (ci := 6) (k := 0) (j := 0) (n := 1) (As := [.int 1]) (rest := []) (z2 := q) (k0 := (m_X7_needRoom q 1)) ⟨hx, hb, hml, hown, hts⟩ (c_X7_needRoom l hlt D b0 cA ad mq q 1) (PO_k0) rfl gX7_left_X7_needRoom rfl (by decide +kernel) rfl ⟨Nat.le_of_ble_eq_true rfl, Nat.le_of_ble_eq_true rfl⟩ ⟨Nat.le_of_ble_eq_true rfl, Nat.le_of_ble_eq_true rfl⟩ hK hW hS hKD hKX hz hl.1 rfl (Nat.le_of_ble_eq_true rfl) dX7_left_13 (fun hne H locs ce q9 hW hS h1 h2 h3 => ox_out hxt hlk hK (by rw [m_X7_left, if_pos c_1, if_pos c_2, if_neg hne]) hne hW hS h1 h2 h3 (Nat.le_of_ble_eq_true rfl) (Nat.le_of_ble_eq_true rfl)) (fun c_3 H locs hW hS => ?_)
  refine lv_aload_n hx hb dX7_left_16 rfl (lv_at hl 0 rfl) ?_
  refine ow_get (v2 := .int (q.1 14 (Int32.toNatClampNeg f) 3)) (ci := 3) (C := RX4) (T := TX4) (N := 4) hx hb hts hin_X4 hown hK hW 14 (Int32.toNatClampNeg f) (PO_k14 (fa_p c_1)) rfl 3 (by decide) (List.mem_of_getElem? (i := 3) rfl) rfl rfl rfl dX7_left_17 ?_
  refine lv_iconst (v := (-1)) hx hb dX7_left_20 (by decide) ?_
  refine lv_icmp_eq (tgt := 34) hx hb dX7_left_21 (by decide) (fun c_4 => ?_) (fun c_4 => ?_)
  · refine lv_aload_n hx hb dX7_left_34 rfl (lv_at hl 0 rfl) ?_
    refine lv_iload_n hx hb dX7_left_35 rfl (lv_at hl 3 rfl) ?_
    refine ow_puti (ci := 3) (C := RX4) (T := TX4) (N := 4) (ty := .int) hx hb hts hin_X4 tyX4 tyX4_ok nmX4 hown hK hW hS 14 (Int32.toNatClampNeg f) (PO_k14 (fa_p c_1)) rfl 3 (by decide) (List.mem_of_getElem? (i := 3) rfl) rfl rfl (by decide +kernel) rfl rfl (Nat.le_of_ble_eq_true rfl) (by decide) (PO_w14_3 (fa_p c_1)) dX7_left_36 (fun H locs hW hS => ?_)
    refine lv_aload_n hx hb dX7_left_39 rfl (lv_at hl 1 rfl) ?_
    refine lv_iload_n hx hb dX7_left_40 rfl (lv_at hl 3 rfl) ?_
    refine ow_puti (ci := 6) (C := RX7) (T := TX7) (N := 11) (ty := .int) hx hb hts hin_X7 tyX7 tyX7_ok nmX7 hown hK hW hS 0 0 (PO_k0) rfl 9 (by decide) (List.mem_of_getElem? (i := 4) rfl) rfl rfl (by decide +kernel) rfl rfl (Nat.le_of_ble_eq_true rfl) (by decide) (PO_w0_9) dX7_left_41 (fun H locs hW hS => ?_)
    refine lv_aload_n hx hb dX7_left_44 rfl (lv_at hl 1 rfl) ?_
    refine ow_get (v2 := .ref (ad 7 0)) (ci := 6) (C := RX7) (T := TX7) (N := 11) hx hb hts hin_X7 hown hK hW 0 0 (PO_k0) rfl 6 (by decide) (List.mem_of_getElem? (i := 5) rfl) rfl rfl rfl dX7_left_45 ?_
    refine lv_iconst (v := 4) hx hb dX7_left_48 (by decide) ?_
    refine lv_iload_n hx hb dX7_left_49 rfl (lv_at hl 2 rfl) ?_
    refine lv_iload_n hx hb dX7_left_50 rfl (lv_at hl 3 rfl) ?_
    refine lv_iconst (v := 0) hx hb dX7_left_51 (by decide) ?_
    refine lv_lconst (v := 0) hx hb dX7_left_52 (by decide) ?_
    have h_5 : 0 ≤ ((cq_i (cq_i q 14 (Int32.toNatClampNeg f) 3 day) 0 0 9 day).1 7 0 2).toInt ∧ ((cq_i (cq_i q 14 (Int32.toNatClampNeg f) 3 day) 0 0 9 day).1 7 0 2).toInt ≤ 399 := by
      rw [show (cq_i (cq_i q 14 (Int32.toNatClampNeg f) 3 day) 0 0 9 day).1 7 0 2 = (q.1 7 0 2) from ((cq_ne (by decide)).trans (cq_ne (by decide)))]
      have k_1 : (4 : Int32).toInt = 4 := rfl
      have u_2 := rg_e f
      have u_3 := rg_e day
      have k_4 : (0 : Int32).toInt = 0 := rfl
      have u_5 := rg_e (m_X7_folderAt q f)
      have v_6 := cv_eq c_1
      have v_7 := fa_r c_1
      have u_8 := rg_e (m_X7_needDayOfAct q day)
      have v_9 := cv_eq c_2
      have v_10 := ndo_t c_2
      have u_11 := rg_e (m_X7_needRoom q 1)
      have v_12 := cv_eq c_3
      have k_13 : (1 : Int32).toInt = 1 := rfl
      have v_14 := nro_t hI c_3
      have u_15 := rg_e (q.1 14 (Int32.toNatClampNeg f) 3)
      have k_16 : ((-1) : Int32).toInt = -1 := rfl
      have v_17 := cv_eq c_4
      have w_18 := hI.2.2.2.2.2.2.2.2.2.2.1
      exact by omega
    refine ow_callVv (C := RX0) (T := TX0) (N := 3) (ci := 0) (k := 7) (j := 0) (n := 5) (As := [.int 4, .int f, .int day, .int 0, .long 0]) (rest := []) (z2 := (m_X0_write (cq_i (cq_i q 14 (Int32.toNatClampNeg f) 3 day) 0 0 9 day) 4 f day 0 0)) ⟨hx, hb, hml, hown, hts⟩ (c_X0_write l D b0 cA ad mq (cq_i (cq_i q 14 (Int32.toNatClampNeg f) 3 day) 0 0 9 day) 4 f day 0 0 h_5) (PO_k7) rfl gX7_left_X0_write rfl (by decide +kernel) rfl ⟨Nat.le_of_ble_eq_true rfl, Nat.le_of_ble_eq_true rfl⟩ ⟨Nat.le_of_ble_eq_true rfl, Nat.le_of_ble_eq_true rfl⟩ hK hW hS hKD hl.1 rfl (Nat.le_of_ble_eq_true rfl) dX7_left_53 (fun H locs hW hS => ?_)
    exact ox_vret hx hb hr hlk hK hW hS (Nat.le_of_ble_eq_true rfl) (Nat.le_of_ble_eq_true rfl) (by rw [m_X7_left, if_pos c_1, if_pos c_2, if_pos c_3, if_pos c_4]) dX7_left_56
  · exact ox_throwS (cls := "java/lang/IllegalStateException") (text := "the person left before") hx hb hlt hown (hts _ (List.mem_of_getElem? (i := 1) rfl)) (hts _ (List.mem_of_getElem? (i := 2) rfl)) hat_3 (by decide +kernel) (by decide +kernel) hK hW hS hKX (by decide +kernel) (hl.1.trans hml.symm) hxt (by rw [m_X7_left, if_pos c_1, if_pos c_2, if_pos c_3, if_neg c_4]; exact ⟨rfl, show ¬ (3 : Int32) = 0 by decide⟩) (Nat.le_of_ble_eq_true rfl) (Nat.le_of_ble_eq_true rfl) (Nat.le_of_ble_eq_true rfl) (Nat.le_of_ble_eq_true rfl) hlk (Nat.le_of_ble_eq_true rfl) (Nat.le_of_ble_eq_true rfl) dX7_left_24 dX7_left_27 dX7_left_28 dX7_left_30 dX7_left_33

def m_X7_hold (q : qC) (h : Int32) (f : Int32) (cl : Int32) (key : Int32) (fi : Int32) (la : Int32) : Int32 × qC := (if (m_X7_needHold h) = 0 then (if f < (-1) then (1, q) else (if f < 16 then (if cl = (-1) then (if (m_X7_needKeyOrNone key) = 0 then (if (m_X7_needDay fi) = 0 then (if (m_X7_needDay la) = 0 then (if fi ≤ la then (if (m_X7_needRoom q 1) = 0 then (if (q.1 15 (Int32.toNatClampNeg h) 0) = 0 then (0, (m_X0_write (cq_i (cq_i (cq_i (cq_i (cq_i (cq_i q 15 (Int32.toNatClampNeg h) 0 1) 15 (Int32.toNatClampNeg h) 1 f) 15 (Int32.toNatClampNeg h) 2 cl) 15 (Int32.toNatClampNeg h) 3 key) 15 (Int32.toNatClampNeg h) 4 fi) 15 (Int32.toNatClampNeg h) 5 la) 6 h (f + 1) (cl + 1) 0)) else (3, q)) else ((m_X7_needRoom q 1), q)) else (2, q)) else ((m_X7_needDay la), q)) else ((m_X7_needDay fi), q)) else ((m_X7_needKeyOrNone key), q)) else (if (m_X7_needClass cl) = 0 then (if (m_X7_needKeyOrNone key) = 0 then (if (m_X7_needDay fi) = 0 then (if (m_X7_needDay la) = 0 then (if fi ≤ la then (if (m_X7_needRoom q 1) = 0 then (if (q.1 15 (Int32.toNatClampNeg h) 0) = 0 then (0, (m_X0_write (cq_i (cq_i (cq_i (cq_i (cq_i (cq_i q 15 (Int32.toNatClampNeg h) 0 1) 15 (Int32.toNatClampNeg h) 1 f) 15 (Int32.toNatClampNeg h) 2 cl) 15 (Int32.toNatClampNeg h) 3 key) 15 (Int32.toNatClampNeg h) 4 fi) 15 (Int32.toNatClampNeg h) 5 la) 6 h (f + 1) (cl + 1) 0)) else (3, q)) else ((m_X7_needRoom q 1), q)) else (2, q)) else ((m_X7_needDay la), q)) else ((m_X7_needDay fi), q)) else ((m_X7_needKeyOrNone key), q)) else ((m_X7_needClass cl), q))) else (1, q))) else ((m_X7_needHold h), q))
set_option maxHeartbeats 4000000 in
set_option maxRecDepth 100000 in
theorem c_X7_hold (l : Launch) (hlt : l.stackTraces = false) (D : va_G) (b0 : Nat) (cA : Nat → ClassId) (ad : Nat → Nat → Nat) (mq : qM) (q : qC) (h : Int32) (f : Int32) (cl : Int32) (key : Int32) (fi : Int32) (la : Int32) (hI : cI q) : xc_v l yX7_hold wsX7_hold 7 111 7 42 D b0 cA ad mq q [.ref (ad 0 0), .int h, .int f, .int cl, .int key, .int fi, .int la] (m_X7_hold q h f cl key fi la) := by
  refine xc_of (by decide) rfl (Nat.le_of_ble_eq_true rfl) ?_
  intro p e s m below meth c hx hb hml hr hlk hown hts hK hW hKD hKX hz hxt ls hl
  have hown : s.vm.findClass RX7 = some m.cls := hown
  have hS : va_S (wA b0) s.heap s.heap [] := va_S.rf
  have hl : lv_has ls 7 [(0, .ref (ad 0 0)), (1, .int h), (2, .int f), (3, .int cl), (4, .int key), (5, .int fi), (6, .int la)] := hl
  have hin_X7 : ∀ w ∈ wsX70, w ∈ wsX7_hold := fun w h => List.mem_cons_of_mem _ (List.mem_append_left _ (List.mem_append_left _ (List.mem_append_left _ (List.mem_append_left _ (List.mem_append_left _ (List.mem_append_right _ h))))))
  have hin_X5 : ∀ w ∈ wsX50, w ∈ wsX7_hold := fun w h => List.mem_cons_of_mem _ (List.mem_append_left _ (List.mem_append_left _ (List.mem_append_left _ (List.mem_append_left _ (List.mem_append_right _ h)))))
  have hin_X0 : ∀ w ∈ wsX00, w ∈ wsX7_hold := fun w h => List.mem_cons_of_mem _ (List.mem_append_left _ (List.mem_append_left _ (List.mem_append_left _ (List.mem_append_right _ h))))
  have hat_1 := xat_1 (fun w h => hts w (List.mem_cons_of_mem _ (List.mem_append_left _ (List.mem_append_left _ (List.mem_append_right _ h))))) hKX
  have hat_2 := xat_2 (fun w h => hts w (List.mem_cons_of_mem _ (List.mem_append_left _ (List.mem_append_right _ h)))) hKX
  have hat_3 := xat_3 (fun w h => hts w (List.mem_cons_of_mem _ (List.mem_append_right _ h))) hKX
  refine lv_iload_n hx hb dX7_hold_0 rfl (lv_at hl 1 rfl) ?_
  refine ox_callSv (n := 1) (As := [.int h]) (rest := []) (z2 := q) (k0 := (m_X7_needHold h)) ⟨hx, hb, hml, hown, hts⟩ (c_X7_needHold l hlt D b0 cA ad mq q h) gX7_hold_X7_needHold rfl (by decide +kernel) rfl ⟨Nat.le_of_ble_eq_true rfl, Nat.le_of_ble_eq_true rfl⟩ ⟨Nat.le_of_ble_eq_true rfl, Nat.le_of_ble_eq_true rfl⟩ hK hW hS hKD hKX hz hl.1 rfl (Nat.le_of_ble_eq_true rfl) dX7_hold_1 (fun hne H locs ce q9 hW hS h1 h2 h3 => ox_out hxt hlk hK (by rw [m_X7_hold, if_neg hne]) hne hW hS h1 h2 h3 (Nat.le_of_ble_eq_true rfl) (Nat.le_of_ble_eq_true rfl)) (fun c_1 H locs hW hS => ?_)
  refine lv_iload_n hx hb dX7_hold_4 rfl (lv_at hl 2 rfl) ?_
  refine lv_iconst (v := (-1)) hx hb dX7_hold_5 (by decide) ?_
  refine lv_icmp_lt (tgt := 15) hx hb dX7_hold_6 (by decide) (fun c_2 => ?_) (fun c_2 => ?_)
  · exact ox_throwS (cls := "java/lang/IndexOutOfBoundsException") (text := "no such folder") hx hb hlt hown (hts _ (List.mem_of_getElem? (i := 1) rfl)) (hts _ (List.mem_of_getElem? (i := 2) rfl)) hat_1 (by decide +kernel) (by decide +kernel) hK hW hS hKX (by decide +kernel) (hl.1.trans hml.symm) hxt (by rw [m_X7_hold, if_pos c_1, if_pos c_2]; exact ⟨rfl, show ¬ (1 : Int32) = 0 by decide⟩) (Nat.le_of_ble_eq_true rfl) (Nat.le_of_ble_eq_true rfl) (Nat.le_of_ble_eq_true rfl) (Nat.le_of_ble_eq_true rfl) hlk (Nat.le_of_ble_eq_true rfl) (Nat.le_of_ble_eq_true rfl) dX7_hold_15 dX7_hold_18 dX7_hold_19 dX7_hold_21 dX7_hold_24
  · refine lv_iload_n hx hb dX7_hold_9 rfl (lv_at hl 2 rfl) ?_
    refine lv_bipush (v := 16) hx hb dX7_hold_10 (by decide) ?_
    refine lv_icmp_lt (tgt := 25) hx hb dX7_hold_12 (by decide) (fun c_3 => ?_) (fun c_3 => ?_)
    · refine lv_iload_n hx hb dX7_hold_25 rfl (lv_at hl 3 rfl) ?_
      refine lv_iconst (v := (-1)) hx hb dX7_hold_26 (by decide) ?_
      refine lv_icmp_eq (tgt := 34) hx hb dX7_hold_27 (by decide) (fun c_4 => ?_) (fun c_4 => ?_)
      · refine lv_iload hx hb dX7_hold_34 (lv_at hl 4 rfl) ?_
        refine ox_callSv (n := 1) (As := [.int key]) (rest := []) (z2 := q) (k0 := (m_X7_needKeyOrNone key)) ⟨hx, hb, hml, hown, hts⟩ (c_X7_needKeyOrNone l hlt D b0 cA ad mq q key) gX7_hold_X7_needKeyOrNone rfl (by decide +kernel) rfl ⟨Nat.le_of_ble_eq_true rfl, Nat.le_of_ble_eq_true rfl⟩ ⟨Nat.le_of_ble_eq_true rfl, Nat.le_of_ble_eq_true rfl⟩ hK hW hS hKD hKX hz hl.1 rfl (Nat.le_of_ble_eq_true rfl) dX7_hold_36 (fun hne H locs ce q9 hW hS h1 h2 h3 => ox_out hxt hlk hK (by rw [m_X7_hold, if_pos c_1, if_neg c_2, if_pos c_3, if_pos c_4, if_neg hne]) hne hW hS h1 h2 h3 (Nat.le_of_ble_eq_true rfl) (Nat.le_of_ble_eq_true rfl)) (fun c_5 H locs hW hS => ?_)
        refine lv_iload hx hb dX7_hold_39 (lv_at hl 5 rfl) ?_
        refine ox_callSv (n := 1) (As := [.int fi]) (rest := []) (z2 := q) (k0 := (m_X7_needDay fi)) ⟨hx, hb, hml, hown, hts⟩ (c_X7_needDay l hlt D b0 cA ad mq q fi) gX7_hold_X7_needDay rfl (by decide +kernel) rfl ⟨Nat.le_of_ble_eq_true rfl, Nat.le_of_ble_eq_true rfl⟩ ⟨Nat.le_of_ble_eq_true rfl, Nat.le_of_ble_eq_true rfl⟩ hK hW hS hKD hKX hz hl.1 rfl (Nat.le_of_ble_eq_true rfl) dX7_hold_41 (fun hne H locs ce q9 hW hS h1 h2 h3 => ox_out hxt hlk hK (by rw [m_X7_hold, if_pos c_1, if_neg c_2, if_pos c_3, if_pos c_4, if_pos c_5, if_neg hne]) hne hW hS h1 h2 h3 (Nat.le_of_ble_eq_true rfl) (Nat.le_of_ble_eq_true rfl)) (fun c_6 H locs hW hS => ?_)
        refine lv_iload hx hb dX7_hold_44 (lv_at hl 6 rfl) ?_
        refine ox_callSv (n := 1) (As := [.int la]) (rest := []) (z2 := q) (k0 := (m_X7_needDay la)) ⟨hx, hb, hml, hown, hts⟩ (c_X7_needDay l hlt D b0 cA ad mq q la) gX7_hold_X7_needDay rfl (by decide +kernel) rfl ⟨Nat.le_of_ble_eq_true rfl, Nat.le_of_ble_eq_true rfl⟩ ⟨Nat.le_of_ble_eq_true rfl, Nat.le_of_ble_eq_true rfl⟩ hK hW hS hKD hKX hz hl.1 rfl (Nat.le_of_ble_eq_true rfl) dX7_hold_46 (fun hne H locs ce q9 hW hS h1 h2 h3 => ox_out hxt hlk hK (by rw [m_X7_hold, if_pos c_1, if_neg c_2, if_pos c_3, if_pos c_4, if_pos c_5, if_pos c_6, if_neg hne]) hne hW hS h1 h2 h3 (Nat.le_of_ble_eq_true rfl) (Nat.le_of_ble_eq_true rfl)) (fun c_7 H locs hW hS => ?_)
        refine lv_iload hx hb dX7_hold_49 (lv_at hl 6 rfl) ?_
        refine lv_iload hx hb dX7_hold_51 (lv_at hl 5 rfl) ?_
        refine lv_icmp_ge (tgt := 66) hx hb dX7_hold_53 (by decide) (fun c_8 => ?_) (fun c_8 => ?_)
        · refine lv_aload_n hx hb dX7_hold_66 rfl (lv_at hl 0 rfl) ?_
          refine lv_iconst (v := 1) hx hb dX7_hold_67 (by decide) ?_
          refine ox_callVv (C := RX7) (T := TX7) (N := 11) (ci := 6) (k := 0) (j := 0) (n := 1) (As := [.int 1]) (rest := []) (z2 := q) (k0 := (m_X7_needRoom q 1)) ⟨hx, hb, hml, hown, hts⟩ (c_X7_needRoom l hlt D b0 cA ad mq q 1) (PO_k0) rfl gX7_hold_X7_needRoom rfl (by decide +kernel) rfl ⟨Nat.le_of_ble_eq_true rfl, Nat.le_of_ble_eq_true rfl⟩ ⟨Nat.le_of_ble_eq_true rfl, Nat.le_of_ble_eq_true rfl⟩ hK hW hS hKD hKX hz hl.1 rfl (Nat.le_of_ble_eq_true rfl) dX7_hold_68 (fun hne H locs ce q9 hW hS h1 h2 h3 => ox_out hxt hlk hK (by rw [m_X7_hold, if_pos c_1, if_neg c_2, if_pos c_3, if_pos c_4, if_pos c_5, if_pos c_6, if_pos c_7, if_pos c_8, if_neg hne]) hne hW hS h1 h2 h3 (Nat.le_of_ble_eq_true rfl) (Nat.le_of_ble_eq_true rfl)) (fun c_9 H locs hW hS => ?_)
          refine lv_aload_n hx hb dX7_hold_71 rfl (lv_at hl 0 rfl) ?_
          refine ow_get (v2 := .ref (ad 4 0)) (ci := 6) (C := RX7) (T := TX7) (N := 11) hx hb hts hin_X7 hown hK hW 0 0 (PO_k0) rfl 3 (by decide) (List.mem_of_getElem? (i := 7) rfl) rfl rfl rfl dX7_hold_72 ?_
          refine lv_iload_n hx hb dX7_hold_75 rfl (lv_at hl 1 rfl) ?_
          have b_10 : vp_in h 8 := by
            have u_1 := rg_e h
            have u_2 := rg_e (m_X7_needHold h)
            have k_3 : (0 : Int32).toInt = 0 := rfl
            have v_4 := cv_eq c_1
            have v_5 := nho_t c_1
            have u_6 := rg_e f
            have k_7 : ((-1) : Int32).toInt = -1 := rfl
            have v_8 := cv_nlt c_2
            have k_9 : (16 : Int32).toInt = 16 := rfl
            have v_10 := cv_lt c_3
            have u_11 := rg_e cl
            have v_12 := cv_eq c_4
            have u_13 := rg_e (m_X7_needKeyOrNone key)
            have v_14 := cv_eq c_5
            have u_15 := rg_e key
            have v_16 := nke_t c_5
            have u_17 := rg_e (m_X7_needDay fi)
            have v_18 := cv_eq c_6
            have u_19 := rg_e fi
            have v_20 := nda_t c_6
            have u_21 := rg_e (m_X7_needDay la)
            have v_22 := cv_eq c_7
            have u_23 := rg_e la
            have v_24 := nda_t c_7
            have v_25 := cv_le c_8
            have u_26 := rg_e (m_X7_needRoom q 1)
            have v_27 := cv_eq c_9
            have k_28 : (1 : Int32).toInt = 1 := rfl
            have v_29 := nro_t hI c_9
            have w_30 := hI.2.2.2.2.2.2.2.2.2.2.1
            exact vp_in_iff.mpr (by omega)
          refine ow_aald hx hb hK hW 4 0 (PO_k4) 5 rfl b_10 dX7_hold_76 ?_
          refine ow_get (v2 := .int (q.1 15 (Int32.toNatClampNeg h) 0)) (ci := 4) (C := RX5) (T := TX5) (N := 6) hx hb hts hin_X5 hown hK hW 15 (Int32.toNatClampNeg h) (PO_k15 (lt8 b_10)) rfl 0 (by decide) (List.mem_of_getElem? (i := 8) rfl) rfl rfl rfl dX7_hold_77 ?_
          refine lv_if_eq (tgt := 93) hx hb dX7_hold_80 (by decide) (fun c_11 => ?_) (fun c_11 => ?_)
          · refine lv_aload_n hx hb dX7_hold_93 rfl (lv_at hl 0 rfl) ?_
            refine ow_get (v2 := .ref (ad 4 0)) (ci := 6) (C := RX7) (T := TX7) (N := 11) hx hb hts hin_X7 hown hK hW 0 0 (PO_k0) rfl 3 (by decide) (List.mem_of_getElem? (i := 7) rfl) rfl rfl rfl dX7_hold_94 ?_
            refine lv_iload_n hx hb dX7_hold_97 rfl (lv_at hl 1 rfl) ?_
            have b_12 : vp_in h 8 := by
              have u_1 := rg_e h
              have u_2 := rg_e (m_X7_needHold h)
              have k_3 : (0 : Int32).toInt = 0 := rfl
              have v_4 := cv_eq c_1
              have v_5 := nho_t c_1
              have u_6 := rg_e f
              have k_7 : ((-1) : Int32).toInt = -1 := rfl
              have v_8 := cv_nlt c_2
              have k_9 : (16 : Int32).toInt = 16 := rfl
              have v_10 := cv_lt c_3
              have u_11 := rg_e cl
              have v_12 := cv_eq c_4
              have u_13 := rg_e (m_X7_needKeyOrNone key)
              have v_14 := cv_eq c_5
              have u_15 := rg_e key
              have v_16 := nke_t c_5
              have u_17 := rg_e (m_X7_needDay fi)
              have v_18 := cv_eq c_6
              have u_19 := rg_e fi
              have v_20 := nda_t c_6
              have u_21 := rg_e (m_X7_needDay la)
              have v_22 := cv_eq c_7
              have u_23 := rg_e la
              have v_24 := nda_t c_7
              have v_25 := cv_le c_8
              have u_26 := rg_e (m_X7_needRoom q 1)
              have v_27 := cv_eq c_9
              have k_28 : (1 : Int32).toInt = 1 := rfl
              have v_29 := nro_t hI c_9
              have u_30 := rg_e (q.1 15 (Int32.toNatClampNeg h) 0)
              have v_31 := cv_eq c_11
              have w_32 := hI.2.2.2.2.2.2.2.2.2.2.1
              exact vp_in_iff.mpr (by omega)
            refine ow_aald hx hb hK hW 4 0 (PO_k4) 5 rfl b_12 dX7_hold_98 ?_
            refine lv_iload_n hx hb dX7_hold_99 rfl (lv_at hl 2 rfl) ?_
            refine lv_iload_n hx hb dX7_hold_100 rfl (lv_at hl 3 rfl) ?_
            refine lv_iload hx hb dX7_hold_101 (lv_at hl 4 rfl) ?_
            refine lv_iload hx hb dX7_hold_103 (lv_at hl 5 rfl) ?_
            refine lv_iload hx hb dX7_hold_105 (lv_at hl 6 rfl) ?_
            refine ow_callVv (C := RX5) (T := TX5) (N := 6) (ci := 4) (k := 15) (j := (Int32.toNatClampNeg h)) (n := 5) (As := [.int f, .int cl, .int key, .int fi, .int la]) (rest := []) (z2 := (cq_i (cq_i (cq_i (cq_i (cq_i (cq_i q 15 (Int32.toNatClampNeg h) 0 1) 15 (Int32.toNatClampNeg h) 1 f) 15 (Int32.toNatClampNeg h) 2 cl) 15 (Int32.toNatClampNeg h) 3 key) 15 (Int32.toNatClampNeg h) 4 fi) 15 (Int32.toNatClampNeg h) 5 la)) ⟨hx, hb, hml, hown, hts⟩ (c_X5_place l D b0 cA ad mq q (Int32.toNatClampNeg h) f cl key fi la (lt8 b_12)) (PO_k15 (lt8 b_12)) rfl gX7_hold_X5_place rfl (by decide +kernel) rfl ⟨Nat.le_of_ble_eq_true rfl, Nat.le_of_ble_eq_true rfl⟩ ⟨Nat.le_of_ble_eq_true rfl, Nat.le_of_ble_eq_true rfl⟩ hK hW hS hKD hl.1 rfl (Nat.le_of_ble_eq_true rfl) dX7_hold_107 (fun H locs hW hS => ?_)
            refine lv_aload_n hx hb dX7_hold_110 rfl (lv_at hl 0 rfl) ?_
            refine ow_get (v2 := .ref (ad 7 0)) (ci := 6) (C := RX7) (T := TX7) (N := 11) hx hb hts hin_X7 hown hK hW 0 0 (PO_k0) rfl 6 (by decide) (List.mem_of_getElem? (i := 9) rfl) rfl rfl rfl dX7_hold_111 ?_
            refine lv_bipush (v := 6) hx hb dX7_hold_114 (by decide) ?_
            refine lv_iload_n hx hb dX7_hold_116 rfl (lv_at hl 1 rfl) ?_
            refine lv_iload_n hx hb dX7_hold_117 rfl (lv_at hl 2 rfl) ?_
            refine lv_iconst (v := 1) hx hb dX7_hold_118 (by decide) ?_
            refine lv_iadd hx hb dX7_hold_119 ?_
            refine lv_iload_n hx hb dX7_hold_120 rfl (lv_at hl 3 rfl) ?_
            refine lv_iconst (v := 1) hx hb dX7_hold_121 (by decide) ?_
            refine lv_iadd hx hb dX7_hold_122 ?_
            refine lv_lconst (v := 0) hx hb dX7_hold_123 (by decide) ?_
            have h_13 : 0 ≤ ((cq_i (cq_i (cq_i (cq_i (cq_i (cq_i q 15 (Int32.toNatClampNeg h) 0 1) 15 (Int32.toNatClampNeg h) 1 f) 15 (Int32.toNatClampNeg h) 2 cl) 15 (Int32.toNatClampNeg h) 3 key) 15 (Int32.toNatClampNeg h) 4 fi) 15 (Int32.toNatClampNeg h) 5 la).1 7 0 2).toInt ∧ ((cq_i (cq_i (cq_i (cq_i (cq_i (cq_i q 15 (Int32.toNatClampNeg h) 0 1) 15 (Int32.toNatClampNeg h) 1 f) 15 (Int32.toNatClampNeg h) 2 cl) 15 (Int32.toNatClampNeg h) 3 key) 15 (Int32.toNatClampNeg h) 4 fi) 15 (Int32.toNatClampNeg h) 5 la).1 7 0 2).toInt ≤ 399 := by
              rw [show (cq_i (cq_i (cq_i (cq_i (cq_i (cq_i q 15 (Int32.toNatClampNeg h) 0 1) 15 (Int32.toNatClampNeg h) 1 f) 15 (Int32.toNatClampNeg h) 2 cl) 15 (Int32.toNatClampNeg h) 3 key) 15 (Int32.toNatClampNeg h) 4 fi) 15 (Int32.toNatClampNeg h) 5 la).1 7 0 2 = (q.1 7 0 2) from ((cq_ne (by decide)).trans ((cq_ne (by decide)).trans ((cq_ne (by decide)).trans ((cq_ne (by decide)).trans ((cq_ne (by decide)).trans (cq_ne (by decide)))))))]
              have k_1 : (6 : Int32).toInt = 6 := rfl
              have u_2 := rg_e h
              have u_3 := rg_e f
              have k_4 : (1 : Int32).toInt = 1 := rfl
              have u_6 := rg_e cl
              have u_8 := rg_e (m_X7_needHold h)
              have k_9 : (0 : Int32).toInt = 0 := rfl
              have v_10 := cv_eq c_1
              have v_11 := nho_t c_1
              have k_12 : ((-1) : Int32).toInt = -1 := rfl
              have v_13 := cv_nlt c_2
              have k_14 : (16 : Int32).toInt = 16 := rfl
              have v_15 := cv_lt c_3
              have v_16 := cv_eq c_4
              have u_17 := rg_e (m_X7_needKeyOrNone key)
              have v_18 := cv_eq c_5
              have u_19 := rg_e key
              have v_20 := nke_t c_5
              have u_21 := rg_e (m_X7_needDay fi)
              have v_22 := cv_eq c_6
              have u_23 := rg_e fi
              have v_24 := nda_t c_6
              have u_25 := rg_e (m_X7_needDay la)
              have v_26 := cv_eq c_7
              have u_27 := rg_e la
              have v_28 := nda_t c_7
              have v_29 := cv_le c_8
              have u_30 := rg_e (m_X7_needRoom q 1)
              have v_31 := cv_eq c_9
              have v_32 := nro_t hI c_9
              have u_33 := rg_e (q.1 15 (Int32.toNatClampNeg h) 0)
              have v_34 := cv_eq c_11
              have w_35 := hI.2.2.2.2.2.2.2.2.2.2.1
              have u_5 := ad_o f 1
              have u_7 := ad_o cl 1
              exact by omega
            refine ow_callVv (C := RX0) (T := TX0) (N := 3) (ci := 0) (k := 7) (j := 0) (n := 5) (As := [.int 6, .int h, .int (f + 1), .int (cl + 1), .long 0]) (rest := []) (z2 := (m_X0_write (cq_i (cq_i (cq_i (cq_i (cq_i (cq_i q 15 (Int32.toNatClampNeg h) 0 1) 15 (Int32.toNatClampNeg h) 1 f) 15 (Int32.toNatClampNeg h) 2 cl) 15 (Int32.toNatClampNeg h) 3 key) 15 (Int32.toNatClampNeg h) 4 fi) 15 (Int32.toNatClampNeg h) 5 la) 6 h (f + 1) (cl + 1) 0)) ⟨hx, hb, hml, hown, hts⟩ (c_X0_write l D b0 cA ad mq (cq_i (cq_i (cq_i (cq_i (cq_i (cq_i q 15 (Int32.toNatClampNeg h) 0 1) 15 (Int32.toNatClampNeg h) 1 f) 15 (Int32.toNatClampNeg h) 2 cl) 15 (Int32.toNatClampNeg h) 3 key) 15 (Int32.toNatClampNeg h) 4 fi) 15 (Int32.toNatClampNeg h) 5 la) 6 h (f + 1) (cl + 1) 0 h_13) (PO_k7) rfl gX7_hold_X0_write rfl (by decide +kernel) rfl ⟨Nat.le_of_ble_eq_true rfl, Nat.le_of_ble_eq_true rfl⟩ ⟨Nat.le_of_ble_eq_true rfl, Nat.le_of_ble_eq_true rfl⟩ hK hW hS hKD hl.1 rfl (Nat.le_of_ble_eq_true rfl) dX7_hold_124 (fun H locs hW hS => ?_)
            exact ox_vret hx hb hr hlk hK hW hS (Nat.le_of_ble_eq_true rfl) (Nat.le_of_ble_eq_true rfl) (by rw [m_X7_hold, if_pos c_1, if_neg c_2, if_pos c_3, if_pos c_4, if_pos c_5, if_pos c_6, if_pos c_7, if_pos c_8, if_pos c_9, if_pos c_11]) dX7_hold_127
          · exact ox_throwS (cls := "java/lang/IllegalStateException") (text := "the hold is placed") hx hb hlt hown (hts _ (List.mem_of_getElem? (i := 5) rfl)) (hts _ (List.mem_of_getElem? (i := 6) rfl)) hat_3 (by decide +kernel) (by decide +kernel) hK hW hS hKX (by decide +kernel) (hl.1.trans hml.symm) hxt (by rw [m_X7_hold, if_pos c_1, if_neg c_2, if_pos c_3, if_pos c_4, if_pos c_5, if_pos c_6, if_pos c_7, if_pos c_8, if_pos c_9, if_neg c_11]; exact ⟨rfl, show ¬ (3 : Int32) = 0 by decide⟩) (Nat.le_of_ble_eq_true rfl) (Nat.le_of_ble_eq_true rfl) (Nat.le_of_ble_eq_true rfl) (Nat.le_of_ble_eq_true rfl) hlk (Nat.le_of_ble_eq_true rfl) (Nat.le_of_ble_eq_true rfl) dX7_hold_83 dX7_hold_86 dX7_hold_87 dX7_hold_89 dX7_hold_92
        · exact ox_throwS (cls := "java/lang/IllegalArgumentException") (text := "the last day is before the first one") hx hb hlt hown (hts _ (List.mem_of_getElem? (i := 3) rfl)) (hts _ (List.mem_of_getElem? (i := 4) rfl)) hat_2 (by decide +kernel) (by decide +kernel) hK hW hS hKX (by decide +kernel) (hl.1.trans hml.symm) hxt (by rw [m_X7_hold, if_pos c_1, if_neg c_2, if_pos c_3, if_pos c_4, if_pos c_5, if_pos c_6, if_pos c_7, if_neg c_8]; exact ⟨rfl, show ¬ (2 : Int32) = 0 by decide⟩) (Nat.le_of_ble_eq_true rfl) (Nat.le_of_ble_eq_true rfl) (Nat.le_of_ble_eq_true rfl) (Nat.le_of_ble_eq_true rfl) hlk (Nat.le_of_ble_eq_true rfl) (Nat.le_of_ble_eq_true rfl) dX7_hold_56 dX7_hold_59 dX7_hold_60 dX7_hold_62 dX7_hold_65
      · refine lv_iload_n hx hb dX7_hold_30 rfl (lv_at hl 3 rfl) ?_
        refine ox_callSv (n := 1) (As := [.int cl]) (rest := []) (z2 := q) (k0 := (m_X7_needClass cl)) ⟨hx, hb, hml, hown, hts⟩ (c_X7_needClass l hlt D b0 cA ad mq q cl) gX7_hold_X7_needClass rfl (by decide +kernel) rfl ⟨Nat.le_of_ble_eq_true rfl, Nat.le_of_ble_eq_true rfl⟩ ⟨Nat.le_of_ble_eq_true rfl, Nat.le_of_ble_eq_true rfl⟩ hK hW hS hKD hKX hz hl.1 rfl (Nat.le_of_ble_eq_true rfl) dX7_hold_31 (fun hne H locs ce q9 hW hS h1 h2 h3 => ox_out hxt hlk hK (by rw [m_X7_hold, if_pos c_1, if_neg c_2, if_pos c_3, if_neg c_4, if_neg hne]) hne hW hS h1 h2 h3 (Nat.le_of_ble_eq_true rfl) (Nat.le_of_ble_eq_true rfl)) (fun c_14 H locs hW hS => ?_)
        refine lv_iload hx hb dX7_hold_34 (lv_at hl 4 rfl) ?_
        refine ox_callSv (n := 1) (As := [.int key]) (rest := []) (z2 := q) (k0 := (m_X7_needKeyOrNone key)) ⟨hx, hb, hml, hown, hts⟩ (c_X7_needKeyOrNone l hlt D b0 cA ad mq q key) gX7_hold_X7_needKeyOrNone rfl (by decide +kernel) rfl ⟨Nat.le_of_ble_eq_true rfl, Nat.le_of_ble_eq_true rfl⟩ ⟨Nat.le_of_ble_eq_true rfl, Nat.le_of_ble_eq_true rfl⟩ hK hW hS hKD hKX hz hl.1 rfl (Nat.le_of_ble_eq_true rfl) dX7_hold_36 (fun hne H locs ce q9 hW hS h1 h2 h3 => ox_out hxt hlk hK (by rw [m_X7_hold, if_pos c_1, if_neg c_2, if_pos c_3, if_neg c_4, if_pos c_14, if_neg hne]) hne hW hS h1 h2 h3 (Nat.le_of_ble_eq_true rfl) (Nat.le_of_ble_eq_true rfl)) (fun c_15 H locs hW hS => ?_)
        refine lv_iload hx hb dX7_hold_39 (lv_at hl 5 rfl) ?_
        refine ox_callSv (n := 1) (As := [.int fi]) (rest := []) (z2 := q) (k0 := (m_X7_needDay fi)) ⟨hx, hb, hml, hown, hts⟩ (c_X7_needDay l hlt D b0 cA ad mq q fi) gX7_hold_X7_needDay rfl (by decide +kernel) rfl ⟨Nat.le_of_ble_eq_true rfl, Nat.le_of_ble_eq_true rfl⟩ ⟨Nat.le_of_ble_eq_true rfl, Nat.le_of_ble_eq_true rfl⟩ hK hW hS hKD hKX hz hl.1 rfl (Nat.le_of_ble_eq_true rfl) dX7_hold_41 (fun hne H locs ce q9 hW hS h1 h2 h3 => ox_out hxt hlk hK (by rw [m_X7_hold, if_pos c_1, if_neg c_2, if_pos c_3, if_neg c_4, if_pos c_14, if_pos c_15, if_neg hne]) hne hW hS h1 h2 h3 (Nat.le_of_ble_eq_true rfl) (Nat.le_of_ble_eq_true rfl)) (fun c_16 H locs hW hS => ?_)
        refine lv_iload hx hb dX7_hold_44 (lv_at hl 6 rfl) ?_
        refine ox_callSv (n := 1) (As := [.int la]) (rest := []) (z2 := q) (k0 := (m_X7_needDay la)) ⟨hx, hb, hml, hown, hts⟩ (c_X7_needDay l hlt D b0 cA ad mq q la) gX7_hold_X7_needDay rfl (by decide +kernel) rfl ⟨Nat.le_of_ble_eq_true rfl, Nat.le_of_ble_eq_true rfl⟩ ⟨Nat.le_of_ble_eq_true rfl, Nat.le_of_ble_eq_true rfl⟩ hK hW hS hKD hKX hz hl.1 rfl (Nat.le_of_ble_eq_true rfl) dX7_hold_46 (fun hne H locs ce q9 hW hS h1 h2 h3 => ox_out hxt hlk hK (by rw [m_X7_hold, if_pos c_1, if_neg c_2, if_pos c_3, if_neg c_4, if_pos c_14, if_pos c_15, if_pos c_16, if_neg hne]) hne hW hS h1 h2 h3 (Nat.le_of_ble_eq_true rfl) (Nat.le_of_ble_eq_true rfl)) (fun c_17 H locs hW hS => ?_)
        refine lv_iload hx hb dX7_hold_49 (lv_at hl 6 rfl) ?_
        refine lv_iload hx hb dX7_hold_51 (lv_at hl 5 rfl) ?_
        refine lv_icmp_ge (tgt := 66) hx hb dX7_hold_53 (by decide) (fun c_18 => ?_) (fun c_18 => ?_)
        · refine lv_aload_n hx hb dX7_hold_66 rfl (lv_at hl 0 rfl) ?_
          refine lv_iconst (v := 1) hx hb dX7_hold_67 (by decide) ?_
          refine ox_callVv (C := RX7) (T := TX7) (N := 11) (ci := 6) (k := 0) (j := 0) (n := 1) (As := [.int 1]) (rest := []) (z2 := q) (k0 := (m_X7_needRoom q 1)) ⟨hx, hb, hml, hown, hts⟩ (c_X7_needRoom l hlt D b0 cA ad mq q 1) (PO_k0) rfl gX7_hold_X7_needRoom rfl (by decide +kernel) rfl ⟨Nat.le_of_ble_eq_true rfl, Nat.le_of_ble_eq_true rfl⟩ ⟨Nat.le_of_ble_eq_true rfl, Nat.le_of_ble_eq_true rfl⟩ hK hW hS hKD hKX hz hl.1 rfl (Nat.le_of_ble_eq_true rfl) dX7_hold_68 (fun hne H locs ce q9 hW hS h1 h2 h3 => ox_out hxt hlk hK (by rw [m_X7_hold, if_pos c_1, if_neg c_2, if_pos c_3, if_neg c_4, if_pos c_14, if_pos c_15, if_pos c_16, if_pos c_17, if_pos c_18, if_neg hne]) hne hW hS h1 h2 h3 (Nat.le_of_ble_eq_true rfl) (Nat.le_of_ble_eq_true rfl)) (fun c_19 H locs hW hS => ?_)
          refine lv_aload_n hx hb dX7_hold_71 rfl (lv_at hl 0 rfl) ?_
          refine ow_get (v2 := .ref (ad 4 0)) (ci := 6) (C := RX7) (T := TX7) (N := 11) hx hb hts hin_X7 hown hK hW 0 0 (PO_k0) rfl 3 (by decide) (List.mem_of_getElem? (i := 7) rfl) rfl rfl rfl dX7_hold_72 ?_
          refine lv_iload_n hx hb dX7_hold_75 rfl (lv_at hl 1 rfl) ?_
          have b_20 : vp_in h 8 := by
            have u_1 := rg_e h
            have u_2 := rg_e (m_X7_needHold h)
            have k_3 : (0 : Int32).toInt = 0 := rfl
            have v_4 := cv_eq c_1
            have v_5 := nho_t c_1
            have u_6 := rg_e f
            have k_7 : ((-1) : Int32).toInt = -1 := rfl
            have v_8 := cv_nlt c_2
            have k_9 : (16 : Int32).toInt = 16 := rfl
            have v_10 := cv_lt c_3
            have u_11 := rg_e cl
            have v_12 := cv_ne c_4
            have u_13 := rg_e (m_X7_needClass cl)
            have v_14 := cv_eq c_14
            have v_15 := ncl_t c_14
            have u_16 := rg_e (m_X7_needKeyOrNone key)
            have v_17 := cv_eq c_15
            have u_18 := rg_e key
            have v_19 := nke_t c_15
            have u_20 := rg_e (m_X7_needDay fi)
            have v_21 := cv_eq c_16
            have u_22 := rg_e fi
            have v_23 := nda_t c_16
            have u_24 := rg_e (m_X7_needDay la)
            have v_25 := cv_eq c_17
            have u_26 := rg_e la
            have v_27 := nda_t c_17
            have v_28 := cv_le c_18
            have u_29 := rg_e (m_X7_needRoom q 1)
            have v_30 := cv_eq c_19
            have k_31 : (1 : Int32).toInt = 1 := rfl
            have v_32 := nro_t hI c_19
            have w_33 := hI.2.2.2.2.2.2.2.2.2.2.1
            exact vp_in_iff.mpr (by omega)
          refine ow_aald hx hb hK hW 4 0 (PO_k4) 5 rfl b_20 dX7_hold_76 ?_
          refine ow_get (v2 := .int (q.1 15 (Int32.toNatClampNeg h) 0)) (ci := 4) (C := RX5) (T := TX5) (N := 6) hx hb hts hin_X5 hown hK hW 15 (Int32.toNatClampNeg h) (PO_k15 (lt8 b_20)) rfl 0 (by decide) (List.mem_of_getElem? (i := 8) rfl) rfl rfl rfl dX7_hold_77 ?_
          refine lv_if_eq (tgt := 93) hx hb dX7_hold_80 (by decide) (fun c_21 => ?_) (fun c_21 => ?_)
          · refine lv_aload_n hx hb dX7_hold_93 rfl (lv_at hl 0 rfl) ?_
            refine ow_get (v2 := .ref (ad 4 0)) (ci := 6) (C := RX7) (T := TX7) (N := 11) hx hb hts hin_X7 hown hK hW 0 0 (PO_k0) rfl 3 (by decide) (List.mem_of_getElem? (i := 7) rfl) rfl rfl rfl dX7_hold_94 ?_
            refine lv_iload_n hx hb dX7_hold_97 rfl (lv_at hl 1 rfl) ?_
            have b_22 : vp_in h 8 := by
              have u_1 := rg_e h
              have u_2 := rg_e (m_X7_needHold h)
              have k_3 : (0 : Int32).toInt = 0 := rfl
              have v_4 := cv_eq c_1
              have v_5 := nho_t c_1
              have u_6 := rg_e f
              have k_7 : ((-1) : Int32).toInt = -1 := rfl
              have v_8 := cv_nlt c_2
              have k_9 : (16 : Int32).toInt = 16 := rfl
              have v_10 := cv_lt c_3
              have u_11 := rg_e cl
              have v_12 := cv_ne c_4
              have u_13 := rg_e (m_X7_needClass cl)
              have v_14 := cv_eq c_14
              have v_15 := ncl_t c_14
              have u_16 := rg_e (m_X7_needKeyOrNone key)
              have v_17 := cv_eq c_15
              have u_18 := rg_e key
              have v_19 := nke_t c_15
              have u_20 := rg_e (m_X7_needDay fi)
              have v_21 := cv_eq c_16
              have u_22 := rg_e fi
              have v_23 := nda_t c_16
              have u_24 := rg_e (m_X7_needDay la)
              have v_25 := cv_eq c_17
              have u_26 := rg_e la
              have v_27 := nda_t c_17
              have v_28 := cv_le c_18
              have u_29 := rg_e (m_X7_needRoom q 1)
              have v_30 := cv_eq c_19
              have k_31 : (1 : Int32).toInt = 1 := rfl
              have v_32 := nro_t hI c_19
              have u_33 := rg_e (q.1 15 (Int32.toNatClampNeg h) 0)
              have v_34 := cv_eq c_21
              have w_35 := hI.2.2.2.2.2.2.2.2.2.2.1
              exact vp_in_iff.mpr (by omega)
            refine ow_aald hx hb hK hW 4 0 (PO_k4) 5 rfl b_22 dX7_hold_98 ?_
            refine lv_iload_n hx hb dX7_hold_99 rfl (lv_at hl 2 rfl) ?_
            refine lv_iload_n hx hb dX7_hold_100 rfl (lv_at hl 3 rfl) ?_
            refine lv_iload hx hb dX7_hold_101 (lv_at hl 4 rfl) ?_
            refine lv_iload hx hb dX7_hold_103 (lv_at hl 5 rfl) ?_
            refine lv_iload hx hb dX7_hold_105 (lv_at hl 6 rfl) ?_
            refine ow_callVv (C := RX5) (T := TX5) (N := 6) (ci := 4) (k := 15) (j := (Int32.toNatClampNeg h)) (n := 5) (As := [.int f, .int cl, .int key, .int fi, .int la]) (rest := []) (z2 := (cq_i (cq_i (cq_i (cq_i (cq_i (cq_i q 15 (Int32.toNatClampNeg h) 0 1) 15 (Int32.toNatClampNeg h) 1 f) 15 (Int32.toNatClampNeg h) 2 cl) 15 (Int32.toNatClampNeg h) 3 key) 15 (Int32.toNatClampNeg h) 4 fi) 15 (Int32.toNatClampNeg h) 5 la)) ⟨hx, hb, hml, hown, hts⟩ (c_X5_place l D b0 cA ad mq q (Int32.toNatClampNeg h) f cl key fi la (lt8 b_22)) (PO_k15 (lt8 b_22)) rfl gX7_hold_X5_place rfl (by decide +kernel) rfl ⟨Nat.le_of_ble_eq_true rfl, Nat.le_of_ble_eq_true rfl⟩ ⟨Nat.le_of_ble_eq_true rfl, Nat.le_of_ble_eq_true rfl⟩ hK hW hS hKD hl.1 rfl (Nat.le_of_ble_eq_true rfl) dX7_hold_107 (fun H locs hW hS => ?_)
            refine lv_aload_n hx hb dX7_hold_110 rfl (lv_at hl 0 rfl) ?_
            refine ow_get (v2 := .ref (ad 7 0)) (ci := 6) (C := RX7) (T := TX7) (N := 11) hx hb hts hin_X7 hown hK hW 0 0 (PO_k0) rfl 6 (by decide) (List.mem_of_getElem? (i := 9) rfl) rfl rfl rfl dX7_hold_111 ?_
            refine lv_bipush (v := 6) hx hb dX7_hold_114 (by decide) ?_
            refine lv_iload_n hx hb dX7_hold_116 rfl (lv_at hl 1 rfl) ?_
            refine lv_iload_n hx hb dX7_hold_117 rfl (lv_at hl 2 rfl) ?_
            refine lv_iconst (v := 1) hx hb dX7_hold_118 (by decide) ?_
            refine lv_iadd hx hb dX7_hold_119 ?_
            refine lv_iload_n hx hb dX7_hold_120 rfl (lv_at hl 3 rfl) ?_
            refine lv_iconst (v := 1) hx hb dX7_hold_121 (by decide) ?_
            refine lv_iadd hx hb dX7_hold_122 ?_
            refine lv_lconst (v := 0) hx hb dX7_hold_123 (by decide) ?_
            have h_23 : 0 ≤ ((cq_i (cq_i (cq_i (cq_i (cq_i (cq_i q 15 (Int32.toNatClampNeg h) 0 1) 15 (Int32.toNatClampNeg h) 1 f) 15 (Int32.toNatClampNeg h) 2 cl) 15 (Int32.toNatClampNeg h) 3 key) 15 (Int32.toNatClampNeg h) 4 fi) 15 (Int32.toNatClampNeg h) 5 la).1 7 0 2).toInt ∧ ((cq_i (cq_i (cq_i (cq_i (cq_i (cq_i q 15 (Int32.toNatClampNeg h) 0 1) 15 (Int32.toNatClampNeg h) 1 f) 15 (Int32.toNatClampNeg h) 2 cl) 15 (Int32.toNatClampNeg h) 3 key) 15 (Int32.toNatClampNeg h) 4 fi) 15 (Int32.toNatClampNeg h) 5 la).1 7 0 2).toInt ≤ 399 := by
              rw [show (cq_i (cq_i (cq_i (cq_i (cq_i (cq_i q 15 (Int32.toNatClampNeg h) 0 1) 15 (Int32.toNatClampNeg h) 1 f) 15 (Int32.toNatClampNeg h) 2 cl) 15 (Int32.toNatClampNeg h) 3 key) 15 (Int32.toNatClampNeg h) 4 fi) 15 (Int32.toNatClampNeg h) 5 la).1 7 0 2 = (q.1 7 0 2) from ((cq_ne (by decide)).trans ((cq_ne (by decide)).trans ((cq_ne (by decide)).trans ((cq_ne (by decide)).trans ((cq_ne (by decide)).trans (cq_ne (by decide)))))))]
              have k_1 : (6 : Int32).toInt = 6 := rfl
              have u_2 := rg_e h
              have u_3 := rg_e f
              have k_4 : (1 : Int32).toInt = 1 := rfl
              have u_6 := rg_e cl
              have u_8 := rg_e (m_X7_needHold h)
              have k_9 : (0 : Int32).toInt = 0 := rfl
              have v_10 := cv_eq c_1
              have v_11 := nho_t c_1
              have k_12 : ((-1) : Int32).toInt = -1 := rfl
              have v_13 := cv_nlt c_2
              have k_14 : (16 : Int32).toInt = 16 := rfl
              have v_15 := cv_lt c_3
              have v_16 := cv_ne c_4
              have u_17 := rg_e (m_X7_needClass cl)
              have v_18 := cv_eq c_14
              have v_19 := ncl_t c_14
              have u_20 := rg_e (m_X7_needKeyOrNone key)
              have v_21 := cv_eq c_15
              have u_22 := rg_e key
              have v_23 := nke_t c_15
              have u_24 := rg_e (m_X7_needDay fi)
              have v_25 := cv_eq c_16
              have u_26 := rg_e fi
              have v_27 := nda_t c_16
              have u_28 := rg_e (m_X7_needDay la)
              have v_29 := cv_eq c_17
              have u_30 := rg_e la
              have v_31 := nda_t c_17
              have v_32 := cv_le c_18
              have u_33 := rg_e (m_X7_needRoom q 1)
              have v_34 := cv_eq c_19
              have v_35 := nro_t hI c_19
              have u_36 := rg_e (q.1 15 (Int32.toNatClampNeg h) 0)
              have v_37 := cv_eq c_21
              have w_38 := hI.2.2.2.2.2.2.2.2.2.2.1
              have u_5 := ad_o f 1
              have u_7 := ad_o cl 1
              exact by omega
            refine ow_callVv (C := RX0) (T := TX0) (N := 3) (ci := 0) (k := 7) (j := 0) (n := 5) (As := [.int 6, .int h, .int (f + 1), .int (cl + 1), .long 0]) (rest := []) (z2 := (m_X0_write (cq_i (cq_i (cq_i (cq_i (cq_i (cq_i q 15 (Int32.toNatClampNeg h) 0 1) 15 (Int32.toNatClampNeg h) 1 f) 15 (Int32.toNatClampNeg h) 2 cl) 15 (Int32.toNatClampNeg h) 3 key) 15 (Int32.toNatClampNeg h) 4 fi) 15 (Int32.toNatClampNeg h) 5 la) 6 h (f + 1) (cl + 1) 0)) ⟨hx, hb, hml, hown, hts⟩ (c_X0_write l D b0 cA ad mq (cq_i (cq_i (cq_i (cq_i (cq_i (cq_i q 15 (Int32.toNatClampNeg h) 0 1) 15 (Int32.toNatClampNeg h) 1 f) 15 (Int32.toNatClampNeg h) 2 cl) 15 (Int32.toNatClampNeg h) 3 key) 15 (Int32.toNatClampNeg h) 4 fi) 15 (Int32.toNatClampNeg h) 5 la) 6 h (f + 1) (cl + 1) 0 h_23) (PO_k7) rfl gX7_hold_X0_write rfl (by decide +kernel) rfl ⟨Nat.le_of_ble_eq_true rfl, Nat.le_of_ble_eq_true rfl⟩ ⟨Nat.le_of_ble_eq_true rfl, Nat.le_of_ble_eq_true rfl⟩ hK hW hS hKD hl.1 rfl (Nat.le_of_ble_eq_true rfl) dX7_hold_124 (fun H locs hW hS => ?_)
            exact ox_vret hx hb hr hlk hK hW hS (Nat.le_of_ble_eq_true rfl) (Nat.le_of_ble_eq_true rfl) (by rw [m_X7_hold, if_pos c_1, if_neg c_2, if_pos c_3, if_neg c_4, if_pos c_14, if_pos c_15, if_pos c_16, if_pos c_17, if_pos c_18, if_pos c_19, if_pos c_21]) dX7_hold_127
          · exact ox_throwS (cls := "java/lang/IllegalStateException") (text := "the hold is placed") hx hb hlt hown (hts _ (List.mem_of_getElem? (i := 5) rfl)) (hts _ (List.mem_of_getElem? (i := 6) rfl)) hat_3 (by decide +kernel) (by decide +kernel) hK hW hS hKX (by decide +kernel) (hl.1.trans hml.symm) hxt (by rw [m_X7_hold, if_pos c_1, if_neg c_2, if_pos c_3, if_neg c_4, if_pos c_14, if_pos c_15, if_pos c_16, if_pos c_17, if_pos c_18, if_pos c_19, if_neg c_21]; exact ⟨rfl, show ¬ (3 : Int32) = 0 by decide⟩) (Nat.le_of_ble_eq_true rfl) (Nat.le_of_ble_eq_true rfl) (Nat.le_of_ble_eq_true rfl) (Nat.le_of_ble_eq_true rfl) hlk (Nat.le_of_ble_eq_true rfl) (Nat.le_of_ble_eq_true rfl) dX7_hold_83 dX7_hold_86 dX7_hold_87 dX7_hold_89 dX7_hold_92
        · exact ox_throwS (cls := "java/lang/IllegalArgumentException") (text := "the last day is before the first one") hx hb hlt hown (hts _ (List.mem_of_getElem? (i := 3) rfl)) (hts _ (List.mem_of_getElem? (i := 4) rfl)) hat_2 (by decide +kernel) (by decide +kernel) hK hW hS hKX (by decide +kernel) (hl.1.trans hml.symm) hxt (by rw [m_X7_hold, if_pos c_1, if_neg c_2, if_pos c_3, if_neg c_4, if_pos c_14, if_pos c_15, if_pos c_16, if_pos c_17, if_neg c_18]; exact ⟨rfl, show ¬ (2 : Int32) = 0 by decide⟩) (Nat.le_of_ble_eq_true rfl) (Nat.le_of_ble_eq_true rfl) (Nat.le_of_ble_eq_true rfl) (Nat.le_of_ble_eq_true rfl) hlk (Nat.le_of_ble_eq_true rfl) (Nat.le_of_ble_eq_true rfl) dX7_hold_56 dX7_hold_59 dX7_hold_60 dX7_hold_62 dX7_hold_65
    · exact ox_throwS (cls := "java/lang/IndexOutOfBoundsException") (text := "no such folder") hx hb hlt hown (hts _ (List.mem_of_getElem? (i := 1) rfl)) (hts _ (List.mem_of_getElem? (i := 2) rfl)) hat_1 (by decide +kernel) (by decide +kernel) hK hW hS hKX (by decide +kernel) (hl.1.trans hml.symm) hxt (by rw [m_X7_hold, if_pos c_1, if_neg c_2, if_neg c_3]; exact ⟨rfl, show ¬ (1 : Int32) = 0 by decide⟩) (Nat.le_of_ble_eq_true rfl) (Nat.le_of_ble_eq_true rfl) (Nat.le_of_ble_eq_true rfl) (Nat.le_of_ble_eq_true rfl) hlk (Nat.le_of_ble_eq_true rfl) (Nat.le_of_ble_eq_true rfl) dX7_hold_15 dX7_hold_18 dX7_hold_19 dX7_hold_21 dX7_hold_24

def m_X7_lift (q : qC) (h : Int32) : Int32 × qC := (if (m_X7_needHold h) = 0 then (if (m_X7_needRoom q 1) = 0 then (if (q.1 15 (Int32.toNatClampNeg h) 0) = 0 then (3, q) else (0, (m_X0_write (cq_i q 15 (Int32.toNatClampNeg h) 0 0) 7 h 0 0 0))) else ((m_X7_needRoom q 1), q)) else ((m_X7_needHold h), q))
set_option maxHeartbeats 4000000 in
set_option maxRecDepth 100000 in
theorem c_X7_lift (l : Launch) (hlt : l.stackTraces = false) (D : va_G) (b0 : Nat) (cA : Nat → ClassId) (ad : Nat → Nat → Nat) (mq : qM) (q : qC) (h : Int32) (hI : cI q) : xc_v l yX7_lift wsX7_lift 7 111 3 18 D b0 cA ad mq q [.ref (ad 0 0), .int h] (m_X7_lift q h) := by
  refine xc_of (by decide) rfl (Nat.le_of_ble_eq_true rfl) ?_
  intro p e s m below meth c hx hb hml hr hlk hown hts hK hW hKD hKX hz hxt ls hl
  have hown : s.vm.findClass RX7 = some m.cls := hown
  have hS : va_S (wA b0) s.heap s.heap [] := va_S.rf
  have hl : lv_has ls 2 [(0, .ref (ad 0 0)), (1, .int h)] := hl
  have hin_X7 : ∀ w ∈ wsX70, w ∈ wsX7_lift := fun w h => List.mem_cons_of_mem _ (List.mem_append_left _ (List.mem_append_left _ (List.mem_append_left _ (List.mem_append_left _ (List.mem_append_right _ h)))))
  have hin_X5 : ∀ w ∈ wsX50, w ∈ wsX7_lift := fun w h => List.mem_cons_of_mem _ (List.mem_append_left _ (List.mem_append_left _ (List.mem_append_left _ (List.mem_append_right _ h))))
  have hin_X0 : ∀ w ∈ wsX00, w ∈ wsX7_lift := fun w h => List.mem_cons_of_mem _ (List.mem_append_left _ (List.mem_append_left _ (List.mem_append_right _ h)))
  have hat_3 := xat_3 (fun w h => hts w (List.mem_cons_of_mem _ (List.mem_append_left _ (List.mem_append_right _ h)))) hKX
  refine lv_iload_n hx hb dX7_lift_0 rfl (lv_at hl 1 rfl) ?_
  refine ox_callSv (n := 1) (As := [.int h]) (rest := []) (z2 := q) (k0 := (m_X7_needHold h)) ⟨hx, hb, hml, hown, hts⟩ (c_X7_needHold l hlt D b0 cA ad mq q h) gX7_lift_X7_needHold rfl (by decide +kernel) rfl ⟨Nat.le_of_ble_eq_true rfl, Nat.le_of_ble_eq_true rfl⟩ ⟨Nat.le_of_ble_eq_true rfl, Nat.le_of_ble_eq_true rfl⟩ hK hW hS hKD hKX hz hl.1 rfl (Nat.le_of_ble_eq_true rfl) dX7_lift_1 (fun hne H locs ce q9 hW hS h1 h2 h3 => ox_out hxt hlk hK (by rw [m_X7_lift, if_neg hne]) hne hW hS h1 h2 h3 (Nat.le_of_ble_eq_true rfl) (Nat.le_of_ble_eq_true rfl)) (fun c_1 H locs hW hS => ?_)
  refine lv_aload_n hx hb dX7_lift_4 rfl (lv_at hl 0 rfl) ?_
  refine lv_iconst (v := 1) hx hb dX7_lift_5 (by decide) ?_
  refine ox_callVv (C := RX7) (T := TX7) (N := 11) (ci := 6) (k := 0) (j := 0) (n := 1) (As := [.int 1]) (rest := []) (z2 := q) (k0 := (m_X7_needRoom q 1)) ⟨hx, hb, hml, hown, hts⟩ (c_X7_needRoom l hlt D b0 cA ad mq q 1) (PO_k0) rfl gX7_lift_X7_needRoom rfl (by decide +kernel) rfl ⟨Nat.le_of_ble_eq_true rfl, Nat.le_of_ble_eq_true rfl⟩ ⟨Nat.le_of_ble_eq_true rfl, Nat.le_of_ble_eq_true rfl⟩ hK hW hS hKD hKX hz hl.1 rfl (Nat.le_of_ble_eq_true rfl) dX7_lift_6 (fun hne H locs ce q9 hW hS h1 h2 h3 => ox_out hxt hlk hK (by rw [m_X7_lift, if_pos c_1, if_neg hne]) hne hW hS h1 h2 h3 (Nat.le_of_ble_eq_true rfl) (Nat.le_of_ble_eq_true rfl)) (fun c_2 H locs hW hS => ?_)
  refine lv_aload_n hx hb dX7_lift_9 rfl (lv_at hl 0 rfl) ?_
  refine ow_get (v2 := .ref (ad 4 0)) (ci := 6) (C := RX7) (T := TX7) (N := 11) hx hb hts hin_X7 hown hK hW 0 0 (PO_k0) rfl 3 (by decide) (List.mem_of_getElem? (i := 3) rfl) rfl rfl rfl dX7_lift_10 ?_
  refine lv_iload_n hx hb dX7_lift_13 rfl (lv_at hl 1 rfl) ?_
  have b_3 : vp_in h 8 := by
    have u_1 := rg_e h
    have u_2 := rg_e (m_X7_needHold h)
    have k_3 : (0 : Int32).toInt = 0 := rfl
    have v_4 := cv_eq c_1
    have v_5 := nho_t c_1
    have u_6 := rg_e (m_X7_needRoom q 1)
    have v_7 := cv_eq c_2
    have k_8 : (1 : Int32).toInt = 1 := rfl
    have v_9 := nro_t hI c_2
    have w_10 := hI.2.2.2.2.2.2.2.2.2.2.1
    exact vp_in_iff.mpr (by omega)
  refine ow_aald hx hb hK hW 4 0 (PO_k4) 5 rfl b_3 dX7_lift_14 ?_
  refine ow_get (v2 := .int (q.1 15 (Int32.toNatClampNeg h) 0)) (ci := 4) (C := RX5) (T := TX5) (N := 6) hx hb hts hin_X5 hown hK hW 15 (Int32.toNatClampNeg h) (PO_k15 (lt8 b_3)) rfl 0 (by decide) (List.mem_of_getElem? (i := 4) rfl) rfl rfl rfl dX7_lift_15 ?_
  refine lv_if_ne (tgt := 31) hx hb dX7_lift_18 (by decide) (fun c_4 => ?_) (fun c_4 => ?_)
  · refine lv_aload_n hx hb dX7_lift_31 rfl (lv_at hl 0 rfl) ?_
    refine ow_get (v2 := .ref (ad 4 0)) (ci := 6) (C := RX7) (T := TX7) (N := 11) hx hb hts hin_X7 hown hK hW 0 0 (PO_k0) rfl 3 (by decide) (List.mem_of_getElem? (i := 3) rfl) rfl rfl rfl dX7_lift_32 ?_
    refine lv_iload_n hx hb dX7_lift_35 rfl (lv_at hl 1 rfl) ?_
    have b_5 : vp_in h 8 := by
      have u_1 := rg_e h
      have u_2 := rg_e (m_X7_needHold h)
      have k_3 : (0 : Int32).toInt = 0 := rfl
      have v_4 := cv_eq c_1
      have v_5 := nho_t c_1
      have u_6 := rg_e (m_X7_needRoom q 1)
      have v_7 := cv_eq c_2
      have k_8 : (1 : Int32).toInt = 1 := rfl
      have v_9 := nro_t hI c_2
      have u_10 := rg_e (q.1 15 (Int32.toNatClampNeg h) 0)
      have v_11 := cv_ne c_4
      have w_12 := hI.2.2.2.2.2.2.2.2.2.2.1
      exact vp_in_iff.mpr (by omega)
    refine ow_aald hx hb hK hW 4 0 (PO_k4) 5 rfl b_5 dX7_lift_36 ?_
    refine lv_iconst (v := 0) hx hb dX7_lift_37 (by decide) ?_
    refine ow_puti (ci := 4) (C := RX5) (T := TX5) (N := 6) (ty := .boolean) hx hb hts hin_X5 tyX5 tyX5_ok nmX5 hown hK hW hS 15 (Int32.toNatClampNeg h) (PO_k15 (lt8 b_5)) rfl 0 (by decide) (List.mem_of_getElem? (i := 4) rfl) rfl rfl (by decide +kernel) rfl rfl (Nat.le_of_ble_eq_true rfl) (by decide) (PO_w15_0 (lt8 b_5)) dX7_lift_38 (fun H locs hW hS => ?_)
    refine lv_aload_n hx hb dX7_lift_41 rfl (lv_at hl 0 rfl) ?_
    refine ow_get (v2 := .ref (ad 7 0)) (ci := 6) (C := RX7) (T := TX7) (N := 11) hx hb hts hin_X7 hown hK hW 0 0 (PO_k0) rfl 6 (by decide) (List.mem_of_getElem? (i := 5) rfl) rfl rfl rfl dX7_lift_42 ?_
    refine lv_bipush (v := 7) hx hb dX7_lift_45 (by decide) ?_
    refine lv_iload_n hx hb dX7_lift_47 rfl (lv_at hl 1 rfl) ?_
    refine lv_iconst (v := 0) hx hb dX7_lift_48 (by decide) ?_
    refine lv_iconst (v := 0) hx hb dX7_lift_49 (by decide) ?_
    refine lv_lconst (v := 0) hx hb dX7_lift_50 (by decide) ?_
    have h_6 : 0 ≤ ((cq_i q 15 (Int32.toNatClampNeg h) 0 0).1 7 0 2).toInt ∧ ((cq_i q 15 (Int32.toNatClampNeg h) 0 0).1 7 0 2).toInt ≤ 399 := by
      rw [show (cq_i q 15 (Int32.toNatClampNeg h) 0 0).1 7 0 2 = (q.1 7 0 2) from (cq_ne (by decide))]
      have k_1 : (7 : Int32).toInt = 7 := rfl
      have u_2 := rg_e h
      have k_3 : (0 : Int32).toInt = 0 := rfl
      have u_4 := rg_e (m_X7_needHold h)
      have v_5 := cv_eq c_1
      have v_6 := nho_t c_1
      have u_7 := rg_e (m_X7_needRoom q 1)
      have v_8 := cv_eq c_2
      have k_9 : (1 : Int32).toInt = 1 := rfl
      have v_10 := nro_t hI c_2
      have u_11 := rg_e (q.1 15 (Int32.toNatClampNeg h) 0)
      have v_12 := cv_ne c_4
      have w_13 := hI.2.2.2.2.2.2.2.2.2.2.1
      exact by omega
    refine ow_callVv (C := RX0) (T := TX0) (N := 3) (ci := 0) (k := 7) (j := 0) (n := 5) (As := [.int 7, .int h, .int 0, .int 0, .long 0]) (rest := []) (z2 := (m_X0_write (cq_i q 15 (Int32.toNatClampNeg h) 0 0) 7 h 0 0 0)) ⟨hx, hb, hml, hown, hts⟩ (c_X0_write l D b0 cA ad mq (cq_i q 15 (Int32.toNatClampNeg h) 0 0) 7 h 0 0 0 h_6) (PO_k7) rfl gX7_lift_X0_write rfl (by decide +kernel) rfl ⟨Nat.le_of_ble_eq_true rfl, Nat.le_of_ble_eq_true rfl⟩ ⟨Nat.le_of_ble_eq_true rfl, Nat.le_of_ble_eq_true rfl⟩ hK hW hS hKD hl.1 rfl (Nat.le_of_ble_eq_true rfl) dX7_lift_51 (fun H locs hW hS => ?_)
    exact ox_vret hx hb hr hlk hK hW hS (Nat.le_of_ble_eq_true rfl) (Nat.le_of_ble_eq_true rfl) (by rw [m_X7_lift, if_pos c_1, if_pos c_2, if_neg c_4]) dX7_lift_54
  · exact ox_throwS (cls := "java/lang/IllegalStateException") (text := "the hold is not placed") hx hb hlt hown (hts _ (List.mem_of_getElem? (i := 1) rfl)) (hts _ (List.mem_of_getElem? (i := 2) rfl)) hat_3 (by decide +kernel) (by decide +kernel) hK hW hS hKX (by decide +kernel) (hl.1.trans hml.symm) hxt (by rw [m_X7_lift, if_pos c_1, if_pos c_2, if_pos c_4]; exact ⟨rfl, show ¬ (3 : Int32) = 0 by decide⟩) (Nat.le_of_ble_eq_true rfl) (Nat.le_of_ble_eq_true rfl) (Nat.le_of_ble_eq_true rfl) (Nat.le_of_ble_eq_true rfl) hlk (Nat.le_of_ble_eq_true rfl) (Nat.le_of_ble_eq_true rfl) dX7_lift_21 dX7_lift_24 dX7_lift_25 dX7_lift_27 dX7_lift_30

def m_X7_covered (q : qC) (r : Int32) : Int32 × Int32 := (if (m_X7_recordAt q r) = 0 then (0, (m_X7_holdsOver q (Int32.toNatClampNeg r))) else ((m_X7_recordAt q r), 0))
set_option maxHeartbeats 4000000 in
set_option maxRecDepth 100000 in
theorem c_X7_covered (l : Launch) (hlt : l.stackTraces = false) (D : va_G) (b0 : Nat) (cA : Nat → ClassId) (ad : Nat → Nat → Nat) (mq : qM) (q : qC) (r : Int32) (hI : cI q) : xc_i l yX7_covered wsX7_covered 7 111 1 6 D b0 cA ad mq q [.ref (ad 0 0), .int r] ((m_X7_covered q r).1, (m_X7_covered q r).2, q) := by
  refine xc_of (by decide) rfl (Nat.le_of_ble_eq_true rfl) ?_
  intro p e s m below meth c hx hb hml hr hlk hown hts hK hW hKD hKX hz hxt ls hl
  have hown : s.vm.findClass RX7 = some m.cls := hown
  have hS : va_S (wA b0) s.heap s.heap [] := va_S.rf
  have hl : lv_has ls 2 [(0, .ref (ad 0 0)), (1, .int r)] := hl
  have hin_X7 : ∀ w ∈ wsX70, w ∈ wsX7_covered := fun w h => List.mem_cons_of_mem _ (List.mem_append_left _ (List.mem_append_left _ (List.mem_append_left _ (List.mem_append_left _ (List.mem_append_right _ h)))))
  have hin_X5 : ∀ w ∈ wsX50, w ∈ wsX7_covered := fun w h => List.mem_cons_of_mem _ (List.mem_append_left _ (List.mem_append_left _ (List.mem_append_left _ (List.mem_append_right _ h))))
  have hin_X3 : ∀ w ∈ wsX30, w ∈ wsX7_covered := fun w h => List.mem_cons_of_mem _ (List.mem_append_left _ (List.mem_append_left _ (List.mem_append_right _ h)))
  have hin_X4 : ∀ w ∈ wsX40, w ∈ wsX7_covered := fun w h => List.mem_cons_of_mem _ (List.mem_append_left _ (List.mem_append_right _ h))
  refine lv_aload_n hx hb dX7_covered_0 rfl (lv_at hl 0 rfl) ?_
  refine lv_aload_n hx hb dX7_covered_1 rfl (lv_at hl 0 rfl) ?_
  refine lv_iload_n hx hb dX7_covered_2 rfl (lv_at hl 1 rfl) ?_
  refine ox_callVr (C := RX7) (T := TX7) (N := 11) (ci := 6) (k := 0) (j := 0) (n := 1) (As := [.int r]) (rest := [.ref (ad 0 0)]) (a := (ad 16 (Int32.toNatClampNeg r))) (k0 := (m_X7_recordAt q r)) ⟨hx, hb, hml, hown, hts⟩ (c_X7_recordAt l hlt D b0 cA ad mq q r hI) (PO_k0) rfl gX7_covered_X7_recordAt rfl (by decide +kernel) rfl ⟨Nat.le_of_ble_eq_true rfl, Nat.le_of_ble_eq_true rfl⟩ ⟨Nat.le_of_ble_eq_true rfl, Nat.le_of_ble_eq_true rfl⟩ hK hW hS hKD hKX hz hl.1 rfl (Nat.le_of_ble_eq_true rfl) dX7_covered_3 (fun hne H locs ce q9 hW hS h1 h2 h3 => ox_out hxt hlk hK (by rw [m_X7_covered, if_neg hne]) hne hW hS h1 h2 h3 (Nat.le_of_ble_eq_true rfl) (Nat.le_of_ble_eq_true rfl)) (fun c_1 H locs hW hS => ?_)
  refine ow_callVi (C := RX7) (T := TX7) (N := 11) (ci := 6) (k := 0) (j := 0) (n := 1) (As := [.ref (ad 16 (Int32.toNatClampNeg r))]) (rest := []) (r := (m_X7_holdsOver q (Int32.toNatClampNeg r))) (z2 := q) ⟨hx, hb, hml, hown, hts⟩ (c_X7_holdsOver l D b0 cA ad mq q (Int32.toNatClampNeg r) (ra_p hI c_1) hI) (PO_k0) rfl gX7_covered_X7_holdsOver rfl (by decide +kernel) rfl ⟨Nat.le_of_ble_eq_true rfl, Nat.le_of_ble_eq_true rfl⟩ ⟨Nat.le_of_ble_eq_true rfl, Nat.le_of_ble_eq_true rfl⟩ hK hW hS hKD hl.1 rfl (Nat.le_of_ble_eq_true rfl) dX7_covered_6 (fun H locs hW hS => ?_)
  exact ox_iret hx hb hr hlk hK hW hS (Nat.le_of_ble_eq_true rfl) (Nat.le_of_ble_eq_true rfl) (by rw [m_X7_covered, if_pos c_1]) dX7_covered_9

def m_X7_due (q : qC) (r : Int32) : Int32 × Int32 := (if (m_X7_recordAt q r) = 0 then (0, (m_X7_dueDay q (Int32.toNatClampNeg r))) else ((m_X7_recordAt q r), 0))
set_option maxHeartbeats 4000000 in
set_option maxRecDepth 100000 in
theorem c_X7_due (l : Launch) (hlt : l.stackTraces = false) (D : va_G) (b0 : Nat) (cA : Nat → ClassId) (ad : Nat → Nat → Nat) (mq : qM) (q : qC) (r : Int32) (hI : cI q) : xc_i l yX7_due wsX7_due 7 111 1 6 D b0 cA ad mq q [.ref (ad 0 0), .int r] ((m_X7_due q r).1, (m_X7_due q r).2, q) := by
  refine xc_of (by decide) rfl (Nat.le_of_ble_eq_true rfl) ?_
  intro p e s m below meth c hx hb hml hr hlk hown hts hK hW hKD hKX hz hxt ls hl
  have hown : s.vm.findClass RX7 = some m.cls := hown
  have hS : va_S (wA b0) s.heap s.heap [] := va_S.rf
  have hl : lv_has ls 2 [(0, .ref (ad 0 0)), (1, .int r)] := hl
  have hin_X7 : ∀ w ∈ wsX70, w ∈ wsX7_due := fun w h => List.mem_cons_of_mem _ (List.mem_append_left _ (List.mem_append_left _ (List.mem_append_left _ (List.mem_append_left _ (List.mem_append_right _ h)))))
  have hin_X3 : ∀ w ∈ wsX30, w ∈ wsX7_due := fun w h => List.mem_cons_of_mem _ (List.mem_append_left _ (List.mem_append_left _ (List.mem_append_left _ (List.mem_append_right _ h))))
  have hin_X4 : ∀ w ∈ wsX40, w ∈ wsX7_due := fun w h => List.mem_cons_of_mem _ (List.mem_append_left _ (List.mem_append_left _ (List.mem_append_right _ h)))
  have hin_X6 : ∀ w ∈ wsX60, w ∈ wsX7_due := fun w h => List.mem_cons_of_mem _ (List.mem_append_left _ (List.mem_append_right _ h))
  refine lv_aload_n hx hb dX7_due_0 rfl (lv_at hl 0 rfl) ?_
  refine lv_aload_n hx hb dX7_due_1 rfl (lv_at hl 0 rfl) ?_
  refine lv_iload_n hx hb dX7_due_2 rfl (lv_at hl 1 rfl) ?_
  refine ox_callVr (C := RX7) (T := TX7) (N := 11) (ci := 6) (k := 0) (j := 0) (n := 1) (As := [.int r]) (rest := [.ref (ad 0 0)]) (a := (ad 16 (Int32.toNatClampNeg r))) (k0 := (m_X7_recordAt q r)) ⟨hx, hb, hml, hown, hts⟩ (c_X7_recordAt l hlt D b0 cA ad mq q r hI) (PO_k0) rfl gX7_due_X7_recordAt rfl (by decide +kernel) rfl ⟨Nat.le_of_ble_eq_true rfl, Nat.le_of_ble_eq_true rfl⟩ ⟨Nat.le_of_ble_eq_true rfl, Nat.le_of_ble_eq_true rfl⟩ hK hW hS hKD hKX hz hl.1 rfl (Nat.le_of_ble_eq_true rfl) dX7_due_3 (fun hne H locs ce q9 hW hS h1 h2 h3 => ox_out hxt hlk hK (by rw [m_X7_due, if_neg hne]) hne hW hS h1 h2 h3 (Nat.le_of_ble_eq_true rfl) (Nat.le_of_ble_eq_true rfl)) (fun c_1 H locs hW hS => ?_)
  refine ow_callVi (C := RX7) (T := TX7) (N := 11) (ci := 6) (k := 0) (j := 0) (n := 1) (As := [.ref (ad 16 (Int32.toNatClampNeg r))]) (rest := []) (r := (m_X7_dueDay q (Int32.toNatClampNeg r))) (z2 := q) ⟨hx, hb, hml, hown, hts⟩ (c_X7_dueDay l D b0 cA ad mq q (Int32.toNatClampNeg r) (ra_p hI c_1) hI) (PO_k0) rfl gX7_due_X7_dueDay rfl (by decide +kernel) rfl ⟨Nat.le_of_ble_eq_true rfl, Nat.le_of_ble_eq_true rfl⟩ ⟨Nat.le_of_ble_eq_true rfl, Nat.le_of_ble_eq_true rfl⟩ hK hW hS hKD hl.1 rfl (Nat.le_of_ble_eq_true rfl) dX7_due_6 (fun H locs hW hS => ?_)
  exact ox_iret hx hb hr hlk hK hW hS (Nat.le_of_ble_eq_true rfl) (Nat.le_of_ble_eq_true rfl) (by rw [m_X7_due, if_pos c_1]) dX7_due_9

def m_X7_record (q : qC) (r : Int32) (what : Int32) : Int32 × Int32 := (if (m_X7_recordAt q r) = 0 then (if what = 0 then (0, (q.1 14 (Int32.toNatClampNeg (q.1 16 (Int32.toNatClampNeg r) 0)) 0)) else (if what = 1 then (0, (q.1 16 (Int32.toNatClampNeg r) 6)) else (if what = 2 then (0, (q.1 16 (Int32.toNatClampNeg r) 1)) else (if what = 3 then (if (q.1 16 (Int32.toNatClampNeg r) 7) = 0 then (0, 0) else (0, 1)) else (if what = 4 then (0, (m_X3_keyCount q (Int32.toNatClampNeg r))) else (2, 0)))))) else ((m_X7_recordAt q r), 0))
set_option maxHeartbeats 4000000 in
set_option maxRecDepth 100000 in
theorem c_X7_record (l : Launch) (hlt : l.stackTraces = false) (D : va_G) (b0 : Nat) (cA : Nat → ClassId) (ad : Nat → Nat → Nat) (mq : qM) (q : qC) (r : Int32) (what : Int32) (hI : cI q) : xc_i l yX7_record wsX7_record 7 111 2 12 D b0 cA ad mq q [.ref (ad 0 0), .int r, .int what] ((m_X7_record q r what).1, (m_X7_record q r what).2, q) := by
  refine xc_of (by decide) rfl (Nat.le_of_ble_eq_true rfl) ?_
  intro p e s m below meth c hx hb hml hr hlk hown hts hK hW hKD hKX hz hxt ls hl
  have hown : s.vm.findClass RX7 = some m.cls := hown
  have hS : va_S (wA b0) s.heap s.heap [] := va_S.rf
  have hl : lv_has ls 4 [(0, .ref (ad 0 0)), (1, .int r), (2, .int what)] := hl
  have hin_X3 : ∀ w ∈ wsX30, w ∈ wsX7_record := fun w h => List.mem_cons_of_mem _ (List.mem_append_left _ (List.mem_append_left _ (List.mem_append_left _ (List.mem_append_left _ (List.mem_append_right _ h)))))
  have hin_X4 : ∀ w ∈ wsX40, w ∈ wsX7_record := fun w h => List.mem_cons_of_mem _ (List.mem_append_left _ (List.mem_append_left _ (List.mem_append_left _ (List.mem_append_right _ h))))
  have hin_X7 : ∀ w ∈ wsX70, w ∈ wsX7_record := fun w h => List.mem_cons_of_mem _ (List.mem_append_left _ (List.mem_append_left _ (List.mem_append_right _ h)))
  have hat_2 := xat_2 (fun w h => hts w (List.mem_cons_of_mem _ (List.mem_append_left _ (List.mem_append_right _ h)))) hKX
  refine lv_aload_n hx hb dX7_record_0 rfl (lv_at hl 0 rfl) ?_
  refine lv_iload_n hx hb dX7_record_1 rfl (lv_at hl 1 rfl) ?_
  refine ox_callVr (C := RX7) (T := TX7) (N := 11) (ci := 6) (k := 0) (j := 0) (n := 1) (As := [.int r]) (rest := []) (a := (ad 16 (Int32.toNatClampNeg r))) (k0 := (m_X7_recordAt q r)) ⟨hx, hb, hml, hown, hts⟩ (c_X7_recordAt l hlt D b0 cA ad mq q r hI) (PO_k0) rfl gX7_record_X7_recordAt rfl (by decide +kernel) rfl ⟨Nat.le_of_ble_eq_true rfl, Nat.le_of_ble_eq_true rfl⟩ ⟨Nat.le_of_ble_eq_true rfl, Nat.le_of_ble_eq_true rfl⟩ hK hW hS hKD hKX hz hl.1 rfl (Nat.le_of_ble_eq_true rfl) dX7_record_2 (fun hne H locs ce q9 hW hS h1 h2 h3 => ox_out hxt hlk hK (by rw [m_X7_record, if_neg hne]) hne hW hS h1 h2 h3 (Nat.le_of_ble_eq_true rfl) (Nat.le_of_ble_eq_true rfl)) (fun c_1 H locs hW hS => ?_)
  refine lv_astore_n (lv' := [(3, .ref (ad 16 (Int32.toNatClampNeg r))), (0, .ref (ad 0 0)), (1, .int r), (2, .int what)]) hx hb dX7_record_5 rfl hl (by decide) rfl (fun ls hl => ?_)
  refine lv_iload_n hx hb dX7_record_6 rfl (lv_at hl 3 rfl) ?_
  by_cases c_2 : what = 0
  · refine lv_tableIn (tgt := 40) (off := 33) hx hb dX7_record_7 (by rw [c_2]; decide) (by rw [c_2]; decide) (by rw [c_2]; decide) (by decide) ?_
    refine lv_aload_n hx hb dX7_record_40 rfl (lv_at hl 0 rfl) ?_
    refine ow_get (v2 := .ref (ad 14 (Int32.toNatClampNeg (q.1 16 (Int32.toNatClampNeg r) 0)))) (ci := 2) (C := RX3) (T := TX3) (N := 8) hx hb hts hin_X3 hown hK hW 16 (Int32.toNatClampNeg r) (PO_k16 (ra_p hI c_1)) rfl 0 (by decide) (List.mem_of_getElem? (i := 3) rfl) rfl rfl rfl dX7_record_41 ?_
    refine ow_get (v2 := .int (q.1 14 (Int32.toNatClampNeg (q.1 16 (Int32.toNatClampNeg r) 0)) 0)) (ci := 3) (C := RX4) (T := TX4) (N := 4) hx hb hts hin_X4 hown hK hW 14 (Int32.toNatClampNeg (q.1 16 (Int32.toNatClampNeg r) 0)) (PO_k14 (hI.1 _ (ra_p hI c_1))) rfl 0 (by decide) (List.mem_of_getElem? (i := 4) rfl) rfl rfl rfl dX7_record_44 ?_
    exact ox_iret hx hb hr hlk hK hW hS (Nat.le_of_ble_eq_true rfl) (Nat.le_of_ble_eq_true rfl) (by rw [m_X7_record, if_pos c_1, if_pos c_2]) dX7_record_47
  · by_cases c_3 : what = 1
    · refine lv_tableIn (tgt := 48) (off := 41) hx hb dX7_record_7 (by rw [c_3]; decide) (by rw [c_3]; decide) (by rw [c_3]; decide) (by decide) ?_
      refine lv_aload_n hx hb dX7_record_48 rfl (lv_at hl 0 rfl) ?_
      refine ow_get (v2 := .int (q.1 16 (Int32.toNatClampNeg r) 6)) (ci := 2) (C := RX3) (T := TX3) (N := 8) hx hb hts hin_X3 hown hK hW 16 (Int32.toNatClampNeg r) (PO_k16 (ra_p hI c_1)) rfl 6 (by decide) (List.mem_of_getElem? (i := 5) rfl) rfl rfl rfl dX7_record_49 ?_
      exact ox_iret hx hb hr hlk hK hW hS (Nat.le_of_ble_eq_true rfl) (Nat.le_of_ble_eq_true rfl) (by rw [m_X7_record, if_pos c_1, if_neg c_2, if_pos c_3]) dX7_record_52
    · by_cases c_4 : what = 2
      · refine lv_tableIn (tgt := 53) (off := 46) hx hb dX7_record_7 (by rw [c_4]; decide) (by rw [c_4]; decide) (by rw [c_4]; decide) (by decide) ?_
        refine lv_aload_n hx hb dX7_record_53 rfl (lv_at hl 0 rfl) ?_
        refine ow_get (v2 := .int (q.1 16 (Int32.toNatClampNeg r) 1)) (ci := 2) (C := RX3) (T := TX3) (N := 8) hx hb hts hin_X3 hown hK hW 16 (Int32.toNatClampNeg r) (PO_k16 (ra_p hI c_1)) rfl 1 (by decide) (List.mem_of_getElem? (i := 6) rfl) rfl rfl rfl dX7_record_54 ?_
        exact ox_iret hx hb hr hlk hK hW hS (Nat.le_of_ble_eq_true rfl) (Nat.le_of_ble_eq_true rfl) (by rw [m_X7_record, if_pos c_1, if_neg c_2, if_neg c_3, if_pos c_4]) dX7_record_57
      · by_cases c_5 : what = 3
        · refine lv_tableIn (tgt := 58) (off := 51) hx hb dX7_record_7 (by rw [c_5]; decide) (by rw [c_5]; decide) (by rw [c_5]; decide) (by decide) ?_
          refine lv_aload_n hx hb dX7_record_58 rfl (lv_at hl 0 rfl) ?_
          refine ow_get (v2 := .int (q.1 16 (Int32.toNatClampNeg r) 7)) (ci := 2) (C := RX3) (T := TX3) (N := 8) hx hb hts hin_X3 hown hK hW 16 (Int32.toNatClampNeg r) (PO_k16 (ra_p hI c_1)) rfl 7 (by decide) (List.mem_of_getElem? (i := 7) rfl) rfl rfl rfl dX7_record_59 ?_
          refine lv_if_eq (tgt := 69) hx hb dX7_record_62 (by decide) (fun c_6 => ?_) (fun c_6 => ?_)
          · refine lv_iconst (v := 0) hx hb dX7_record_69 (by decide) ?_
            exact ox_iret hx hb hr hlk hK hW hS (Nat.le_of_ble_eq_true rfl) (Nat.le_of_ble_eq_true rfl) (by rw [m_X7_record, if_pos c_1, if_neg c_2, if_neg c_3, if_neg c_4, if_pos c_5, if_pos c_6]) dX7_record_70
          · refine lv_iconst (v := 1) hx hb dX7_record_65 (by decide) ?_
            refine lv_goto (tgt := 70) hx hb dX7_record_66 (by decide) ?_
            exact ox_iret hx hb hr hlk hK hW hS (Nat.le_of_ble_eq_true rfl) (Nat.le_of_ble_eq_true rfl) (by rw [m_X7_record, if_pos c_1, if_neg c_2, if_neg c_3, if_neg c_4, if_pos c_5, if_neg c_6]) dX7_record_70
        · by_cases c_7 : what = 4
          · refine lv_tableIn (tgt := 71) (off := 64) hx hb dX7_record_7 (by rw [c_7]; decide) (by rw [c_7]; decide) (by rw [c_7]; decide) (by decide) ?_
            refine lv_aload_n hx hb dX7_record_71 rfl (lv_at hl 0 rfl) ?_
            refine ow_callVi (C := RX3) (T := TX3) (N := 8) (ci := 2) (k := 16) (j := (Int32.toNatClampNeg r)) (n := 0) (As := []) (rest := []) (r := (m_X3_keyCount q (Int32.toNatClampNeg r))) (z2 := q) ⟨hx, hb, hml, hown, hts⟩ (c_X3_keyCount l D b0 cA ad mq q (Int32.toNatClampNeg r) (ra_p hI c_1)) (PO_k16 (ra_p hI c_1)) rfl gX7_record_X3_keyCount rfl (by decide +kernel) rfl ⟨Nat.le_of_ble_eq_true rfl, Nat.le_of_ble_eq_true rfl⟩ ⟨Nat.le_of_ble_eq_true rfl, Nat.le_of_ble_eq_true rfl⟩ hK hW hS hKD hl.1 rfl (Nat.le_of_ble_eq_true rfl) dX7_record_72 (fun H locs hW hS => ?_)
            exact ox_iret hx hb hr hlk hK hW hS (Nat.le_of_ble_eq_true rfl) (Nat.le_of_ble_eq_true rfl) (by rw [m_X7_record, if_pos c_1, if_neg c_2, if_neg c_3, if_neg c_4, if_neg c_5, if_pos c_7]) dX7_record_75
          · refine lv_tableOut (tgt := 76) hx hb dX7_record_7 (by have k_0 : (0 : Int32).toInt = 0 := rfl; have k_1 : (1 : Int32).toInt = 1 := rfl; have k_2 : (2 : Int32).toInt = 2 := rfl; have k_3 : (3 : Int32).toInt = 3 := rfl; have k_4 : (4 : Int32).toInt = 4 := rfl; have n_0 := cv_ne c_2; have n_1 := cv_ne c_3; have n_2 := cv_ne c_4; have n_3 := cv_ne c_5; have n_4 := cv_ne c_7; omega) (by decide) ?_
            exact ox_throwS (cls := "java/lang/IllegalArgumentException") (text := "nothing such is told of a record") hx hb hlt hown (hts _ (List.mem_of_getElem? (i := 1) rfl)) (hts _ (List.mem_of_getElem? (i := 2) rfl)) hat_2 (by decide +kernel) (by decide +kernel) hK hW hS hKX (by decide +kernel) (hl.1.trans hml.symm) hxt (by rw [m_X7_record, if_pos c_1, if_neg c_2, if_neg c_3, if_neg c_4, if_neg c_5, if_neg c_7]; exact ⟨rfl, show ¬ (2 : Int32) = 0 by decide⟩) (Nat.le_of_ble_eq_true rfl) (Nat.le_of_ble_eq_true rfl) (Nat.le_of_ble_eq_true rfl) (Nat.le_of_ble_eq_true rfl) hlk (Nat.le_of_ble_eq_true rfl) (Nat.le_of_ble_eq_true rfl) dX7_record_76 dX7_record_79 dX7_record_80 dX7_record_82 dX7_record_85

def m_X7_read (q : qC) (r : Int32) : Int32 × Int64 := (if (m_X7_recordAt q r) = 0 then (if (q.1 16 (Int32.toNatClampNeg r) 7) = 0 then (0, (q.2 16 (Int32.toNatClampNeg r) 2)) else (3, 0)) else ((m_X7_recordAt q r), 0))
set_option maxHeartbeats 4000000 in
set_option maxRecDepth 100000 in
theorem c_X7_read (l : Launch) (hlt : l.stackTraces = false) (D : va_G) (b0 : Nat) (cA : Nat → ClassId) (ad : Nat → Nat → Nat) (mq : qM) (q : qC) (r : Int32) (hI : cI q) : xc_l l yX7_read wsX7_read 7 111 2 12 D b0 cA ad mq q [.ref (ad 0 0), .int r] ((m_X7_read q r).1, (m_X7_read q r).2, q) := by
  refine xc_of (by decide) rfl (Nat.le_of_ble_eq_true rfl) ?_
  intro p e s m below meth c hx hb hml hr hlk hown hts hK hW hKD hKX hz hxt ls hl
  have hown : s.vm.findClass RX7 = some m.cls := hown
  have hS : va_S (wA b0) s.heap s.heap [] := va_S.rf
  have hl : lv_has ls 3 [(0, .ref (ad 0 0)), (1, .int r)] := hl
  have hin_X3 : ∀ w ∈ wsX30, w ∈ wsX7_read := fun w h => List.mem_cons_of_mem _ (List.mem_append_left _ (List.mem_append_left _ (List.mem_append_left _ (List.mem_append_right _ h))))
  have hin_X7 : ∀ w ∈ wsX70, w ∈ wsX7_read := fun w h => List.mem_cons_of_mem _ (List.mem_append_left _ (List.mem_append_left _ (List.mem_append_right _ h)))
  have hat_3 := xat_3 (fun w h => hts w (List.mem_cons_of_mem _ (List.mem_append_left _ (List.mem_append_right _ h)))) hKX
  refine lv_aload_n hx hb dX7_read_0 rfl (lv_at hl 0 rfl) ?_
  refine lv_iload_n hx hb dX7_read_1 rfl (lv_at hl 1 rfl) ?_
  refine ox_callVr (C := RX7) (T := TX7) (N := 11) (ci := 6) (k := 0) (j := 0) (n := 1) (As := [.int r]) (rest := []) (a := (ad 16 (Int32.toNatClampNeg r))) (k0 := (m_X7_recordAt q r)) ⟨hx, hb, hml, hown, hts⟩ (c_X7_recordAt l hlt D b0 cA ad mq q r hI) (PO_k0) rfl gX7_read_X7_recordAt rfl (by decide +kernel) rfl ⟨Nat.le_of_ble_eq_true rfl, Nat.le_of_ble_eq_true rfl⟩ ⟨Nat.le_of_ble_eq_true rfl, Nat.le_of_ble_eq_true rfl⟩ hK hW hS hKD hKX hz hl.1 rfl (Nat.le_of_ble_eq_true rfl) dX7_read_2 (fun hne H locs ce q9 hW hS h1 h2 h3 => ox_out hxt hlk hK (by rw [m_X7_read, if_neg hne]) hne hW hS h1 h2 h3 (Nat.le_of_ble_eq_true rfl) (Nat.le_of_ble_eq_true rfl)) (fun c_1 H locs hW hS => ?_)
  refine lv_astore_n (lv' := [(2, .ref (ad 16 (Int32.toNatClampNeg r))), (0, .ref (ad 0 0)), (1, .int r)]) hx hb dX7_read_5 rfl hl (by decide) rfl (fun ls hl => ?_)
  refine lv_aload_n hx hb dX7_read_6 rfl (lv_at hl 0 rfl) ?_
  refine ow_get (v2 := .int (q.1 16 (Int32.toNatClampNeg r) 7)) (ci := 2) (C := RX3) (T := TX3) (N := 8) hx hb hts hin_X3 hown hK hW 16 (Int32.toNatClampNeg r) (PO_k16 (ra_p hI c_1)) rfl 7 (by decide) (List.mem_of_getElem? (i := 3) rfl) rfl rfl rfl dX7_read_7 ?_
  refine lv_if_eq (tgt := 23) hx hb dX7_read_10 (by decide) (fun c_2 => ?_) (fun c_2 => ?_)
  · refine lv_aload_n hx hb dX7_read_23 rfl (lv_at hl 0 rfl) ?_
    refine ow_get (v2 := .long (q.2 16 (Int32.toNatClampNeg r) 2)) (ci := 2) (C := RX3) (T := TX3) (N := 8) hx hb hts hin_X3 hown hK hW 16 (Int32.toNatClampNeg r) (PO_k16 (ra_p hI c_1)) rfl 2 (by decide) (List.mem_of_getElem? (i := 4) rfl) rfl rfl rfl dX7_read_24 ?_
    exact ox_lret hx hb hr hlk hK hW hS (Nat.le_of_ble_eq_true rfl) (Nat.le_of_ble_eq_true rfl) (by rw [m_X7_read, if_pos c_1, if_pos c_2]) dX7_read_27
  · exact ox_throwS (cls := "java/lang/IllegalStateException") (text := "the record is destroyed") hx hb hlt hown (hts _ (List.mem_of_getElem? (i := 1) rfl)) (hts _ (List.mem_of_getElem? (i := 2) rfl)) hat_3 (by decide +kernel) (by decide +kernel) hK hW hS hKX (by decide +kernel) (hl.1.trans hml.symm) hxt (by rw [m_X7_read, if_pos c_1, if_neg c_2]; exact ⟨rfl, show ¬ (3 : Int32) = 0 by decide⟩) (Nat.le_of_ble_eq_true rfl) (Nat.le_of_ble_eq_true rfl) (Nat.le_of_ble_eq_true rfl) (Nat.le_of_ble_eq_true rfl) hlk (Nat.le_of_ble_eq_true rfl) (Nat.le_of_ble_eq_true rfl) dX7_read_13 dX7_read_16 dX7_read_17 dX7_read_19 dX7_read_22

def m_X7_listed (q : qC) (li : Int32) (i : Int32) : Int32 × Int32 := (if (m_X7_listAt q li) = 0 then (if 0 ≤ i then (0, (m_X2_recordAtPlace q (Int32.toNatClampNeg li) i)) else (1, 0)) else ((m_X7_listAt q li), 0))
set_option maxHeartbeats 4000000 in
set_option maxRecDepth 100000 in
theorem c_X7_listed (l : Launch) (hlt : l.stackTraces = false) (D : va_G) (b0 : Nat) (cA : Nat → ClassId) (ad : Nat → Nat → Nat) (mq : qM) (q : qC) (li : Int32) (i : Int32) (hI : cI q) : xc_i l yX7_listed wsX7_listed 7 111 2 12 D b0 cA ad mq q [.ref (ad 0 0), .int li, .int i] ((m_X7_listed q li i).1, (m_X7_listed q li i).2, q) := by
  refine xc_of (by decide) rfl (Nat.le_of_ble_eq_true rfl) ?_
  intro p e s m below meth c hx hb hml hr hlk hown hts hK hW hKD hKX hz hxt ls hl
  have hown : s.vm.findClass RX7 = some m.cls := hown
  have hS : va_S (wA b0) s.heap s.heap [] := va_S.rf
  have hl : lv_has ls 4 [(0, .ref (ad 0 0)), (1, .int li), (2, .int i)] := hl
  have hin_X7 : ∀ w ∈ wsX70, w ∈ wsX7_listed := fun w h => List.mem_cons_of_mem _ (List.mem_append_left _ (List.mem_append_left _ (List.mem_append_right _ h)))
  have hin_X2 : ∀ w ∈ wsX20, w ∈ wsX7_listed := fun w h => List.mem_cons_of_mem _ (List.mem_append_left _ (List.mem_append_right _ h))
  have hat_1 := xat_1 (fun w h => hts w (List.mem_cons_of_mem _ (List.mem_append_right _ h))) hKX
  refine lv_aload_n hx hb dX7_listed_0 rfl (lv_at hl 0 rfl) ?_
  refine lv_iload_n hx hb dX7_listed_1 rfl (lv_at hl 1 rfl) ?_
  refine ox_callVr (C := RX7) (T := TX7) (N := 11) (ci := 6) (k := 0) (j := 0) (n := 1) (As := [.int li]) (rest := []) (a := (ad 17 (Int32.toNatClampNeg li))) (k0 := (m_X7_listAt q li)) ⟨hx, hb, hml, hown, hts⟩ (c_X7_listAt l hlt D b0 cA ad mq q li hI) (PO_k0) rfl gX7_listed_X7_listAt rfl (by decide +kernel) rfl ⟨Nat.le_of_ble_eq_true rfl, Nat.le_of_ble_eq_true rfl⟩ ⟨Nat.le_of_ble_eq_true rfl, Nat.le_of_ble_eq_true rfl⟩ hK hW hS hKD hKX hz hl.1 rfl (Nat.le_of_ble_eq_true rfl) dX7_listed_2 (fun hne H locs ce q9 hW hS h1 h2 h3 => ox_out hxt hlk hK (by rw [m_X7_listed, if_neg hne]) hne hW hS h1 h2 h3 (Nat.le_of_ble_eq_true rfl) (Nat.le_of_ble_eq_true rfl)) (fun c_1 H locs hW hS => ?_)
  refine lv_astore_n (lv' := [(3, .ref (ad 17 (Int32.toNatClampNeg li))), (0, .ref (ad 0 0)), (1, .int li), (2, .int i)]) hx hb dX7_listed_5 rfl hl (by decide) rfl (fun ls hl => ?_)
  refine lv_iload_n hx hb dX7_listed_6 rfl (lv_at hl 3 rfl) ?_
  refine lv_if_ge (tgt := 20) hx hb dX7_listed_7 (by decide) (fun c_2 => ?_) (fun c_2 => ?_)
  · refine lv_aload_n hx hb dX7_listed_20 rfl (lv_at hl 0 rfl) ?_
    refine lv_iload_n hx hb dX7_listed_21 rfl (lv_at hl 3 rfl) ?_
    refine ow_callVi (C := RX2) (T := TX2) (N := 4) (ci := 1) (k := 17) (j := (Int32.toNatClampNeg li)) (n := 1) (As := [.int i]) (rest := []) (r := (m_X2_recordAtPlace q (Int32.toNatClampNeg li) i)) (z2 := q) ⟨hx, hb, hml, hown, hts⟩ (c_X2_recordAtPlace l D b0 cA ad mq q (Int32.toNatClampNeg li) i (la_p hI c_1)) (PO_k17 (la_p hI c_1)) rfl gX7_listed_X2_recordAtPlace rfl (by decide +kernel) rfl ⟨Nat.le_of_ble_eq_true rfl, Nat.le_of_ble_eq_true rfl⟩ ⟨Nat.le_of_ble_eq_true rfl, Nat.le_of_ble_eq_true rfl⟩ hK hW hS hKD hl.1 rfl (Nat.le_of_ble_eq_true rfl) dX7_listed_22 (fun H locs hW hS => ?_)
    exact ox_iret hx hb hr hlk hK hW hS (Nat.le_of_ble_eq_true rfl) (Nat.le_of_ble_eq_true rfl) (by rw [m_X7_listed, if_pos c_1, if_pos c_2]) dX7_listed_25
  · exact ox_throwS (cls := "java/lang/IndexOutOfBoundsException") (text := "no such place on a list") hx hb hlt hown (hts _ (List.mem_of_getElem? (i := 1) rfl)) (hts _ (List.mem_of_getElem? (i := 2) rfl)) hat_1 (by decide +kernel) (by decide +kernel) hK hW hS hKX (by decide +kernel) (hl.1.trans hml.symm) hxt (by rw [m_X7_listed, if_pos c_1, if_neg c_2]; exact ⟨rfl, show ¬ (1 : Int32) = 0 by decide⟩) (Nat.le_of_ble_eq_true rfl) (Nat.le_of_ble_eq_true rfl) (Nat.le_of_ble_eq_true rfl) (Nat.le_of_ble_eq_true rfl) hlk (Nat.le_of_ble_eq_true rfl) (Nat.le_of_ble_eq_true rfl) dX7_listed_10 dX7_listed_13 dX7_listed_14 dX7_listed_16 dX7_listed_19

def m_X7_approve (q : qC) (li : Int32) (o : Int32) : Int32 × Int32 × qC := (if (m_X7_listAt q li) = 0 then (if (m_X7_needOfficer o) = 0 then (if (m_X7_needOpen q (Int32.toNatClampNeg li)) = 0 then (if (m_X7_needRight q o 2) = 0 then (if (m_X7_needRoom q 1) = 0 then (if (q.1 17 (Int32.toNatClampNeg li) 0) = o then (3, 0, q) else (if (m_X2_isApprovedBy q (Int32.toNatClampNeg li) o) = 0 then (0, (m_X2_approvals (m_X0_write (cq_i q 17 (Int32.toNatClampNeg li) 2 ((q.1 17 (Int32.toNatClampNeg li) 2) ||| ((1 : Int32) <<< (o &&& 31)))) 9 li o 0 0) (Int32.toNatClampNeg li)), (m_X0_write (cq_i q 17 (Int32.toNatClampNeg li) 2 ((q.1 17 (Int32.toNatClampNeg li) 2) ||| ((1 : Int32) <<< (o &&& 31)))) 9 li o 0 0)) else (3, 0, q))) else ((m_X7_needRoom q 1), 0, q)) else ((m_X7_needRight q o 2), 0, q)) else ((m_X7_needOpen q (Int32.toNatClampNeg li)), 0, q)) else ((m_X7_needOfficer o), 0, q)) else ((m_X7_listAt q li), 0, q))
set_option maxHeartbeats 4000000 in
set_option maxRecDepth 100000 in
theorem c_X7_approve (l : Launch) (hlt : l.stackTraces = false) (D : va_G) (b0 : Nat) (cA : Nat → ClassId) (ad : Nat → Nat → Nat) (mq : qM) (q : qC) (li : Int32) (o : Int32) (hI : cI q) : xc_i l yX7_approve wsX7_approve 7 112 6 36 D b0 cA ad mq q [.ref (ad 0 0), .int li, .int o] (m_X7_approve q li o) := by
  refine xc_of (by decide) rfl (Nat.le_of_ble_eq_true rfl) ?_
  intro p e s m below meth c hx hb hml hr hlk hown hts hK hW hKD hKX hz hxt ls hl
  have hown : s.vm.findClass RX7 = some m.cls := hown
  have hS : va_S (wA b0) s.heap s.heap [] := va_S.rf
  have hl : lv_has ls 4 [(0, .ref (ad 0 0)), (1, .int li), (2, .int o)] := hl
  have hin_X2 : ∀ w ∈ wsX20, w ∈ wsX7_approve := fun w h => List.mem_cons_of_mem _ (List.mem_append_left _ (List.mem_append_left _ (List.mem_append_left _ (List.mem_append_left _ (List.mem_append_right _ h)))))
  have hin_X7 : ∀ w ∈ wsX70, w ∈ wsX7_approve := fun w h => List.mem_cons_of_mem _ (List.mem_append_left _ (List.mem_append_left _ (List.mem_append_left _ (List.mem_append_right _ h))))
  have hin_X0 : ∀ w ∈ wsX00, w ∈ wsX7_approve := fun w h => List.mem_cons_of_mem _ (List.mem_append_left _ (List.mem_append_left _ (List.mem_append_right _ h)))
  have hat_3 := xat_3 (fun w h => hts w (List.mem_cons_of_mem _ (List.mem_append_left _ (List.mem_append_right _ h)))) hKX
  refine lv_aload_n hx hb dX7_approve_0 rfl (lv_at hl 0 rfl) ?_
  refine lv_iload_n hx hb dX7_approve_1 rfl (lv_at hl 1 rfl) ?_
  refine ox_callVr (C := RX7) (T := TX7) (N := 11) (ci := 6) (k := 0) (j := 0) (n := 1) (As := [.int li]) (rest := []) (a := (ad 17 (Int32.toNatClampNeg li))) (k0 := (m_X7_listAt q li)) ⟨hx, hb, hml, hown, hts⟩ (c_X7_listAt l hlt D b0 cA ad mq q li hI) (PO_k0) rfl gX7_approve_X7_listAt rfl (by decide +kernel) rfl ⟨Nat.le_of_ble_eq_true rfl, Nat.le_of_ble_eq_true rfl⟩ ⟨Nat.le_of_ble_eq_true rfl, Nat.le_of_ble_eq_true rfl⟩ hK hW hS hKD hKX hz hl.1 rfl (Nat.le_of_ble_eq_true rfl) dX7_approve_2 (fun hne H locs ce q9 hW hS h1 h2 h3 => ox_out hxt hlk hK (by rw [m_X7_approve, if_neg hne]) hne hW hS h1 h2 h3 (Nat.le_of_ble_eq_true rfl) (Nat.le_of_ble_eq_true rfl)) (fun c_1 H locs hW hS => ?_)
  refine lv_astore_n (lv' := [(3, .ref (ad 17 (Int32.toNatClampNeg li))), (0, .ref (ad 0 0)), (1, .int li), (2, .int o)]) hx hb dX7_approve_5 rfl hl (by decide) rfl (fun ls hl => ?_)
  refine lv_iload_n hx hb dX7_approve_6 rfl (lv_at hl 3 rfl) ?_
  refine ox_callSv (n := 1) (As := [.int o]) (rest := []) (z2 := q) (k0 := (m_X7_needOfficer o)) ⟨hx, hb, hml, hown, hts⟩ (c_X7_needOfficer l hlt D b0 cA ad mq q o) gX7_approve_X7_needOfficer rfl (by decide +kernel) rfl ⟨Nat.le_of_ble_eq_true rfl, Nat.le_of_ble_eq_true rfl⟩ ⟨Nat.le_of_ble_eq_true rfl, Nat.le_of_ble_eq_true rfl⟩ hK hW hS hKD hKX hz hl.1 rfl (Nat.le_of_ble_eq_true rfl) dX7_approve_7 (fun hne H locs ce q9 hW hS h1 h2 h3 => ox_out hxt hlk hK (by rw [m_X7_approve, if_pos c_1, if_neg hne]) hne hW hS h1 h2 h3 (Nat.le_of_ble_eq_true rfl) (Nat.le_of_ble_eq_true rfl)) (fun c_2 H locs hW hS => ?_)
  refine lv_aload_n hx hb dX7_approve_10 rfl (lv_at hl 0 rfl) ?_
  refine ox_callSv (n := 1) (As := [.ref (ad 17 (Int32.toNatClampNeg li))]) (rest := []) (z2 := q) (k0 := (m_X7_needOpen q (Int32.toNatClampNeg li))) ⟨hx, hb, hml, hown, hts⟩ (c_X7_needOpen l hlt D b0 cA ad mq q (Int32.toNatClampNeg li) (la_p hI c_1)) gX7_approve_X7_needOpen rfl (by decide +kernel) rfl ⟨Nat.le_of_ble_eq_true rfl, Nat.le_of_ble_eq_true rfl⟩ ⟨Nat.le_of_ble_eq_true rfl, Nat.le_of_ble_eq_true rfl⟩ hK hW hS hKD hKX hz hl.1 rfl (Nat.le_of_ble_eq_true rfl) dX7_approve_11 (fun hne H locs ce q9 hW hS h1 h2 h3 => ox_out hxt hlk hK (by rw [m_X7_approve, if_pos c_1, if_pos c_2, if_neg hne]) hne hW hS h1 h2 h3 (Nat.le_of_ble_eq_true rfl) (Nat.le_of_ble_eq_true rfl)) (fun c_3 H locs hW hS => ?_)
  refine lv_aload_n hx hb dX7_approve_14 rfl (lv_at hl 1 rfl) ?_
  refine lv_iload_n hx hb dX7_approve_15 rfl (lv_at hl 3 rfl) ?_
  refine lv_iconst (v := 2) hx hb dX7_approve_16 (by decide) ?_
  have h_4 : 0 ≤ (o : Int32).toInt ∧ (o : Int32).toInt ≤ 7 := by
    have u_1 := rg_e o
    have k_2 : (2 : Int32).toInt = 2 := rfl
    have u_3 := rg_e (m_X7_listAt q li)
    have k_4 : (0 : Int32).toInt = 0 := rfl
    have v_5 := cv_eq c_1
    have u_6 := rg_e li
    have v_7 := lat_t c_1
    have u_8 := rg_e (m_X7_needOfficer o)
    have v_9 := cv_eq c_2
    have v_10 := nof_t c_2
    have u_11 := rg_e (m_X7_needOpen q (Int32.toNatClampNeg li))
    have v_12 := cv_eq c_3
    have w_13 := hI.2.2.2.2.2.2.2.2.2.2.1
    exact by omega
  refine ox_callVv (C := RX7) (T := TX7) (N := 11) (ci := 6) (k := 0) (j := 0) (n := 2) (As := [.int o, .int 2]) (rest := []) (z2 := q) (k0 := (m_X7_needRight q o 2)) ⟨hx, hb, hml, hown, hts⟩ (c_X7_needRight l hlt D b0 cA ad mq q o 2 h_4) (PO_k0) rfl gX7_approve_X7_needRight rfl (by decide +kernel) rfl ⟨Nat.le_of_ble_eq_true rfl, Nat.le_of_ble_eq_true rfl⟩ ⟨Nat.le_of_ble_eq_true rfl, Nat.le_of_ble_eq_true rfl⟩ hK hW hS hKD hKX hz hl.1 rfl (Nat.le_of_ble_eq_true rfl) dX7_approve_17 (fun hne H locs ce q9 hW hS h1 h2 h3 => ox_out hxt hlk hK (by rw [m_X7_approve, if_pos c_1, if_pos c_2, if_pos c_3, if_neg hne]) hne hW hS h1 h2 h3 (Nat.le_of_ble_eq_true rfl) (Nat.le_of_ble_eq_true rfl)) (fun c_5 H locs hW hS => ?_)
  refine lv_aload_n hx hb dX7_approve_20 rfl (lv_at hl 1 rfl) ?_
  refine lv_iconst (v := 1) hx hb dX7_approve_21 (by decide) ?_
  refine ox_callVv (C := RX7) (T := TX7) (N := 11) (ci := 6) (k := 0) (j := 0) (n := 1) (As := [.int 1]) (rest := []) (z2 := q) (k0 := (m_X7_needRoom q 1)) ⟨hx, hb, hml, hown, hts⟩ (c_X7_needRoom l hlt D b0 cA ad mq q 1) (PO_k0) rfl gX7_approve_X7_needRoom rfl (by decide +kernel) rfl ⟨Nat.le_of_ble_eq_true rfl, Nat.le_of_ble_eq_true rfl⟩ ⟨Nat.le_of_ble_eq_true rfl, Nat.le_of_ble_eq_true rfl⟩ hK hW hS hKD hKX hz hl.1 rfl (Nat.le_of_ble_eq_true rfl) dX7_approve_22 (fun hne H locs ce q9 hW hS h1 h2 h3 => ox_out hxt hlk hK (by rw [m_X7_approve, if_pos c_1, if_pos c_2, if_pos c_3, if_pos c_5, if_neg hne]) hne hW hS h1 h2 h3 (Nat.le_of_ble_eq_true rfl) (Nat.le_of_ble_eq_true rfl)) (fun c_6 H locs hW hS => ?_)
  refine lv_aload_n hx hb dX7_approve_25 rfl (lv_at hl 0 rfl) ?_
  refine ow_get (v2 := .int (q.1 17 (Int32.toNatClampNeg li) 0)) (ci := 1) (C := RX2) (T := TX2) (N := 4) hx hb hts hin_X2 hown hK hW 17 (Int32.toNatClampNeg li) (PO_k17 (la_p hI c_1)) rfl 0 (by decide) (List.mem_of_getElem? (i := 3) rfl) rfl rfl rfl dX7_approve_26 ?_
  refine lv_iload_n hx hb dX7_approve_29 rfl (lv_at hl 3 rfl) ?_
  refine lv_icmp_eq (tgt := 41) hx hb dX7_approve_30 (by decide) (fun c_7 => ?_) (fun c_7 => ?_)
  · exact ox_throwS (cls := "java/lang/IllegalStateException") (text := "the officer drew the list up, or approved it already") hx hb hlt hown (hts _ (List.mem_of_getElem? (i := 1) rfl)) (hts _ (List.mem_of_getElem? (i := 2) rfl)) hat_3 (by decide +kernel) (by decide +kernel) hK hW hS hKX (by decide +kernel) (hl.1.trans hml.symm) hxt (by rw [m_X7_approve, if_pos c_1, if_pos c_2, if_pos c_3, if_pos c_5, if_pos c_6, if_pos c_7]; exact ⟨rfl, show ¬ (3 : Int32) = 0 by decide⟩) (Nat.le_of_ble_eq_true rfl) (Nat.le_of_ble_eq_true rfl) (Nat.le_of_ble_eq_true rfl) (Nat.le_of_ble_eq_true rfl) hlk (Nat.le_of_ble_eq_true rfl) (Nat.le_of_ble_eq_true rfl) dX7_approve_41 dX7_approve_44 dX7_approve_45 dX7_approve_47 dX7_approve_50
  · refine lv_aload_n hx hb dX7_approve_33 rfl (lv_at hl 0 rfl) ?_
    refine lv_iload_n hx hb dX7_approve_34 rfl (lv_at hl 3 rfl) ?_
    refine ow_callVi (C := RX2) (T := TX2) (N := 4) (ci := 1) (k := 17) (j := (Int32.toNatClampNeg li)) (n := 1) (As := [.int o]) (rest := []) (r := (m_X2_isApprovedBy q (Int32.toNatClampNeg li) o)) (z2 := q) ⟨hx, hb, hml, hown, hts⟩ (c_X2_isApprovedBy l D b0 cA ad mq q (Int32.toNatClampNeg li) o (la_p hI c_1)) (PO_k17 (la_p hI c_1)) rfl gX7_approve_X2_isApprovedBy rfl (by decide +kernel) rfl ⟨Nat.le_of_ble_eq_true rfl, Nat.le_of_ble_eq_true rfl⟩ ⟨Nat.le_of_ble_eq_true rfl, Nat.le_of_ble_eq_true rfl⟩ hK hW hS hKD hl.1 rfl (Nat.le_of_ble_eq_true rfl) dX7_approve_35 (fun H locs hW hS => ?_)
    refine lv_if_eq (tgt := 51) hx hb dX7_approve_38 (by decide) (fun c_8 => ?_) (fun c_8 => ?_)
    · refine lv_aload_n hx hb dX7_approve_51 rfl (lv_at hl 0 rfl) ?_
      refine lv_iload_n hx hb dX7_approve_52 rfl (lv_at hl 3 rfl) ?_
      refine ow_callVv (C := RX2) (T := TX2) (N := 4) (ci := 1) (k := 17) (j := (Int32.toNatClampNeg li)) (n := 1) (As := [.int o]) (rest := []) (z2 := (cq_i q 17 (Int32.toNatClampNeg li) 2 ((q.1 17 (Int32.toNatClampNeg li) 2) ||| ((1 : Int32) <<< (o &&& 31))))) ⟨hx, hb, hml, hown, hts⟩ (c_X2_addApproval l D b0 cA ad mq q (Int32.toNatClampNeg li) o (la_p hI c_1)) (PO_k17 (la_p hI c_1)) rfl gX7_approve_X2_addApproval rfl (by decide +kernel) rfl ⟨Nat.le_of_ble_eq_true rfl, Nat.le_of_ble_eq_true rfl⟩ ⟨Nat.le_of_ble_eq_true rfl, Nat.le_of_ble_eq_true rfl⟩ hK hW hS hKD hl.1 rfl (Nat.le_of_ble_eq_true rfl) dX7_approve_53 (fun H locs hW hS => ?_)
      refine lv_aload_n hx hb dX7_approve_56 rfl (lv_at hl 1 rfl) ?_
      refine ow_get (v2 := .ref (ad 7 0)) (ci := 6) (C := RX7) (T := TX7) (N := 11) hx hb hts hin_X7 hown hK hW 0 0 (PO_k0) rfl 6 (by decide) (List.mem_of_getElem? (i := 4) rfl) rfl rfl rfl dX7_approve_57 ?_
      refine lv_bipush (v := 9) hx hb dX7_approve_60 (by decide) ?_
      refine lv_iload_n hx hb dX7_approve_62 rfl (lv_at hl 2 rfl) ?_
      refine lv_iload_n hx hb dX7_approve_63 rfl (lv_at hl 3 rfl) ?_
      refine lv_iconst (v := 0) hx hb dX7_approve_64 (by decide) ?_
      refine lv_lconst (v := 0) hx hb dX7_approve_65 (by decide) ?_
      have h_9 : 0 ≤ ((cq_i q 17 (Int32.toNatClampNeg li) 2 ((q.1 17 (Int32.toNatClampNeg li) 2) ||| ((1 : Int32) <<< (o &&& 31)))).1 7 0 2).toInt ∧ ((cq_i q 17 (Int32.toNatClampNeg li) 2 ((q.1 17 (Int32.toNatClampNeg li) 2) ||| ((1 : Int32) <<< (o &&& 31)))).1 7 0 2).toInt ≤ 399 := by
        rw [show (cq_i q 17 (Int32.toNatClampNeg li) 2 ((q.1 17 (Int32.toNatClampNeg li) 2) ||| ((1 : Int32) <<< (o &&& 31)))).1 7 0 2 = (q.1 7 0 2) from (cq_ne (by decide))]
        have k_1 : (9 : Int32).toInt = 9 := rfl
        have u_2 := rg_e li
        have u_3 := rg_e o
        have k_4 : (0 : Int32).toInt = 0 := rfl
        have u_5 := rg_e (m_X7_listAt q li)
        have v_6 := cv_eq c_1
        have v_7 := lat_t c_1
        have u_8 := rg_e (m_X7_needOfficer o)
        have v_9 := cv_eq c_2
        have v_10 := nof_t c_2
        have u_11 := rg_e (m_X7_needOpen q (Int32.toNatClampNeg li))
        have v_12 := cv_eq c_3
        have u_13 := rg_e (m_X7_needRight q o 2)
        have v_14 := cv_eq c_5
        have u_15 := rg_e (m_X7_needRoom q 1)
        have v_16 := cv_eq c_6
        have k_17 : (1 : Int32).toInt = 1 := rfl
        have v_18 := nro_t hI c_6
        have u_19 := rg_e (q.1 17 (Int32.toNatClampNeg li) 0)
        have v_20 := cv_ne c_7
        have u_21 := rg_e (m_X2_isApprovedBy q (Int32.toNatClampNeg li) o)
        have v_22 := cv_eq c_8
        have w_23 := hI.2.2.2.2.2.2.2.2.2.2.1
        exact by omega
      refine ow_callVv (C := RX0) (T := TX0) (N := 3) (ci := 0) (k := 7) (j := 0) (n := 5) (As := [.int 9, .int li, .int o, .int 0, .long 0]) (rest := []) (z2 := (m_X0_write (cq_i q 17 (Int32.toNatClampNeg li) 2 ((q.1 17 (Int32.toNatClampNeg li) 2) ||| ((1 : Int32) <<< (o &&& 31)))) 9 li o 0 0)) ⟨hx, hb, hml, hown, hts⟩ (c_X0_write l D b0 cA ad mq (cq_i q 17 (Int32.toNatClampNeg li) 2 ((q.1 17 (Int32.toNatClampNeg li) 2) ||| ((1 : Int32) <<< (o &&& 31)))) 9 li o 0 0 h_9) (PO_k7) rfl gX7_approve_X0_write rfl (by decide +kernel) rfl ⟨Nat.le_of_ble_eq_true rfl, Nat.le_of_ble_eq_true rfl⟩ ⟨Nat.le_of_ble_eq_true rfl, Nat.le_of_ble_eq_true rfl⟩ hK hW hS hKD hl.1 rfl (Nat.le_of_ble_eq_true rfl) dX7_approve_66 (fun H locs hW hS => ?_)
      refine lv_aload_n hx hb dX7_approve_69 rfl (lv_at hl 0 rfl) ?_
      refine ow_callVi (C := RX2) (T := TX2) (N := 4) (ci := 1) (k := 17) (j := (Int32.toNatClampNeg li)) (n := 0) (As := []) (rest := []) (r := (m_X2_approvals (m_X0_write (cq_i q 17 (Int32.toNatClampNeg li) 2 ((q.1 17 (Int32.toNatClampNeg li) 2) ||| ((1 : Int32) <<< (o &&& 31)))) 9 li o 0 0) (Int32.toNatClampNeg li))) (z2 := (m_X0_write (cq_i q 17 (Int32.toNatClampNeg li) 2 ((q.1 17 (Int32.toNatClampNeg li) 2) ||| ((1 : Int32) <<< (o &&& 31)))) 9 li o 0 0)) ⟨hx, hb, hml, hown, hts⟩ (c_X2_approvals l D b0 cA ad mq (m_X0_write (cq_i q 17 (Int32.toNatClampNeg li) 2 ((q.1 17 (Int32.toNatClampNeg li) 2) ||| ((1 : Int32) <<< (o &&& 31)))) 9 li o 0 0) (Int32.toNatClampNeg li) (fun hq => (la_p hI c_1) (((wc_e (by decide) (fun h => absurd h.1 (by decide))).trans (cq_ne (by decide))).symm.trans hq))) (PO_k17 (fun hq => (la_p hI c_1) (((wc_e (by decide) (fun h => absurd h.1 (by decide))).trans (cq_ne (by decide))).symm.trans hq))) rfl gX7_approve_X2_approvals rfl (by decide +kernel) rfl ⟨Nat.le_of_ble_eq_true rfl, Nat.le_of_ble_eq_true rfl⟩ ⟨Nat.le_of_ble_eq_true rfl, Nat.le_of_ble_eq_true rfl⟩ hK hW hS hKD hl.1 rfl (Nat.le_of_ble_eq_true rfl) dX7_approve_70 (fun H locs hW hS => ?_)
      exact ox_iret hx hb hr hlk hK hW hS (Nat.le_of_ble_eq_true rfl) (Nat.le_of_ble_eq_true rfl) (by rw [m_X7_approve, if_pos c_1, if_pos c_2, if_pos c_3, if_pos c_5, if_pos c_6, if_neg c_7, if_pos c_8]) dX7_approve_73
    · exact ox_throwS (cls := "java/lang/IllegalStateException") (text := "the officer drew the list up, or approved it already") hx hb hlt hown (hts _ (List.mem_of_getElem? (i := 1) rfl)) (hts _ (List.mem_of_getElem? (i := 2) rfl)) hat_3 (by decide +kernel) (by decide +kernel) hK hW hS hKX (by decide +kernel) (hl.1.trans hml.symm) hxt (by rw [m_X7_approve, if_pos c_1, if_pos c_2, if_pos c_3, if_pos c_5, if_pos c_6, if_neg c_7, if_neg c_8]; exact ⟨rfl, show ¬ (3 : Int32) = 0 by decide⟩) (Nat.le_of_ble_eq_true rfl) (Nat.le_of_ble_eq_true rfl) (Nat.le_of_ble_eq_true rfl) (Nat.le_of_ble_eq_true rfl) hlk (Nat.le_of_ble_eq_true rfl) (Nat.le_of_ble_eq_true rfl) dX7_approve_41 dX7_approve_44 dX7_approve_45 dX7_approve_47 dX7_approve_50

def m_X7_strike (q : qC) (li : Int32) (r : Int32) : Int32 × Int32 × qC := (if (m_X7_listAt q li) = 0 then (if (m_X2_has q (Int32.toNatClampNeg li) r) = 0 then (1, 0, q) else (if (m_X7_needOpen q (Int32.toNatClampNeg li)) = 0 then (if (m_X7_needRoom q 1) = 0 then (0, (m_X2_size (m_X0_write (cq_l q 17 (Int32.toNatClampNeg li) 1 ((q.2 17 (Int32.toNatClampNeg li) 1) &&& (((1 <<< (Int32.toInt64 r &&& 63))) ^^^ (-1)))) 10 li r 0 0) (Int32.toNatClampNeg li)), (m_X0_write (cq_l q 17 (Int32.toNatClampNeg li) 1 ((q.2 17 (Int32.toNatClampNeg li) 1) &&& (((1 <<< (Int32.toInt64 r &&& 63))) ^^^ (-1)))) 10 li r 0 0)) else ((m_X7_needRoom q 1), 0, q)) else ((m_X7_needOpen q (Int32.toNatClampNeg li)), 0, q))) else ((m_X7_listAt q li), 0, q))
set_option maxHeartbeats 4000000 in
set_option maxRecDepth 100000 in
theorem c_X7_strike (l : Launch) (hlt : l.stackTraces = false) (D : va_G) (b0 : Nat) (cA : Nat → ClassId) (ad : Nat → Nat → Nat) (mq : qM) (q : qC) (li : Int32) (r : Int32) (hI : cI q) : xc_i l yX7_strike wsX7_strike 7 111 3 18 D b0 cA ad mq q [.ref (ad 0 0), .int li, .int r] (m_X7_strike q li r) := by
  refine xc_of (by decide) rfl (Nat.le_of_ble_eq_true rfl) ?_
  intro p e s m below meth c hx hb hml hr hlk hown hts hK hW hKD hKX hz hxt ls hl
  have hown : s.vm.findClass RX7 = some m.cls := hown
  have hS : va_S (wA b0) s.heap s.heap [] := va_S.rf
  have hl : lv_has ls 4 [(0, .ref (ad 0 0)), (1, .int li), (2, .int r)] := hl
  have hin_X7 : ∀ w ∈ wsX70, w ∈ wsX7_strike := fun w h => List.mem_cons_of_mem _ (List.mem_append_left _ (List.mem_append_left _ (List.mem_append_left _ (List.mem_append_left _ (List.mem_append_right _ h)))))
  have hin_X2 : ∀ w ∈ wsX20, w ∈ wsX7_strike := fun w h => List.mem_cons_of_mem _ (List.mem_append_left _ (List.mem_append_left _ (List.mem_append_left _ (List.mem_append_right _ h))))
  have hin_X0 : ∀ w ∈ wsX00, w ∈ wsX7_strike := fun w h => List.mem_cons_of_mem _ (List.mem_append_left _ (List.mem_append_left _ (List.mem_append_right _ h)))
  have hat_1 := xat_1 (fun w h => hts w (List.mem_cons_of_mem _ (List.mem_append_left _ (List.mem_append_right _ h)))) hKX
  refine lv_aload_n hx hb dX7_strike_0 rfl (lv_at hl 0 rfl) ?_
  refine lv_iload_n hx hb dX7_strike_1 rfl (lv_at hl 1 rfl) ?_
  refine ox_callVr (C := RX7) (T := TX7) (N := 11) (ci := 6) (k := 0) (j := 0) (n := 1) (As := [.int li]) (rest := []) (a := (ad 17 (Int32.toNatClampNeg li))) (k0 := (m_X7_listAt q li)) ⟨hx, hb, hml, hown, hts⟩ (c_X7_listAt l hlt D b0 cA ad mq q li hI) (PO_k0) rfl gX7_strike_X7_listAt rfl (by decide +kernel) rfl ⟨Nat.le_of_ble_eq_true rfl, Nat.le_of_ble_eq_true rfl⟩ ⟨Nat.le_of_ble_eq_true rfl, Nat.le_of_ble_eq_true rfl⟩ hK hW hS hKD hKX hz hl.1 rfl (Nat.le_of_ble_eq_true rfl) dX7_strike_2 (fun hne H locs ce q9 hW hS h1 h2 h3 => ox_out hxt hlk hK (by rw [m_X7_strike, if_neg hne]) hne hW hS h1 h2 h3 (Nat.le_of_ble_eq_true rfl) (Nat.le_of_ble_eq_true rfl)) (fun c_1 H locs hW hS => ?_)
  refine lv_astore_n (lv' := [(3, .ref (ad 17 (Int32.toNatClampNeg li))), (0, .ref (ad 0 0)), (1, .int li), (2, .int r)]) hx hb dX7_strike_5 rfl hl (by decide) rfl (fun ls hl => ?_)
  refine lv_aload_n hx hb dX7_strike_6 rfl (lv_at hl 0 rfl) ?_
  refine lv_iload_n hx hb dX7_strike_7 rfl (lv_at hl 3 rfl) ?_
  refine ow_callVi (C := RX2) (T := TX2) (N := 4) (ci := 1) (k := 17) (j := (Int32.toNatClampNeg li)) (n := 1) (As := [.int r]) (rest := []) (r := (m_X2_has q (Int32.toNatClampNeg li) r)) (z2 := q) ⟨hx, hb, hml, hown, hts⟩ (c_X2_has l D b0 cA ad mq q (Int32.toNatClampNeg li) r (la_p hI c_1)) (PO_k17 (la_p hI c_1)) rfl gX7_strike_X2_has rfl (by decide +kernel) rfl ⟨Nat.le_of_ble_eq_true rfl, Nat.le_of_ble_eq_true rfl⟩ ⟨Nat.le_of_ble_eq_true rfl, Nat.le_of_ble_eq_true rfl⟩ hK hW hS hKD hl.1 rfl (Nat.le_of_ble_eq_true rfl) dX7_strike_8 (fun H locs hW hS => ?_)
  refine lv_if_ne (tgt := 25) hx hb dX7_strike_11 (by decide) (fun c_2 => ?_) (fun c_2 => ?_)
  · refine lv_aload_n hx hb dX7_strike_25 rfl (lv_at hl 0 rfl) ?_
    refine ox_callSv (n := 1) (As := [.ref (ad 17 (Int32.toNatClampNeg li))]) (rest := []) (z2 := q) (k0 := (m_X7_needOpen q (Int32.toNatClampNeg li))) ⟨hx, hb, hml, hown, hts⟩ (c_X7_needOpen l hlt D b0 cA ad mq q (Int32.toNatClampNeg li) (la_p hI c_1)) gX7_strike_X7_needOpen rfl (by decide +kernel) rfl ⟨Nat.le_of_ble_eq_true rfl, Nat.le_of_ble_eq_true rfl⟩ ⟨Nat.le_of_ble_eq_true rfl, Nat.le_of_ble_eq_true rfl⟩ hK hW hS hKD hKX hz hl.1 rfl (Nat.le_of_ble_eq_true rfl) dX7_strike_26 (fun hne H locs ce q9 hW hS h1 h2 h3 => ox_out hxt hlk hK (by rw [m_X7_strike, if_pos c_1, if_neg c_2, if_neg hne]) hne hW hS h1 h2 h3 (Nat.le_of_ble_eq_true rfl) (Nat.le_of_ble_eq_true rfl)) (fun c_3 H locs hW hS => ?_)
    refine lv_aload_n hx hb dX7_strike_29 rfl (lv_at hl 1 rfl) ?_
    refine lv_iconst (v := 1) hx hb dX7_strike_30 (by decide) ?_
    refine ox_callVv (C := RX7) (T := TX7) (N := 11) (ci := 6) (k := 0) (j := 0) (n := 1) (As := [.int 1]) (rest := []) (z2 := q) (k0 := (m_X7_needRoom q 1)) ⟨hx, hb, hml, hown, hts⟩ (c_X7_needRoom l hlt D b0 cA ad mq q 1) (PO_k0) rfl gX7_strike_X7_needRoom rfl (by decide +kernel) rfl ⟨Nat.le_of_ble_eq_true rfl, Nat.le_of_ble_eq_true rfl⟩ ⟨Nat.le_of_ble_eq_true rfl, Nat.le_of_ble_eq_true rfl⟩ hK hW hS hKD hKX hz hl.1 rfl (Nat.le_of_ble_eq_true rfl) dX7_strike_31 (fun hne H locs ce q9 hW hS h1 h2 h3 => ox_out hxt hlk hK (by rw [m_X7_strike, if_pos c_1, if_neg c_2, if_pos c_3, if_neg hne]) hne hW hS h1 h2 h3 (Nat.le_of_ble_eq_true rfl) (Nat.le_of_ble_eq_true rfl)) (fun c_4 H locs hW hS => ?_)
    refine lv_aload_n hx hb dX7_strike_34 rfl (lv_at hl 0 rfl) ?_
    refine lv_iload_n hx hb dX7_strike_35 rfl (lv_at hl 3 rfl) ?_
    refine ow_callVv (C := RX2) (T := TX2) (N := 4) (ci := 1) (k := 17) (j := (Int32.toNatClampNeg li)) (n := 1) (As := [.int r]) (rest := []) (z2 := (cq_l q 17 (Int32.toNatClampNeg li) 1 ((q.2 17 (Int32.toNatClampNeg li) 1) &&& (((1 <<< (Int32.toInt64 r &&& 63))) ^^^ (-1))))) ⟨hx, hb, hml, hown, hts⟩ (c_X2_remove l D b0 cA ad mq q (Int32.toNatClampNeg li) r (la_p hI c_1)) (PO_k17 (la_p hI c_1)) rfl gX7_strike_X2_remove rfl (by decide +kernel) rfl ⟨Nat.le_of_ble_eq_true rfl, Nat.le_of_ble_eq_true rfl⟩ ⟨Nat.le_of_ble_eq_true rfl, Nat.le_of_ble_eq_true rfl⟩ hK hW hS hKD hl.1 rfl (Nat.le_of_ble_eq_true rfl) dX7_strike_36 (fun H locs hW hS => ?_)
    refine lv_aload_n hx hb dX7_strike_39 rfl (lv_at hl 1 rfl) ?_
    refine ow_get (v2 := .ref (ad 7 0)) (ci := 6) (C := RX7) (T := TX7) (N := 11) hx hb hts hin_X7 hown hK hW 0 0 (PO_k0) rfl 6 (by decide) (List.mem_of_getElem? (i := 3) rfl) rfl rfl rfl dX7_strike_40 ?_
    refine lv_bipush (v := 10) hx hb dX7_strike_43 (by decide) ?_
    refine lv_iload_n hx hb dX7_strike_45 rfl (lv_at hl 2 rfl) ?_
    refine lv_iload_n hx hb dX7_strike_46 rfl (lv_at hl 3 rfl) ?_
    refine lv_iconst (v := 0) hx hb dX7_strike_47 (by decide) ?_
    refine lv_lconst (v := 0) hx hb dX7_strike_48 (by decide) ?_
    have h_5 : 0 ≤ ((cq_l q 17 (Int32.toNatClampNeg li) 1 ((q.2 17 (Int32.toNatClampNeg li) 1) &&& (((1 <<< (Int32.toInt64 r &&& 63))) ^^^ (-1)))).1 7 0 2).toInt ∧ ((cq_l q 17 (Int32.toNatClampNeg li) 1 ((q.2 17 (Int32.toNatClampNeg li) 1) &&& (((1 <<< (Int32.toInt64 r &&& 63))) ^^^ (-1)))).1 7 0 2).toInt ≤ 399 := by
      rw [show (cq_l q 17 (Int32.toNatClampNeg li) 1 ((q.2 17 (Int32.toNatClampNeg li) 1) &&& (((1 <<< (Int32.toInt64 r &&& 63))) ^^^ (-1)))).1 7 0 2 = (q.1 7 0 2) from (cq_nel)]
      have k_1 : (10 : Int32).toInt = 10 := rfl
      have u_2 := rg_e li
      have u_3 := rg_e r
      have k_4 : (0 : Int32).toInt = 0 := rfl
      have u_5 := rg_e (m_X7_listAt q li)
      have v_6 := cv_eq c_1
      have v_7 := lat_t c_1
      have u_8 := rg_e (m_X2_has q (Int32.toNatClampNeg li) r)
      have v_9 := cv_ne c_2
      have u_10 := rg_e (m_X7_needOpen q (Int32.toNatClampNeg li))
      have v_11 := cv_eq c_3
      have u_12 := rg_e (m_X7_needRoom q 1)
      have v_13 := cv_eq c_4
      have k_14 : (1 : Int32).toInt = 1 := rfl
      have v_15 := nro_t hI c_4
      have w_16 := hI.2.2.2.2.2.2.2.2.2.2.1
      exact by omega
    refine ow_callVv (C := RX0) (T := TX0) (N := 3) (ci := 0) (k := 7) (j := 0) (n := 5) (As := [.int 10, .int li, .int r, .int 0, .long 0]) (rest := []) (z2 := (m_X0_write (cq_l q 17 (Int32.toNatClampNeg li) 1 ((q.2 17 (Int32.toNatClampNeg li) 1) &&& (((1 <<< (Int32.toInt64 r &&& 63))) ^^^ (-1)))) 10 li r 0 0)) ⟨hx, hb, hml, hown, hts⟩ (c_X0_write l D b0 cA ad mq (cq_l q 17 (Int32.toNatClampNeg li) 1 ((q.2 17 (Int32.toNatClampNeg li) 1) &&& (((1 <<< (Int32.toInt64 r &&& 63))) ^^^ (-1)))) 10 li r 0 0 h_5) (PO_k7) rfl gX7_strike_X0_write rfl (by decide +kernel) rfl ⟨Nat.le_of_ble_eq_true rfl, Nat.le_of_ble_eq_true rfl⟩ ⟨Nat.le_of_ble_eq_true rfl, Nat.le_of_ble_eq_true rfl⟩ hK hW hS hKD hl.1 rfl (Nat.le_of_ble_eq_true rfl) dX7_strike_49 (fun H locs hW hS => ?_)
    refine lv_aload_n hx hb dX7_strike_52 rfl (lv_at hl 0 rfl) ?_
    refine ow_callVi (C := RX2) (T := TX2) (N := 4) (ci := 1) (k := 17) (j := (Int32.toNatClampNeg li)) (n := 0) (As := []) (rest := []) (r := (m_X2_size (m_X0_write (cq_l q 17 (Int32.toNatClampNeg li) 1 ((q.2 17 (Int32.toNatClampNeg li) 1) &&& (((1 <<< (Int32.toInt64 r &&& 63))) ^^^ (-1)))) 10 li r 0 0) (Int32.toNatClampNeg li))) (z2 := (m_X0_write (cq_l q 17 (Int32.toNatClampNeg li) 1 ((q.2 17 (Int32.toNatClampNeg li) 1) &&& (((1 <<< (Int32.toInt64 r &&& 63))) ^^^ (-1)))) 10 li r 0 0)) ⟨hx, hb, hml, hown, hts⟩ (c_X2_size l D b0 cA ad mq (m_X0_write (cq_l q 17 (Int32.toNatClampNeg li) 1 ((q.2 17 (Int32.toNatClampNeg li) 1) &&& (((1 <<< (Int32.toInt64 r &&& 63))) ^^^ (-1)))) 10 li r 0 0) (Int32.toNatClampNeg li) (fun hq => (la_p hI c_1) (((wc_e (by decide) (fun h => absurd h.1 (by decide))).trans (cq_nel)).symm.trans hq))) (PO_k17 (fun hq => (la_p hI c_1) (((wc_e (by decide) (fun h => absurd h.1 (by decide))).trans (cq_nel)).symm.trans hq))) rfl gX7_strike_X2_size rfl (by decide +kernel) rfl ⟨Nat.le_of_ble_eq_true rfl, Nat.le_of_ble_eq_true rfl⟩ ⟨Nat.le_of_ble_eq_true rfl, Nat.le_of_ble_eq_true rfl⟩ hK hW hS hKD hl.1 rfl (Nat.le_of_ble_eq_true rfl) dX7_strike_53 (fun H locs hW hS => ?_)
    exact ox_iret hx hb hr hlk hK hW hS (Nat.le_of_ble_eq_true rfl) (Nat.le_of_ble_eq_true rfl) (by rw [m_X7_strike, if_pos c_1, if_neg c_2, if_pos c_3, if_pos c_4]) dX7_strike_56
  · exact ox_throwW (cls := "java/lang/IndexOutOfBoundsException") (text := "the record is not on the list") hx hb hlt hown (hts _ (List.mem_of_getElem? (i := 1) rfl)) (hts _ (List.mem_of_getElem? (i := 2) rfl)) hat_1 (by decide +kernel) (by decide +kernel) hK hW hS hKX (by decide +kernel) (hl.1.trans hml.symm) hxt (by rw [m_X7_strike, if_pos c_1, if_pos c_2]; exact ⟨rfl, show ¬ (1 : Int32) = 0 by decide⟩) (Nat.le_of_ble_eq_true rfl) (Nat.le_of_ble_eq_true rfl) (Nat.le_of_ble_eq_true rfl) (Nat.le_of_ble_eq_true rfl) hlk (Nat.le_of_ble_eq_true rfl) (Nat.le_of_ble_eq_true rfl) dX7_strike_14 dX7_strike_17 dX7_strike_18 dX7_strike_21 dX7_strike_24

def m_X7_act (q : qC) (i : Int32) (what : Int32) : Int32 × Int32 := (if (m_X7_needAct q i) = 0 then (if (m_X7_needNumberOfAct what) = 0 then (0, (m_X0_number q i what)) else ((m_X7_needNumberOfAct what), 0)) else ((m_X7_needAct q i), 0))
set_option maxHeartbeats 4000000 in
set_option maxRecDepth 100000 in
theorem c_X7_act (l : Launch) (hlt : l.stackTraces = false) (D : va_G) (b0 : Nat) (cA : Nat → ClassId) (ad : Nat → Nat → Nat) (mq : qM) (q : qC) (i : Int32) (what : Int32) (hI : cI q) : xc_i l yX7_act wsX7_act 7 111 2 12 D b0 cA ad mq q [.ref (ad 0 0), .int i, .int what] ((m_X7_act q i what).1, (m_X7_act q i what).2, q) := by
  refine xc_of (by decide) rfl (Nat.le_of_ble_eq_true rfl) ?_
  intro p e s m below meth c hx hb hml hr hlk hown hts hK hW hKD hKX hz hxt ls hl
  have hown : s.vm.findClass RX7 = some m.cls := hown
  have hS : va_S (wA b0) s.heap s.heap [] := va_S.rf
  have hl : lv_has ls 3 [(0, .ref (ad 0 0)), (1, .int i), (2, .int what)] := hl
  have hin_X7 : ∀ w ∈ wsX70, w ∈ wsX7_act := fun w h => List.mem_cons_of_mem _ (List.mem_append_left _ (List.mem_append_left _ (List.mem_append_left _ (List.mem_append_right _ h))))
  have hin_X0 : ∀ w ∈ wsX00, w ∈ wsX7_act := fun w h => List.mem_cons_of_mem _ (List.mem_append_left _ (List.mem_append_left _ (List.mem_append_right _ h)))
  refine lv_aload_n hx hb dX7_act_0 rfl (lv_at hl 0 rfl) ?_
  refine lv_iload_n hx hb dX7_act_1 rfl (lv_at hl 1 rfl) ?_
  refine ox_callVv (C := RX7) (T := TX7) (N := 11) (ci := 6) (k := 0) (j := 0) (n := 1) (As := [.int i]) (rest := []) (z2 := q) (k0 := (m_X7_needAct q i)) ⟨hx, hb, hml, hown, hts⟩ (c_X7_needAct l hlt D b0 cA ad mq q i hI) (PO_k0) rfl gX7_act_X7_needAct rfl (by decide +kernel) rfl ⟨Nat.le_of_ble_eq_true rfl, Nat.le_of_ble_eq_true rfl⟩ ⟨Nat.le_of_ble_eq_true rfl, Nat.le_of_ble_eq_true rfl⟩ hK hW hS hKD hKX hz hl.1 rfl (Nat.le_of_ble_eq_true rfl) dX7_act_2 (fun hne H locs ce q9 hW hS h1 h2 h3 => ox_out hxt hlk hK (by rw [m_X7_act, if_neg hne]) hne hW hS h1 h2 h3 (Nat.le_of_ble_eq_true rfl) (Nat.le_of_ble_eq_true rfl)) (fun c_1 H locs hW hS => ?_)
  refine lv_iload_n hx hb dX7_act_5 rfl (lv_at hl 2 rfl) ?_
  refine ox_callSv (n := 1) (As := [.int what]) (rest := []) (z2 := q) (k0 := (m_X7_needNumberOfAct what)) ⟨hx, hb, hml, hown, hts⟩ (c_X7_needNumberOfAct l hlt D b0 cA ad mq q what) gX7_act_X7_needNumberOfAct rfl (by decide +kernel) rfl ⟨Nat.le_of_ble_eq_true rfl, Nat.le_of_ble_eq_true rfl⟩ ⟨Nat.le_of_ble_eq_true rfl, Nat.le_of_ble_eq_true rfl⟩ hK hW hS hKD hKX hz hl.1 rfl (Nat.le_of_ble_eq_true rfl) dX7_act_6 (fun hne H locs ce q9 hW hS h1 h2 h3 => ox_out hxt hlk hK (by rw [m_X7_act, if_pos c_1, if_neg hne]) hne hW hS h1 h2 h3 (Nat.le_of_ble_eq_true rfl) (Nat.le_of_ble_eq_true rfl)) (fun c_2 H locs hW hS => ?_)
  refine lv_aload_n hx hb dX7_act_9 rfl (lv_at hl 0 rfl) ?_
  refine ow_get (v2 := .ref (ad 7 0)) (ci := 6) (C := RX7) (T := TX7) (N := 11) hx hb hts hin_X7 hown hK hW 0 0 (PO_k0) rfl 6 (by decide) (List.mem_of_getElem? (i := 1) rfl) rfl rfl rfl dX7_act_10 ?_
  refine lv_iload_n hx hb dX7_act_13 rfl (lv_at hl 1 rfl) ?_
  refine lv_iload_n hx hb dX7_act_14 rfl (lv_at hl 2 rfl) ?_
  have h_3 : 0 ≤ (i : Int32).toInt ∧ (i : Int32).toInt ≤ 399 := by
    have u_1 := rg_e i
    have u_2 := rg_e what
    have u_3 := rg_e (m_X7_needAct q i)
    have k_4 : (0 : Int32).toInt = 0 := rfl
    have v_5 := cv_eq c_1
    have v_6 := nac_t c_1
    have u_7 := rg_e (m_X7_needNumberOfAct what)
    have v_8 := cv_eq c_2
    have v_9 := nnu_t c_2
    have w_10 := hI.2.2.2.2.2.2.2.2.2.2.1
    exact by omega
  have h_4 : 0 ≤ (what : Int32).toInt ∧ (what : Int32).toInt ≤ 3 := by
    have u_1 := rg_e i
    have u_2 := rg_e what
    have u_3 := rg_e (m_X7_needAct q i)
    have k_4 : (0 : Int32).toInt = 0 := rfl
    have v_5 := cv_eq c_1
    have v_6 := nac_t c_1
    have u_7 := rg_e (m_X7_needNumberOfAct what)
    have v_8 := cv_eq c_2
    have v_9 := nnu_t c_2
    have w_10 := hI.2.2.2.2.2.2.2.2.2.2.1
    exact by omega
  refine ow_callVi (C := RX0) (T := TX0) (N := 3) (ci := 0) (k := 7) (j := 0) (n := 2) (As := [.int i, .int what]) (rest := []) (r := (m_X0_number q i what)) (z2 := q) ⟨hx, hb, hml, hown, hts⟩ (c_X0_number l D b0 cA ad mq q i what h_3 h_4) (PO_k7) rfl gX7_act_X0_number rfl (by decide +kernel) rfl ⟨Nat.le_of_ble_eq_true rfl, Nat.le_of_ble_eq_true rfl⟩ ⟨Nat.le_of_ble_eq_true rfl, Nat.le_of_ble_eq_true rfl⟩ hK hW hS hKD hl.1 rfl (Nat.le_of_ble_eq_true rfl) dX7_act_15 (fun H locs hW hS => ?_)
  exact ox_iret hx hb hr hlk hK hW hS (Nat.le_of_ble_eq_true rfl) (Nat.le_of_ble_eq_true rfl) (by rw [m_X7_act, if_pos c_1, if_pos c_2]) dX7_act_18

def m_X7_link (q : qC) (i : Int32) : Int32 × Int64 := (if (m_X7_needAct q i) = 0 then (0, (q.2 9 0 (Int32.toNatClampNeg i))) else ((m_X7_needAct q i), 0))
set_option maxHeartbeats 4000000 in
set_option maxRecDepth 100000 in
theorem c_X7_link (l : Launch) (hlt : l.stackTraces = false) (D : va_G) (b0 : Nat) (cA : Nat → ClassId) (ad : Nat → Nat → Nat) (mq : qM) (q : qC) (i : Int32) (hI : cI q) : xc_l l yX7_link wsX7_link 7 111 1 6 D b0 cA ad mq q [.ref (ad 0 0), .int i] ((m_X7_link q i).1, (m_X7_link q i).2, q) := by
  refine xc_of (by decide) rfl (Nat.le_of_ble_eq_true rfl) ?_
  intro p e s m below meth c hx hb hml hr hlk hown hts hK hW hKD hKX hz hxt ls hl
  have hown : s.vm.findClass RX7 = some m.cls := hown
  have hS : va_S (wA b0) s.heap s.heap [] := va_S.rf
  have hl : lv_has ls 2 [(0, .ref (ad 0 0)), (1, .int i)] := hl
  have hin_X7 : ∀ w ∈ wsX70, w ∈ wsX7_link := fun w h => List.mem_cons_of_mem _ (List.mem_append_left _ (List.mem_append_left _ (List.mem_append_right _ h)))
  have hin_X0 : ∀ w ∈ wsX00, w ∈ wsX7_link := fun w h => List.mem_cons_of_mem _ (List.mem_append_left _ (List.mem_append_right _ h))
  refine lv_aload_n hx hb dX7_link_0 rfl (lv_at hl 0 rfl) ?_
  refine lv_iload_n hx hb dX7_link_1 rfl (lv_at hl 1 rfl) ?_
  refine ox_callVv (C := RX7) (T := TX7) (N := 11) (ci := 6) (k := 0) (j := 0) (n := 1) (As := [.int i]) (rest := []) (z2 := q) (k0 := (m_X7_needAct q i)) ⟨hx, hb, hml, hown, hts⟩ (c_X7_needAct l hlt D b0 cA ad mq q i hI) (PO_k0) rfl gX7_link_X7_needAct rfl (by decide +kernel) rfl ⟨Nat.le_of_ble_eq_true rfl, Nat.le_of_ble_eq_true rfl⟩ ⟨Nat.le_of_ble_eq_true rfl, Nat.le_of_ble_eq_true rfl⟩ hK hW hS hKD hKX hz hl.1 rfl (Nat.le_of_ble_eq_true rfl) dX7_link_2 (fun hne H locs ce q9 hW hS h1 h2 h3 => ox_out hxt hlk hK (by rw [m_X7_link, if_neg hne]) hne hW hS h1 h2 h3 (Nat.le_of_ble_eq_true rfl) (Nat.le_of_ble_eq_true rfl)) (fun c_1 H locs hW hS => ?_)
  refine lv_aload_n hx hb dX7_link_5 rfl (lv_at hl 0 rfl) ?_
  refine ow_get (v2 := .ref (ad 7 0)) (ci := 6) (C := RX7) (T := TX7) (N := 11) hx hb hts hin_X7 hown hK hW 0 0 (PO_k0) rfl 6 (by decide) (List.mem_of_getElem? (i := 1) rfl) rfl rfl rfl dX7_link_6 ?_
  refine ow_get (v2 := .ref (ad 9 0)) (ci := 0) (C := RX0) (T := TX0) (N := 3) hx hb hts hin_X0 hown hK hW 7 0 (PO_k7) rfl 1 (by decide) (List.mem_of_getElem? (i := 2) rfl) rfl rfl rfl dX7_link_9 ?_
  refine lv_iload_n hx hb dX7_link_12 rfl (lv_at hl 1 rfl) ?_
  have b_2 : vp_in i 400 := by
    have u_1 := rg_e i
    have u_2 := rg_e (m_X7_needAct q i)
    have k_3 : (0 : Int32).toInt = 0 := rfl
    have v_4 := cv_eq c_1
    have v_5 := nac_t c_1
    have w_6 := hI.2.2.2.2.2.2.2.2.2.2.1
    exact vp_in_iff.mpr (by omega)
  refine ow_lald (v := (q.2 9 0 (Int32.toNatClampNeg i))) hx hb hK hW 9 0 (PO_k9) b_2 (rfl) dX7_link_13 ?_
  exact ox_lret hx hb hr hlk hK hW hS (Nat.le_of_ble_eq_true rfl) (Nat.le_of_ble_eq_true rfl) (by rw [m_X7_link, if_pos c_1]) dX7_link_14

def m_X7_spoil (q : qC) (i : Int32) (what : Int32) (v : Int32) : Int32 × qC := (if (m_X7_needAct q i) = 0 then (if (m_X7_needNumberOfAct what) = 0 then (0, (cq_i q 8 0 (Int32.toNatClampNeg ((4 * i) + what)) v)) else ((m_X7_needNumberOfAct what), q)) else ((m_X7_needAct q i), q))
set_option maxHeartbeats 4000000 in
set_option maxRecDepth 100000 in
theorem c_X7_spoil (l : Launch) (hlt : l.stackTraces = false) (D : va_G) (b0 : Nat) (cA : Nat → ClassId) (ad : Nat → Nat → Nat) (mq : qM) (q : qC) (i : Int32) (what : Int32) (v : Int32) (hI : cI q) : xc_v l yX7_spoil wsX7_spoil 7 111 2 12 D b0 cA ad mq q [.ref (ad 0 0), .int i, .int what, .int v] (m_X7_spoil q i what v) := by
  refine xc_of (by decide) rfl (Nat.le_of_ble_eq_true rfl) ?_
  intro p e s m below meth c hx hb hml hr hlk hown hts hK hW hKD hKX hz hxt ls hl
  have hown : s.vm.findClass RX7 = some m.cls := hown
  have hS : va_S (wA b0) s.heap s.heap [] := va_S.rf
  have hl : lv_has ls 4 [(0, .ref (ad 0 0)), (1, .int i), (2, .int what), (3, .int v)] := hl
  have hin_X7 : ∀ w ∈ wsX70, w ∈ wsX7_spoil := fun w h => List.mem_cons_of_mem _ (List.mem_append_left _ (List.mem_append_left _ (List.mem_append_left _ (List.mem_append_right _ h))))
  have hin_X0 : ∀ w ∈ wsX00, w ∈ wsX7_spoil := fun w h => List.mem_cons_of_mem _ (List.mem_append_left _ (List.mem_append_left _ (List.mem_append_right _ h)))
  refine lv_aload_n hx hb dX7_spoil_0 rfl (lv_at hl 0 rfl) ?_
  refine lv_iload_n hx hb dX7_spoil_1 rfl (lv_at hl 1 rfl) ?_
  refine ox_callVv (C := RX7) (T := TX7) (N := 11) (ci := 6) (k := 0) (j := 0) (n := 1) (As := [.int i]) (rest := []) (z2 := q) (k0 := (m_X7_needAct q i)) ⟨hx, hb, hml, hown, hts⟩ (c_X7_needAct l hlt D b0 cA ad mq q i hI) (PO_k0) rfl gX7_spoil_X7_needAct rfl (by decide +kernel) rfl ⟨Nat.le_of_ble_eq_true rfl, Nat.le_of_ble_eq_true rfl⟩ ⟨Nat.le_of_ble_eq_true rfl, Nat.le_of_ble_eq_true rfl⟩ hK hW hS hKD hKX hz hl.1 rfl (Nat.le_of_ble_eq_true rfl) dX7_spoil_2 (fun hne H locs ce q9 hW hS h1 h2 h3 => ox_out hxt hlk hK (by rw [m_X7_spoil, if_neg hne]) hne hW hS h1 h2 h3 (Nat.le_of_ble_eq_true rfl) (Nat.le_of_ble_eq_true rfl)) (fun c_1 H locs hW hS => ?_)
  refine lv_iload_n hx hb dX7_spoil_5 rfl (lv_at hl 2 rfl) ?_
  refine ox_callSv (n := 1) (As := [.int what]) (rest := []) (z2 := q) (k0 := (m_X7_needNumberOfAct what)) ⟨hx, hb, hml, hown, hts⟩ (c_X7_needNumberOfAct l hlt D b0 cA ad mq q what) gX7_spoil_X7_needNumberOfAct rfl (by decide +kernel) rfl ⟨Nat.le_of_ble_eq_true rfl, Nat.le_of_ble_eq_true rfl⟩ ⟨Nat.le_of_ble_eq_true rfl, Nat.le_of_ble_eq_true rfl⟩ hK hW hS hKD hKX hz hl.1 rfl (Nat.le_of_ble_eq_true rfl) dX7_spoil_6 (fun hne H locs ce q9 hW hS h1 h2 h3 => ox_out hxt hlk hK (by rw [m_X7_spoil, if_pos c_1, if_neg hne]) hne hW hS h1 h2 h3 (Nat.le_of_ble_eq_true rfl) (Nat.le_of_ble_eq_true rfl)) (fun c_2 H locs hW hS => ?_)
  refine lv_aload_n hx hb dX7_spoil_9 rfl (lv_at hl 0 rfl) ?_
  refine ow_get (v2 := .ref (ad 7 0)) (ci := 6) (C := RX7) (T := TX7) (N := 11) hx hb hts hin_X7 hown hK hW 0 0 (PO_k0) rfl 6 (by decide) (List.mem_of_getElem? (i := 1) rfl) rfl rfl rfl dX7_spoil_10 ?_
  refine lv_iload_n hx hb dX7_spoil_13 rfl (lv_at hl 1 rfl) ?_
  refine lv_iload_n hx hb dX7_spoil_14 rfl (lv_at hl 2 rfl) ?_
  refine lv_iload_n hx hb dX7_spoil_15 rfl (lv_at hl 3 rfl) ?_
  have h_3 : 0 ≤ (i : Int32).toInt ∧ (i : Int32).toInt ≤ 399 := by
    have u_1 := rg_e i
    have u_2 := rg_e what
    have u_3 := rg_e v
    have u_4 := rg_e (m_X7_needAct q i)
    have k_5 : (0 : Int32).toInt = 0 := rfl
    have v_6 := cv_eq c_1
    have v_7 := nac_t c_1
    have u_8 := rg_e (m_X7_needNumberOfAct what)
    have v_9 := cv_eq c_2
    have v_10 := nnu_t c_2
    have w_11 := hI.2.2.2.2.2.2.2.2.2.2.1
    exact by omega
  have h_4 : 0 ≤ (what : Int32).toInt ∧ (what : Int32).toInt ≤ 3 := by
    have u_1 := rg_e i
    have u_2 := rg_e what
    have u_3 := rg_e v
    have u_4 := rg_e (m_X7_needAct q i)
    have k_5 : (0 : Int32).toInt = 0 := rfl
    have v_6 := cv_eq c_1
    have v_7 := nac_t c_1
    have u_8 := rg_e (m_X7_needNumberOfAct what)
    have v_9 := cv_eq c_2
    have v_10 := nnu_t c_2
    have w_11 := hI.2.2.2.2.2.2.2.2.2.2.1
    exact by omega
  refine ow_callVv (C := RX0) (T := TX0) (N := 3) (ci := 0) (k := 7) (j := 0) (n := 3) (As := [.int i, .int what, .int v]) (rest := []) (z2 := (cq_i q 8 0 (Int32.toNatClampNeg ((4 * i) + what)) v)) ⟨hx, hb, hml, hown, hts⟩ (c_X0_setNumber l D b0 cA ad mq q i what v h_3 h_4) (PO_k7) rfl gX7_spoil_X0_setNumber rfl (by decide +kernel) rfl ⟨Nat.le_of_ble_eq_true rfl, Nat.le_of_ble_eq_true rfl⟩ ⟨Nat.le_of_ble_eq_true rfl, Nat.le_of_ble_eq_true rfl⟩ hK hW hS hKD hl.1 rfl (Nat.le_of_ble_eq_true rfl) dX7_spoil_16 (fun H locs hW hS => ?_)
  exact ox_vret hx hb hr hlk hK hW hS (Nat.le_of_ble_eq_true rfl) (Nat.le_of_ble_eq_true rfl) (by rw [m_X7_spoil, if_pos c_1, if_pos c_2]) dX7_spoil_19

def m_X7_later (day : Int32) (yr : Int32) (mo : Int32) : Int32 × Int32 := (if (m_X7_needDay day) = 0 then (if (m_X7_needTerm yr mo) = 0 then (0, (m_X1_plus day ((yr * 12) + mo))) else ((m_X7_needTerm yr mo), 0)) else ((m_X7_needDay day), 0))
set_option maxHeartbeats 4000000 in
set_option maxRecDepth 100000 in
theorem c_X7_later (l : Launch) (hlt : l.stackTraces = false) (D : va_G) (b0 : Nat) (cA : Nat → ClassId) (ad : Nat → Nat → Nat) (mq : qM) (q : qC) (day : Int32) (yr : Int32) (mo : Int32) : xc_i l yX7_later wsX7_later 7 111 2 12 D b0 cA ad mq q [.ref (ad 0 0), .int day, .int yr, .int mo] ((m_X7_later day yr mo).1, (m_X7_later day yr mo).2, q) := by
  refine xc_of (by decide) rfl (Nat.le_of_ble_eq_true rfl) ?_
  intro p e s m below meth c hx hb hml hr hlk hown hts hK hW hKD hKX hz hxt ls hl
  have hown : s.vm.findClass RX7 = some m.cls := hown
  have hS : va_S (wA b0) s.heap s.heap [] := va_S.rf
  have hl : lv_has ls 4 [(0, .ref (ad 0 0)), (1, .int day), (2, .int yr), (3, .int mo)] := hl
  refine lv_iload_n hx hb dX7_later_0 rfl (lv_at hl 1 rfl) ?_
  refine ox_callSv (n := 1) (As := [.int day]) (rest := []) (z2 := q) (k0 := (m_X7_needDay day)) ⟨hx, hb, hml, hown, hts⟩ (c_X7_needDay l hlt D b0 cA ad mq q day) gX7_later_X7_needDay rfl (by decide +kernel) rfl ⟨Nat.le_of_ble_eq_true rfl, Nat.le_of_ble_eq_true rfl⟩ ⟨Nat.le_of_ble_eq_true rfl, Nat.le_of_ble_eq_true rfl⟩ hK hW hS hKD hKX hz hl.1 rfl (Nat.le_of_ble_eq_true rfl) dX7_later_1 (fun hne H locs ce q9 hW hS h1 h2 h3 => ox_out hxt hlk hK (by rw [m_X7_later, if_neg hne]) hne hW hS h1 h2 h3 (Nat.le_of_ble_eq_true rfl) (Nat.le_of_ble_eq_true rfl)) (fun c_1 H locs hW hS => ?_)
  refine lv_iload_n hx hb dX7_later_4 rfl (lv_at hl 2 rfl) ?_
  refine lv_iload_n hx hb dX7_later_5 rfl (lv_at hl 3 rfl) ?_
  refine ox_callSv (n := 2) (As := [.int yr, .int mo]) (rest := []) (z2 := q) (k0 := (m_X7_needTerm yr mo)) ⟨hx, hb, hml, hown, hts⟩ (c_X7_needTerm l hlt D b0 cA ad mq q yr mo) gX7_later_X7_needTerm rfl (by decide +kernel) rfl ⟨Nat.le_of_ble_eq_true rfl, Nat.le_of_ble_eq_true rfl⟩ ⟨Nat.le_of_ble_eq_true rfl, Nat.le_of_ble_eq_true rfl⟩ hK hW hS hKD hKX hz hl.1 rfl (Nat.le_of_ble_eq_true rfl) dX7_later_6 (fun hne H locs ce q9 hW hS h1 h2 h3 => ox_out hxt hlk hK (by rw [m_X7_later, if_pos c_1, if_neg hne]) hne hW hS h1 h2 h3 (Nat.le_of_ble_eq_true rfl) (Nat.le_of_ble_eq_true rfl)) (fun c_2 H locs hW hS => ?_)
  refine lv_iload_n hx hb dX7_later_9 rfl (lv_at hl 1 rfl) ?_
  refine lv_iload_n hx hb dX7_later_10 rfl (lv_at hl 2 rfl) ?_
  refine lv_bipush (v := 12) hx hb dX7_later_11 (by decide) ?_
  refine lv_imul hx hb dX7_later_13 ?_
  refine lv_iload_n hx hb dX7_later_14 rfl (lv_at hl 3 rfl) ?_
  refine lv_iadd hx hb dX7_later_15 ?_
  have h_3 : 0 ≤ (day : Int32).toInt ∧ (day : Int32).toInt ≤ 200000 := by
    have u_1 := rg_e day
    have u_2 := rg_e yr
    have k_3 : (12 : Int32).toInt = 12 := rfl
    have u_5 := rg_e mo
    have u_7 := rg_e (m_X7_needDay day)
    have k_8 : (0 : Int32).toInt = 0 := rfl
    have v_9 := cv_eq c_1
    have v_10 := nda_t c_1
    have u_11 := rg_e (m_X7_needTerm yr mo)
    have v_12 := cv_eq c_2
    have v_13 := nte_t c_2
    have u_4 := mr_o 12 yr 12 rfl
    have u_6 := ad_o (yr * 12) mo
    exact by omega
  have h_4 : 0 ≤ (((yr * 12) + mo) : Int32).toInt ∧ (((yr * 12) + mo) : Int32).toInt ≤ 2000 := by
    have u_1 := rg_e day
    have u_2 := rg_e yr
    have k_3 : (12 : Int32).toInt = 12 := rfl
    have u_5 := rg_e mo
    have u_7 := rg_e (m_X7_needDay day)
    have k_8 : (0 : Int32).toInt = 0 := rfl
    have v_9 := cv_eq c_1
    have v_10 := nda_t c_1
    have u_11 := rg_e (m_X7_needTerm yr mo)
    have v_12 := cv_eq c_2
    have v_13 := nte_t c_2
    have u_4 := mr_o 12 yr 12 rfl
    have u_6 := ad_o (yr * 12) mo
    exact by omega
  refine ow_callSi (n := 2) (As := [.int day, .int ((yr * 12) + mo)]) (rest := []) (r := (m_X1_plus day ((yr * 12) + mo))) (z2 := q) ⟨hx, hb, hml, hown, hts⟩ (c_X1_plus l D b0 cA ad mq q day ((yr * 12) + mo) h_3 h_4) gX7_later_X1_plus rfl (by decide +kernel) rfl ⟨Nat.le_of_ble_eq_true rfl, Nat.le_of_ble_eq_true rfl⟩ ⟨Nat.le_of_ble_eq_true rfl, Nat.le_of_ble_eq_true rfl⟩ hK hW hS hKD hl.1 rfl (Nat.le_of_ble_eq_true rfl) dX7_later_16 (fun H locs hW hS => ?_)
  exact ox_iret hx hb hr hlk hK hW hS (Nat.le_of_ble_eq_true rfl) (Nat.le_of_ble_eq_true rfl) (by rw [m_X7_later, if_pos c_1, if_pos c_2]) dX7_later_19

def m_X7_count (q : qC) (what : Int32) : Int32 × Int32 := (if what = 0 then (0, (q.1 0 0 7)) else (if what = 1 then (0, (q.1 0 0 8)) else (if what = 2 then (0, (q.1 7 0 2)) else (if what = 3 then (0, (q.1 0 0 9)) else (if what = 4 then (0, (m_X7_bytesKept q)) else (2, 0))))))
set_option maxHeartbeats 4000000 in
set_option maxRecDepth 100000 in
theorem c_X7_count (l : Launch) (hlt : l.stackTraces = false) (D : va_G) (b0 : Nat) (cA : Nat → ClassId) (ad : Nat → Nat → Nat) (mq : qM) (q : qC) (what : Int32) (hI : cI q) : xc_i l yX7_count wsX7_count 6 90 1 6 D b0 cA ad mq q [.ref (ad 0 0), .int what] ((m_X7_count q what).1, (m_X7_count q what).2, q) := by
  refine xc_of (by decide) rfl (Nat.le_of_ble_eq_true rfl) ?_
  intro p e s m below meth c hx hb hml hr hlk hown hts hK hW hKD hKX hz hxt ls hl
  have hown : s.vm.findClass RX7 = some m.cls := hown
  have hS : va_S (wA b0) s.heap s.heap [] := va_S.rf
  have hl : lv_has ls 2 [(0, .ref (ad 0 0)), (1, .int what)] := hl
  have hin_X7 : ∀ w ∈ wsX70, w ∈ wsX7_count := fun w h => List.mem_cons_of_mem _ (List.mem_append_left _ (List.mem_append_left _ (List.mem_append_left _ (List.mem_append_right _ h))))
  have hin_X0 : ∀ w ∈ wsX00, w ∈ wsX7_count := fun w h => List.mem_cons_of_mem _ (List.mem_append_left _ (List.mem_append_left _ (List.mem_append_right _ h)))
  have hin_X3 : ∀ w ∈ wsX30, w ∈ wsX7_count := fun w h => List.mem_cons_of_mem _ (List.mem_append_left _ (List.mem_append_right _ h))
  have hat_2 := xat_2 (fun w h => hts w (List.mem_cons_of_mem _ (List.mem_append_right _ h))) hKX
  refine lv_iload_n hx hb dX7_count_0 rfl (lv_at hl 1 rfl) ?_
  by_cases c_1 : what = 0
  · refine lv_tableIn (tgt := 36) (off := 35) hx hb dX7_count_1 (by rw [c_1]; decide) (by rw [c_1]; decide) (by rw [c_1]; decide) (by decide) ?_
    refine lv_aload_n hx hb dX7_count_36 rfl (lv_at hl 0 rfl) ?_
    refine ow_get (v2 := .int (q.1 0 0 7)) (ci := 6) (C := RX7) (T := TX7) (N := 11) hx hb hts hin_X7 hown hK hW 0 0 (PO_k0) rfl 7 (by decide) (List.mem_of_getElem? (i := 3) rfl) rfl rfl rfl dX7_count_37 ?_
    exact ox_iret hx hb hr hlk hK hW hS (Nat.le_of_ble_eq_true rfl) (Nat.le_of_ble_eq_true rfl) (by rw [m_X7_count, if_pos c_1]) dX7_count_40
  · by_cases c_2 : what = 1
    · refine lv_tableIn (tgt := 41) (off := 40) hx hb dX7_count_1 (by rw [c_2]; decide) (by rw [c_2]; decide) (by rw [c_2]; decide) (by decide) ?_
      refine lv_aload_n hx hb dX7_count_41 rfl (lv_at hl 0 rfl) ?_
      refine ow_get (v2 := .int (q.1 0 0 8)) (ci := 6) (C := RX7) (T := TX7) (N := 11) hx hb hts hin_X7 hown hK hW 0 0 (PO_k0) rfl 8 (by decide) (List.mem_of_getElem? (i := 4) rfl) rfl rfl rfl dX7_count_42 ?_
      exact ox_iret hx hb hr hlk hK hW hS (Nat.le_of_ble_eq_true rfl) (Nat.le_of_ble_eq_true rfl) (by rw [m_X7_count, if_neg c_1, if_pos c_2]) dX7_count_45
    · by_cases c_3 : what = 2
      · refine lv_tableIn (tgt := 46) (off := 45) hx hb dX7_count_1 (by rw [c_3]; decide) (by rw [c_3]; decide) (by rw [c_3]; decide) (by decide) ?_
        refine lv_aload_n hx hb dX7_count_46 rfl (lv_at hl 0 rfl) ?_
        refine ow_get (v2 := .ref (ad 7 0)) (ci := 6) (C := RX7) (T := TX7) (N := 11) hx hb hts hin_X7 hown hK hW 0 0 (PO_k0) rfl 6 (by decide) (List.mem_of_getElem? (i := 5) rfl) rfl rfl rfl dX7_count_47 ?_
        refine ow_get (v2 := .int (q.1 7 0 2)) (ci := 0) (C := RX0) (T := TX0) (N := 3) hx hb hts hin_X0 hown hK hW 7 0 (PO_k7) rfl 2 (by decide) (List.mem_of_getElem? (i := 6) rfl) rfl rfl rfl dX7_count_50 ?_
        exact ox_iret hx hb hr hlk hK hW hS (Nat.le_of_ble_eq_true rfl) (Nat.le_of_ble_eq_true rfl) (by rw [m_X7_count, if_neg c_1, if_neg c_2, if_pos c_3]) dX7_count_53
      · by_cases c_4 : what = 3
        · refine lv_tableIn (tgt := 54) (off := 53) hx hb dX7_count_1 (by rw [c_4]; decide) (by rw [c_4]; decide) (by rw [c_4]; decide) (by decide) ?_
          refine lv_aload_n hx hb dX7_count_54 rfl (lv_at hl 0 rfl) ?_
          refine ow_get (v2 := .int (q.1 0 0 9)) (ci := 6) (C := RX7) (T := TX7) (N := 11) hx hb hts hin_X7 hown hK hW 0 0 (PO_k0) rfl 9 (by decide) (List.mem_of_getElem? (i := 7) rfl) rfl rfl rfl dX7_count_55 ?_
          exact ox_iret hx hb hr hlk hK hW hS (Nat.le_of_ble_eq_true rfl) (Nat.le_of_ble_eq_true rfl) (by rw [m_X7_count, if_neg c_1, if_neg c_2, if_neg c_3, if_pos c_4]) dX7_count_58
        · by_cases c_5 : what = 4
          · refine lv_tableIn (tgt := 59) (off := 58) hx hb dX7_count_1 (by rw [c_5]; decide) (by rw [c_5]; decide) (by rw [c_5]; decide) (by decide) ?_
            refine lv_aload_n hx hb dX7_count_59 rfl (lv_at hl 0 rfl) ?_
            refine ow_callVi (C := RX7) (T := TX7) (N := 11) (ci := 6) (k := 0) (j := 0) (n := 0) (As := []) (rest := []) (r := (m_X7_bytesKept q)) (z2 := q) ⟨hx, hb, hml, hown, hts⟩ (c_X7_bytesKept l D b0 cA ad mq q hI) (PO_k0) rfl gX7_count_X7_bytesKept rfl (by decide +kernel) rfl ⟨Nat.le_of_ble_eq_true rfl, Nat.le_of_ble_eq_true rfl⟩ ⟨Nat.le_of_ble_eq_true rfl, Nat.le_of_ble_eq_true rfl⟩ hK hW hS hKD hl.1 rfl (Nat.le_of_ble_eq_true rfl) dX7_count_60 (fun H locs hW hS => ?_)
            exact ox_iret hx hb hr hlk hK hW hS (Nat.le_of_ble_eq_true rfl) (Nat.le_of_ble_eq_true rfl) (by rw [m_X7_count, if_neg c_1, if_neg c_2, if_neg c_3, if_neg c_4, if_pos c_5]) dX7_count_63
          · refine lv_tableOut (tgt := 64) hx hb dX7_count_1 (by have k_0 : (0 : Int32).toInt = 0 := rfl; have k_1 : (1 : Int32).toInt = 1 := rfl; have k_2 : (2 : Int32).toInt = 2 := rfl; have k_3 : (3 : Int32).toInt = 3 := rfl; have k_4 : (4 : Int32).toInt = 4 := rfl; have n_0 := cv_ne c_1; have n_1 := cv_ne c_2; have n_2 := cv_ne c_3; have n_3 := cv_ne c_4; have n_4 := cv_ne c_5; omega) (by decide) ?_
            exact ox_throwW (cls := "java/lang/IllegalArgumentException") (text := "nothing such is counted") hx hb hlt hown (hts _ (List.mem_of_getElem? (i := 1) rfl)) (hts _ (List.mem_of_getElem? (i := 2) rfl)) hat_2 (by decide +kernel) (by decide +kernel) hK hW hS hKX (by decide +kernel) (hl.1.trans hml.symm) hxt (by rw [m_X7_count, if_neg c_1, if_neg c_2, if_neg c_3, if_neg c_4, if_neg c_5]; exact ⟨rfl, show ¬ (2 : Int32) = 0 by decide⟩) (Nat.le_of_ble_eq_true rfl) (Nat.le_of_ble_eq_true rfl) (Nat.le_of_ble_eq_true rfl) (Nat.le_of_ble_eq_true rfl) hlk (Nat.le_of_ble_eq_true rfl) (Nat.le_of_ble_eq_true rfl) dX7_count_64 dX7_count_67 dX7_count_68 dX7_count_71 dX7_count_74
