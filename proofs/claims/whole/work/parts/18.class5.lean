/-! laid by wip/whole/tools/class5.py -/
theorem cq_nx {c : qC} {k j i a b x : Nat} {v : Int32} (h : ¬ (a = k ∧ x = i)) : (cq_i c k j i v).1 a b x = c.1 a b x := by
  by_cases h1 : a = k
  · exact cq_ni (fun q => h ⟨h1, q⟩)
  · exact cq_ne h1
def cf (k i : Nat) : Bool := k == 5 || k == 3 || k == 6 || k == 12 || (k == 16 && (i == 0 || i == 6)) || (k == 14 && (i == 1 || i == 2 || i == 3)) || (k == 10 && i == 4) || (k == 0 && (i == 7 || i == 8 || i == 10)) || (k == 7 && i == 2)
theorem cI_i {q : qC} {k j i : Nat} {v : Int32} (h : cf k i = false) (hI : cI q) : cI (cq_i q k j i v) := by
  have ne : ∀ a x, cf a x = true → ¬ (a = k ∧ x = i) := fun a x hc hq => by rw [hq.1, hq.2, h] at hc; cases hc
  have e5 : ∀ r, (cq_i q k j i v).1 5 0 r = q.1 5 0 r := fun r => cq_nx (ne 5 r rfl)
  have e3 : ∀ r, (cq_i q k j i v).1 3 0 r = q.1 3 0 r := fun r => cq_nx (ne 3 r rfl)
  have e6 : ∀ r, (cq_i q k j i v).1 6 0 r = q.1 6 0 r := fun r => cq_nx (ne 6 r rfl)
  have e12 : ∀ a r, (cq_i q k j i v).1 12 a r = q.1 12 a r := fun a r => cq_nx (ne 12 r rfl)
  have e160 : ∀ r, (cq_i q k j i v).1 16 r 0 = q.1 16 r 0 := fun r => cq_nx (ne 16 0 rfl)
  have e166 : ∀ r, (cq_i q k j i v).1 16 r 6 = q.1 16 r 6 := fun r => cq_nx (ne 16 6 rfl)
  have e141 : ∀ r, (cq_i q k j i v).1 14 r 1 = q.1 14 r 1 := fun r => cq_nx (ne 14 1 rfl)
  have e142 : ∀ r, (cq_i q k j i v).1 14 r 2 = q.1 14 r 2 := fun r => cq_nx (ne 14 2 rfl)
  have e143 : ∀ r, (cq_i q k j i v).1 14 r 3 = q.1 14 r 3 := fun r => cq_nx (ne 14 3 rfl)
  have e104 : ∀ r, (cq_i q k j i v).1 10 r 4 = q.1 10 r 4 := fun r => cq_nx (ne 10 4 rfl)
  have e07 : (cq_i q k j i v).1 0 0 7 = q.1 0 0 7 := cq_nx (ne 0 7 rfl)
  have e08 : (cq_i q k j i v).1 0 0 8 = q.1 0 0 8 := cq_nx (ne 0 8 rfl)
  have e010 : (cq_i q k j i v).1 0 0 10 = q.1 0 0 10 := cq_nx (ne 0 10 rfl)
  have e72 : (cq_i q k j i v).1 7 0 2 = q.1 7 0 2 := cq_nx (ne 7 2 rfl)
  unfold cI
  simp only [e5, e3, e6, e12, e160, e166, e141, e142, e143, e104, e07, e08, e010, e72]
  exact hI
theorem cI_l {q : qC} {k j i : Nat} {v : Int64} (h : true = true) (hI : cI q) : cI (cq_l q k j i v) := hI
/-- what an act more changes -/
theorem wc_e {q : qC} {kd a b c : Int32} {dg : Int64} {k j i : Nat} (h : k ≠ 8) (h2 : ¬ (k = 7 ∧ i = 2)) : (m_X0_write q kd a b c dg).1 k j i = q.1 k j i := by
  unfold m_X0_write m_X0_setNumber
  rw [cq_nx h2, cq_nel, cq_ne h, cq_ne h, cq_ne h, cq_ne h]
theorem wc_s {q : qC} {kd a b c : Int32} {dg : Int64} : (m_X0_write q kd a b c dg).1 7 0 2 = q.1 7 0 2 + 1 := by
  unfold m_X0_write m_X0_setNumber
  rw [cq_same, cq_ne (by decide), cq_ne (by decide), cq_ne (by decide), cq_ne (by decide)]
theorem wc_l {q : qC} {kd a b c : Int32} {dg : Int64} {k j i : Nat} (h : k ≠ 9) : (m_X0_write q kd a b c dg).2 k j i = q.2 k j i := by
  unfold m_X0_write m_X0_setNumber
  rw [cl_nei, cl_ne h]
  rfl
theorem wc_I {q : qC} {kd a b c : Int32} {dg : Int64} (hI : cI q) (hs : (q.1 7 0 2).toInt ≤ 399) : cI (m_X0_write q kd a b c dg) := by
  have e5 : ∀ r, (m_X0_write q kd a b c dg).1 5 0 r = q.1 5 0 r := fun r => wc_e (by decide) (fun h => absurd h.1 (by decide))
  have e3 : ∀ r, (m_X0_write q kd a b c dg).1 3 0 r = q.1 3 0 r := fun r => wc_e (by decide) (fun h => absurd h.1 (by decide))
  have e6 : ∀ r, (m_X0_write q kd a b c dg).1 6 0 r = q.1 6 0 r := fun r => wc_e (by decide) (fun h => absurd h.1 (by decide))
  have e12 : ∀ x r, (m_X0_write q kd a b c dg).1 12 x r = q.1 12 x r := fun x r => wc_e (by decide) (fun h => absurd h.1 (by decide))
  have e160 : ∀ r, (m_X0_write q kd a b c dg).1 16 r 0 = q.1 16 r 0 := fun r => wc_e (by decide) (fun h => absurd h.1 (by decide))
  have e166 : ∀ r, (m_X0_write q kd a b c dg).1 16 r 6 = q.1 16 r 6 := fun r => wc_e (by decide) (fun h => absurd h.1 (by decide))
  have e141 : ∀ r, (m_X0_write q kd a b c dg).1 14 r 1 = q.1 14 r 1 := fun r => wc_e (by decide) (fun h => absurd h.1 (by decide))
  have e142 : ∀ r, (m_X0_write q kd a b c dg).1 14 r 2 = q.1 14 r 2 := fun r => wc_e (by decide) (fun h => absurd h.1 (by decide))
  have e143 : ∀ r, (m_X0_write q kd a b c dg).1 14 r 3 = q.1 14 r 3 := fun r => wc_e (by decide) (fun h => absurd h.1 (by decide))
  have e104 : ∀ r, (m_X0_write q kd a b c dg).1 10 r 4 = q.1 10 r 4 := fun r => wc_e (by decide) (fun h => absurd h.1 (by decide))
  have e07 : (m_X0_write q kd a b c dg).1 0 0 7 = q.1 0 0 7 := wc_e (by decide) (by decide)
  have e08 : (m_X0_write q kd a b c dg).1 0 0 8 = q.1 0 0 8 := wc_e (by decide) (by decide)
  have e010 : (m_X0_write q kd a b c dg).1 0 0 10 = q.1 0 0 10 := wc_e (by decide) (by decide)
  have k1 : (1 : Int32).toInt = 1 := rfl
  have g := ad_o (q.1 7 0 2) 1
  have g2 := hI.2.2.2.2.2.2.2.2.2.2.1
  unfold cI
  simp only [e5, e3, e6, e12, e160, e166, e141, e142, e143, e104, e07, e08, e010, wc_s]
  obtain ⟨h1, h2, h3, h4, h5, h6, h7, h8, h9, h10, h11, h12, h13⟩ := hI
  exact ⟨h1, h2, h3, h4, h5, h6, h7, h8, h9, h10, by omega, h12, h13⟩
/-- the bits of gg from place i on, below rc -/
def db (gg : Int64) (i : Int32) : Int32 := lg_cmp ((Int64.toUInt64 gg >>> ((Int32.toInt64 i).toUInt64 &&& Int64.toUInt64 63)).toInt64 &&& 1) 0
def dc (gg : Int64) (rc : Int32) : Nat → Int
  | 0 => 0
  | n + 1 => (if rc ≤ nI (63 - n) then 0 else (if db gg (nI (63 - n)) = 0 then 0 else 1)) + dc gg rc n
theorem dc_nn (gg : Int64) (rc : Int32) : ∀ n, 0 ≤ dc gg rc n := by
  intro n
  induction n with
  | zero => exact Int.le_refl 0
  | succ n ih =>
    rw [dc]
    split
    · omega
    · split <;> omega
theorem dc_step (gg : Int64) (rc i : Int32) (h1 : 0 ≤ i.toInt) (h2 : i.toInt < 64) : dc gg rc (64 - Int32.toNatClampNeg i) = (if rc ≤ i then 0 else (if db gg i = 0 then 0 else 1)) + dc gg rc (64 - Int32.toNatClampNeg (i + 1)) := by
  have k1 : (1 : Int32).toInt = 1 := rfl
  have g := ad_o i 1
  have t1 := tn_e h1
  have t2 : ((Int32.toNatClampNeg (i + 1) : Nat) : Int) = (i + 1).toInt := tn_e (by omega)
  obtain ⟨n, hn⟩ : ∃ n, n = 63 - Int32.toNatClampNeg i := ⟨_, rfl⟩
  rw [show 64 - Int32.toNatClampNeg i = n + 1 by omega, show 64 - Int32.toNatClampNeg (i + 1) = n by omega, dc]
  have hi : nI (63 - n) = i := by
    have : 63 - n = Int32.toNatClampNeg i := by omega
    rw [this]
    apply Int32.toInt_inj.mp
    rw [nI_toInt (by omega)]
    exact t1
  rw [hi]
theorem dc_hit {gg : Int64} {rc rc1 i : Int32} (h1 : 0 ≤ i.toInt) (hr : rc.toInt ≤ 64) (he : rc1 = rc) (h2 : ¬ rc1 ≤ i) (h3 : ¬ db gg i = 0) : dc gg rc (64 - Int32.toNatClampNeg i) = 1 + dc gg rc (64 - Int32.toNatClampNeg (i + 1)) := by
  subst he
  have g := cv_nle h2
  rw [dc_step gg rc1 i h1 (by omega), if_neg h2, if_neg h3]
theorem dc_miss {gg : Int64} {rc rc1 i : Int32} (h1 : 0 ≤ i.toInt) (hr : rc.toInt ≤ 64) (he : rc1 = rc) (h2 : ¬ rc1 ≤ i) (h3 : db gg i = 0) : dc gg rc (64 - Int32.toNatClampNeg i) = dc gg rc (64 - Int32.toNatClampNeg (i + 1)) := by
  subst he
  have g := cv_nle h2
  rw [dc_step gg rc1 i h1 (by omega), if_neg h2, if_pos h3]
  omega

def m_X7_destroyAll_lp (gg : Int64) (li : Int32) (day : Int32) : Nat → Int32 → qC → qC
  | 0, _, q1 => q1
  | n + 1, i, q1 => (if (q1.1 0 0 7) ≤ i then q1 else (if (lg_cmp (((Int64.toUInt64 gg >>> ((Int32.toInt64 i).toUInt64 &&& Int64.toUInt64 63)).toInt64) &&& 1) 0) = 0 then (m_X7_destroyAll_lp gg li day n (i + 1) q1) else (m_X7_destroyAll_lp gg li day n (i + 1) (m_X0_write (cq_i q1 16 (Int32.toNatClampNeg i) 7 1) 11 i li day (q1.2 16 (Int32.toNatClampNeg i) 2)))))
def m_X7_destroyAll (q : qC) (gg : Int64) (li : Int32) (day : Int32) : qC := (m_X7_destroyAll_lp gg li day 66 0 q)
set_option maxHeartbeats 4000000 in
set_option maxRecDepth 100000 in
theorem c_X7_destroyAll (l : Launch) (D : va_G) (b0 : Nat) (cA : Nat → ClassId) (ad : Nat → Nat → Nat) (mq : qM) (q : qC) (gg : Int64) (li : Int32) (day : Int32) (hI : cI q) (hcn : (q.1 7 0 2).toInt + dc gg (q.1 0 0 7) 64 ≤ 400) : cc_v l yX7_destroyAll wsX7_destroyAll 3 78 D b0 cA ad mq q [.ref (ad 0 0), .long gg, .int li, .int day] (m_X7_destroyAll q gg li day) := by
  refine cc_of (by decide) rfl (Nat.le_of_ble_eq_true rfl) ?_
  intro p e s m below meth c hx hb hml hr hlk hown hts hK hW hKD ls hl
  have hown : s.vm.findClass RX7 = some m.cls := hown
  have hS : va_S (wA b0) s.heap s.heap [] := va_S.rf
  have hl : lv_has ls 6 [(0, .ref (ad 0 0)), (1, .long gg), (3, .int li), (4, .int day)] := hl
  have hin_X7 : ∀ w ∈ wsX70, w ∈ wsX7_destroyAll := fun w h => List.mem_cons_of_mem _ (List.mem_append_left _ (List.mem_append_left _ (List.mem_append_right _ h)))
  have hin_X3 : ∀ w ∈ wsX30, w ∈ wsX7_destroyAll := fun w h => List.mem_cons_of_mem _ (List.mem_append_left _ (List.mem_append_right _ h))
  have hin_X0 : ∀ w ∈ wsX00, w ∈ wsX7_destroyAll := fun w h => List.mem_cons_of_mem _ (List.mem_append_right _ h)
  refine lv_iconst (v := 0) hx hb dX7_destroyAll_0 (by decide) ?_
  refine lv_istore (lv' := [(5, .int 0), (0, .ref (ad 0 0)), (1, .long gg), (3, .int li), (4, .int day)]) hx hb dX7_destroyAll_1 hl (by decide) rfl (fun ls hl => ?_)
  have lp_16 : ∀ (Q : State → Prop) (n : Nat) (i : Int32) (q1 : qC), (0 ≤ i.toInt ∧ i.toInt ≤ 64) → (cI q1) → (q1.1 0 0 7 = q.1 0 0 7) → (0 ≤ (q1.1 7 0 2).toInt ∧ (q1.1 7 0 2).toInt + dc gg (q.1 0 0 7) (64 - Int32.toNatClampNeg i) ≤ 400) → 64 - i.toInt < (n : Int) → (∀ o_1 : qC, o_1 = (m_X7_destroyAll_lp gg li day n i q1) → ∀ (H : Heap) (locs : List Loc), wd D (wA b0) (PO cA ad o_1 mq) ad H → va_S (wA b0) s.heap H locs → ∀ ls : Array Slot, lv_has ls 6 [(0, .ref (ad 0 0)), (1, .long gg), (3, .int li), (4, .int day)] → W p l e { frames := 3, cells := 0, slots := 0, locals := 78 } s m [.ref (ad 0 0), .long gg, .int li, .int day].toArray below meth c H locs 0 0 Q (F0 m 64 ls [])) → ∀ (H : Heap) (locs : List Loc), wd D (wA b0) (PO cA ad q1 mq) ad H → va_S (wA b0) s.heap H locs → ∀ ls : Array Slot, lv_has ls 6 [(5, .int i), (0, .ref (ad 0 0)), (1, .long gg), (3, .int li), (4, .int day)] → W p l e { frames := 3, cells := 0, slots := 0, locals := 78 } s m [.ref (ad 0 0), .long gg, .int li, .int day].toArray below meth c H locs 0 0 Q (F0 m 3 ls []) := by
    intro Q n
    induction n with
    | zero =>
      intro i q1 i1 i2 i3 i4 hm
      have hz : 0 ≤ 64 - i.toInt := by
        have w_1 := hI.2.2.2.2.2.1
        have w_2 := hcn
        have w_3 := hI.2.2.2.2.2.2.2.2.2.2.1
        have w_4 := congrArg Int32.toInt i3
        have w_5 := i1
        have w_6 := i4
        omega
      exact absurd hm (by omega)
    | succ n ih =>
      intro i q1 i1 i2 i3 i4 hm kk H locs hW hS ls hl
      refine lv_iload hx hb dX7_destroyAll_3 (lv_at hl 0 rfl) ?_
      refine lv_aload_n hx hb dX7_destroyAll_5 rfl (lv_at hl 1 rfl) ?_
      refine ow_get (v2 := .int (q1.1 0 0 7)) (ci := 6) (C := RX7) (T := TX7) (N := 11) hx hb hts hin_X7 hown hK hW 0 0 (PO_k0) rfl 7 (by decide) (List.mem_of_getElem? (i := 1) rfl) rfl rfl rfl dX7_destroyAll_6 ?_
      refine lv_icmp_ge (tgt := 64) hx hb dX7_destroyAll_9 (by decide) (fun c_2 => ?_) (fun c_2 => ?_)
      · exact kk q1 (by rw [m_X7_destroyAll_lp, if_pos c_2])  H locs hW hS ls (lv_sub hl [1, 2, 3, 4] rfl)
      · refine lv_lload_n hx hb dX7_destroyAll_12 rfl (lv_at hl 2 rfl) ?_
        refine lv_iload hx hb dX7_destroyAll_13 (lv_at hl 0 rfl) ?_
        refine lv_lushr (v := (Int64.toUInt64 gg >>> ((Int32.toInt64 i).toUInt64 &&& Int64.toUInt64 63)).toInt64) hx hb dX7_destroyAll_15 rfl ?_
        refine lv_lconst (v := 1) hx hb dX7_destroyAll_16 (by decide) ?_
        refine lv_land hx hb dX7_destroyAll_17 ?_
        refine lv_lconst (v := 0) hx hb dX7_destroyAll_18 (by decide) ?_
        refine W.lcmp hx hb dX7_destroyAll_19 ?_
        refine lv_if_eq (tgt := 58) hx hb dX7_destroyAll_20 (by decide) (fun c_3 => ?_) (fun c_3 => ?_)
        · refine lv_iinc (v := (i + 1)) (lv' := [(5, .int (i + 1)), (0, .ref (ad 0 0)), (1, .long gg), (3, .int li), (4, .int day)]) hx hb dX7_destroyAll_58 hl (k := 0) rfl (by first | rfl | decide) (by decide) rfl (fun ls hl => ?_)
          refine lv_goto (tgt := 3) hx hb dX7_destroyAll_61 (by decide) ?_
          have h_4 : 0 ≤ (i + 1).toInt ∧ (i + 1).toInt ≤ 64 := by
            have u_1 := rg_e i
            have k_2 : (1 : Int32).toInt = 1 := rfl
            have u_4 := rg_e (q1.1 0 0 7)
            have v_5 := cv_nle c_2
            have u_6 := rg_e (lg_cmp (((Int64.toUInt64 gg >>> ((Int32.toInt64 i).toUInt64 &&& Int64.toUInt64 63)).toInt64) &&& 1) 0)
            have k_7 : (0 : Int32).toInt = 0 := rfl
            have v_8 := cv_eq c_3
            have w_9 := hI.2.2.2.2.2.1
            have w_10 := hcn
            have w_11 := hI.2.2.2.2.2.2.2.2.2.2.1
            have w_12 := congrArg Int32.toInt i3
            have w_13 := i1
            have w_14 := i4
            have u_3 := ad_o i 1
            omega
          have h_5 : cI q1 := i2
          have h_6 : q1.1 0 0 7 = q.1 0 0 7 := i3
          have h_7 : 0 ≤ (q1.1 7 0 2).toInt ∧ (q1.1 7 0 2).toInt + dc gg (q.1 0 0 7) (64 - Int32.toNatClampNeg (i + 1)) ≤ 400 := by
            have u_1 := rg_e i
            have k_2 : (1 : Int32).toInt = 1 := rfl
            have u_4 := rg_e (q1.1 0 0 7)
            have v_5 := cv_nle c_2
            have u_6 := rg_e (lg_cmp (((Int64.toUInt64 gg >>> ((Int32.toInt64 i).toUInt64 &&& Int64.toUInt64 63)).toInt64) &&& 1) 0)
            have k_7 : (0 : Int32).toInt = 0 := rfl
            have v_8 := cv_eq c_3
            have w_9 := hI.2.2.2.2.2.1
            have w_10 := hcn
            have w_11 := hI.2.2.2.2.2.2.2.2.2.2.1
            have w_12 := congrArg Int32.toInt i3
            have w_13 := i1
            have w_14 := i4
            have u_3 := ad_o i 1
            have g2 := dc_miss i1.1 hI.2.2.2.2.2.1.2 i3 c_2 (show db gg i = 0 from c_3); omega
          have h_8 : 64 - (i + 1).toInt < (n : Int) := by
            have u_1 := rg_e i
            have k_2 : (1 : Int32).toInt = 1 := rfl
            have u_4 := rg_e (q1.1 0 0 7)
            have v_5 := cv_nle c_2
            have u_6 := rg_e (lg_cmp (((Int64.toUInt64 gg >>> ((Int32.toInt64 i).toUInt64 &&& Int64.toUInt64 63)).toInt64) &&& 1) 0)
            have k_7 : (0 : Int32).toInt = 0 := rfl
            have v_8 := cv_eq c_3
            have w_9 := hI.2.2.2.2.2.1
            have w_10 := hcn
            have w_11 := hI.2.2.2.2.2.2.2.2.2.2.1
            have w_12 := congrArg Int32.toInt i3
            have w_13 := i1
            have w_14 := i4
            have w_15 := hm
            have u_3 := ad_o i 1
            omega
          exact ih (i + 1) q1 h_4 h_5 h_6 h_7 h_8 (fun o_1 eo_1 => kk o_1 (eo_1.trans (by rw [m_X7_destroyAll_lp, if_neg c_2, if_pos c_3]))) _ _ hW hS ls (lv_sub hl [0, 1, 2, 3, 4] rfl)
        · refine lv_aload_n hx hb dX7_destroyAll_23 rfl (lv_at hl 1 rfl) ?_
          refine ow_get (v2 := .ref (ad 5 0)) (ci := 6) (C := RX7) (T := TX7) (N := 11) hx hb hts hin_X7 hown hK hW 0 0 (PO_k0) rfl 4 (by decide) (List.mem_of_getElem? (i := 2) rfl) rfl rfl rfl dX7_destroyAll_24 ?_
          refine lv_iload hx hb dX7_destroyAll_27 (lv_at hl 0 rfl) ?_
          have b_9 : vp_in i 64 := by
            have u_1 := rg_e i
            have u_2 := rg_e (q1.1 0 0 7)
            have v_3 := cv_nle c_2
            have u_4 := rg_e (lg_cmp (((Int64.toUInt64 gg >>> ((Int32.toInt64 i).toUInt64 &&& Int64.toUInt64 63)).toInt64) &&& 1) 0)
            have k_5 : (0 : Int32).toInt = 0 := rfl
            have v_6 := cv_ne c_3
            have w_7 := hI.2.2.2.2.2.1
            have w_8 := hcn
            have w_9 := hI.2.2.2.2.2.2.2.2.2.2.1
            have w_10 := congrArg Int32.toInt i3
            have w_11 := i1
            have w_12 := i4
            exact vp_in_iff.mpr (by omega)
          refine ow_aldp hx hb hK hW 5 0 (PO_k5) 6 rfl b_9 (cI_rec i2 i1.1 (cv_nle c_2)) dX7_destroyAll_29 ?_
          refine lv_iconst (v := 1) hx hb dX7_destroyAll_30 (by decide) ?_
          refine ow_puti (ci := 2) (C := RX3) (T := TX3) (N := 8) (ty := .boolean) hx hb hts hin_X3 tyX3 tyX3_ok nmX3 hown hK hW hS 16 (Int32.toNatClampNeg i) (PO_k16 (cI_rec i2 i1.1 (cv_nle c_2))) rfl 7 (by decide) (List.mem_of_getElem? (i := 3) rfl) rfl rfl (by decide +kernel) rfl rfl (Nat.le_of_ble_eq_true rfl) (by decide) (PO_w16_7 (cI_rec i2 i1.1 (cv_nle c_2))) dX7_destroyAll_31 (fun H locs hW hS => ?_)
          refine lv_aload_n hx hb dX7_destroyAll_34 rfl (lv_at hl 1 rfl) ?_
          refine ow_get (v2 := .ref (ad 7 0)) (ci := 6) (C := RX7) (T := TX7) (N := 11) hx hb hts hin_X7 hown hK hW 0 0 (PO_k0) rfl 6 (by decide) (List.mem_of_getElem? (i := 4) rfl) rfl rfl rfl dX7_destroyAll_35 ?_
          refine lv_bipush (v := 11) hx hb dX7_destroyAll_38 (by decide) ?_
          refine lv_iload hx hb dX7_destroyAll_40 (lv_at hl 0 rfl) ?_
          refine lv_iload_n hx hb dX7_destroyAll_42 rfl (lv_at hl 3 rfl) ?_
          refine lv_iload hx hb dX7_destroyAll_43 (lv_at hl 4 rfl) ?_
          refine lv_aload_n hx hb dX7_destroyAll_45 rfl (lv_at hl 1 rfl) ?_
          refine ow_get (v2 := .ref (ad 5 0)) (ci := 6) (C := RX7) (T := TX7) (N := 11) hx hb hts hin_X7 hown hK hW 0 0 (PO_k0) rfl 4 (by decide) (List.mem_of_getElem? (i := 2) rfl) rfl rfl rfl dX7_destroyAll_46 ?_
          refine lv_iload hx hb dX7_destroyAll_49 (lv_at hl 0 rfl) ?_
          have b_10 : vp_in i 64 := by
            have u_1 := rg_e i
            have u_2 := rg_e (q1.1 0 0 7)
            have v_3 := cv_nle c_2
            have u_4 := rg_e (lg_cmp (((Int64.toUInt64 gg >>> ((Int32.toInt64 i).toUInt64 &&& Int64.toUInt64 63)).toInt64) &&& 1) 0)
            have k_5 : (0 : Int32).toInt = 0 := rfl
            have v_6 := cv_ne c_3
            have w_7 := hI.2.2.2.2.2.1
            have w_8 := hcn
            have w_9 := hI.2.2.2.2.2.2.2.2.2.2.1
            have w_10 := congrArg Int32.toInt i3
            have w_11 := i1
            have w_12 := i4
            exact vp_in_iff.mpr (by omega)
          refine ow_aldp hx hb hK hW 5 0 (PO_k5) 6 rfl b_10 (fun hq => (cI_rec i2 i1.1 (cv_nle c_2)) ((cq_ne (by decide)).symm.trans hq)) dX7_destroyAll_51 ?_
          refine ow_get (v2 := .long (q1.2 16 (Int32.toNatClampNeg i) 2)) (ci := 2) (C := RX3) (T := TX3) (N := 8) hx hb hts hin_X3 hown hK hW 16 (Int32.toNatClampNeg i) (PO_k16 (fun hq => (cI_rec i2 i1.1 (cv_nle c_2)) ((cq_ne (by decide)).symm.trans hq))) rfl 2 (by decide) (List.mem_of_getElem? (i := 5) rfl) rfl rfl (congrArg Value.long (cl_nei)) dX7_destroyAll_52 ?_
          refine ow_callVv (C := RX0) (T := TX0) (N := 3) (ci := 0) (k := 7) (j := 0) (n := 5) (As := [.int 11, .int i, .int li, .int day, .long (q1.2 16 (Int32.toNatClampNeg i) 2)]) (rest := []) (z2 := (m_X0_write (cq_i q1 16 (Int32.toNatClampNeg i) 7 1) 11 i li day (q1.2 16 (Int32.toNatClampNeg i) 2))) ⟨hx, hb, hml, hown, hts⟩ (c_X0_write l D b0 cA ad mq (cq_i q1 16 (Int32.toNatClampNeg i) 7 1) 11 i li day (q1.2 16 (Int32.toNatClampNeg i) 2) (by rw [cq_nx (by decide)]; have g1 := dc_nn gg (q.1 0 0 7) (64 - Int32.toNatClampNeg (i + 1)); have g2 := dc_hit i1.1 hI.2.2.2.2.2.1.2 i3 c_2 (show ¬ db gg i = 0 from c_3); exact ⟨by omega, by omega⟩)) (PO_k7) rfl gX7_destroyAll_X0_write rfl (by decide +kernel) rfl ⟨Nat.le_of_ble_eq_true rfl, Nat.le_of_ble_eq_true rfl⟩ ⟨Nat.le_of_ble_eq_true rfl, Nat.le_of_ble_eq_true rfl⟩ hK hW hS hKD hl.1 rfl (Nat.le_of_ble_eq_true rfl) dX7_destroyAll_55 (fun H locs hW hS => ?_)
          refine lv_iinc (v := (i + 1)) (lv' := [(5, .int (i + 1)), (0, .ref (ad 0 0)), (1, .long gg), (3, .int li), (4, .int day)]) hx hb dX7_destroyAll_58 hl (k := 0) rfl (by first | rfl | decide) (by decide) rfl (fun ls hl => ?_)
          refine lv_goto (tgt := 3) hx hb dX7_destroyAll_61 (by decide) ?_
          have h_11 : 0 ≤ (i + 1).toInt ∧ (i + 1).toInt ≤ 64 := by
            have u_1 := rg_e i
            have k_2 : (1 : Int32).toInt = 1 := rfl
            have u_4 := rg_e (q1.1 0 0 7)
            have v_5 := cv_nle c_2
            have u_6 := rg_e (lg_cmp (((Int64.toUInt64 gg >>> ((Int32.toInt64 i).toUInt64 &&& Int64.toUInt64 63)).toInt64) &&& 1) 0)
            have k_7 : (0 : Int32).toInt = 0 := rfl
            have v_8 := cv_ne c_3
            have w_9 := hI.2.2.2.2.2.1
            have w_10 := hcn
            have w_11 := hI.2.2.2.2.2.2.2.2.2.2.1
            have w_12 := congrArg Int32.toInt i3
            have w_13 := i1
            have w_14 := i4
            have u_3 := ad_o i 1
            omega
          have h_12 : cI (m_X0_write (cq_i q1 16 (Int32.toNatClampNeg i) 7 1) 11 i li day (q1.2 16 (Int32.toNatClampNeg i) 2)) := wc_I (cI_i (by decide) i2) (by rw [cq_nx (by decide)]; have g1 := dc_nn gg (q.1 0 0 7) (64 - Int32.toNatClampNeg (i + 1)); have g2 := dc_hit i1.1 hI.2.2.2.2.2.1.2 i3 c_2 (show ¬ db gg i = 0 from c_3); omega)
          have h_13 : (m_X0_write (cq_i q1 16 (Int32.toNatClampNeg i) 7 1) 11 i li day (q1.2 16 (Int32.toNatClampNeg i) 2)).1 0 0 7 = q.1 0 0 7 := (wc_e (by decide) (by decide)).trans ((cq_nx (by decide)).trans i3)
          have h_14 : 0 ≤ ((m_X0_write (cq_i q1 16 (Int32.toNatClampNeg i) 7 1) 11 i li day (q1.2 16 (Int32.toNatClampNeg i) 2)).1 7 0 2).toInt ∧ ((m_X0_write (cq_i q1 16 (Int32.toNatClampNeg i) 7 1) 11 i li day (q1.2 16 (Int32.toNatClampNeg i) 2)).1 7 0 2).toInt + dc gg (q.1 0 0 7) (64 - Int32.toNatClampNeg (i + 1)) ≤ 400 := by
            have u_1 := rg_e i
            have k_2 : (1 : Int32).toInt = 1 := rfl
            have u_4 := rg_e (q1.1 0 0 7)
            have v_5 := cv_nle c_2
            have u_6 := rg_e (lg_cmp (((Int64.toUInt64 gg >>> ((Int32.toInt64 i).toUInt64 &&& Int64.toUInt64 63)).toInt64) &&& 1) 0)
            have k_7 : (0 : Int32).toInt = 0 := rfl
            have v_8 := cv_ne c_3
            have w_9 := hI.2.2.2.2.2.1
            have w_10 := hcn
            have w_11 := hI.2.2.2.2.2.2.2.2.2.2.1
            have w_12 := congrArg Int32.toInt i3
            have w_13 := i1
            have w_14 := i4
            have u_3 := ad_o i 1
            have g2 := dc_hit i1.1 hI.2.2.2.2.2.1.2 i3 c_2 (show ¬ db gg i = 0 from c_3); rw [wc_s, cq_nx (by decide)]; have g9 := ad_o (q1.1 7 0 2) 1; have g8 := dc_nn gg (q.1 0 0 7) (64 - Int32.toNatClampNeg (i + 1)); omega
          have h_15 : 64 - (i + 1).toInt < (n : Int) := by
            have u_1 := rg_e i
            have k_2 : (1 : Int32).toInt = 1 := rfl
            have u_4 := rg_e (q1.1 0 0 7)
            have v_5 := cv_nle c_2
            have u_6 := rg_e (lg_cmp (((Int64.toUInt64 gg >>> ((Int32.toInt64 i).toUInt64 &&& Int64.toUInt64 63)).toInt64) &&& 1) 0)
            have k_7 : (0 : Int32).toInt = 0 := rfl
            have v_8 := cv_ne c_3
            have w_9 := hI.2.2.2.2.2.1
            have w_10 := hcn
            have w_11 := hI.2.2.2.2.2.2.2.2.2.2.1
            have w_12 := congrArg Int32.toInt i3
            have w_13 := i1
            have w_14 := i4
            have w_15 := hm
            have u_3 := ad_o i 1
            omega
          exact ih (i + 1) (m_X0_write (cq_i q1 16 (Int32.toNatClampNeg i) 7 1) 11 i li day (q1.2 16 (Int32.toNatClampNeg i) 2)) h_11 h_12 h_13 h_14 h_15 (fun o_1 eo_1 => kk o_1 (eo_1.trans (by rw [m_X7_destroyAll_lp, if_neg c_2, if_neg c_3]))) _ _ hW hS ls (lv_sub hl [0, 1, 2, 3, 4] rfl)
  have h_17 : 0 ≤ (0 : Int32).toInt ∧ (0 : Int32).toInt ≤ 64 := by
    have k_1 : (0 : Int32).toInt = 0 := rfl
    have w_2 := hI.2.2.2.2.2.1
    have w_3 := hcn
    have w_4 := hI.2.2.2.2.2.2.2.2.2.2.1
    omega
  have h_18 : cI q := hI
  have h_19 : q.1 0 0 7 = q.1 0 0 7 := rfl
  have h_20 : 0 ≤ (q.1 7 0 2).toInt ∧ (q.1 7 0 2).toInt + dc gg (q.1 0 0 7) (64 - Int32.toNatClampNeg (0 : Int32)) ≤ 400 := ⟨hI.2.2.2.2.2.2.2.2.2.2.1.1, hcn⟩
  have h_21 : 64 - (0 : Int32).toInt < ((66 : Nat) : Int) := by
    have k_1 : (0 : Int32).toInt = 0 := rfl
    have w_2 := hI.2.2.2.2.2.1
    have w_3 := hcn
    have w_4 := hI.2.2.2.2.2.2.2.2.2.2.1
    omega
  refine lp_16 _ 66 0 q h_17 h_18 h_19 h_20 h_21 (fun o_1 eo_1 H locs hW hS ls hl => ?_) _ _ hW hS ls (lv_sub hl [0, 1, 2, 3, 4] rfl)
  exact ow_vret hx hb hr hlk hK hW hS (by rw [m_X7_destroyAll, ← eo_1]) dX7_destroyAll_64
