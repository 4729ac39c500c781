/-! lists: the office's bits, the reference's rows -/
theorem bt_1 (n k : Nat) : n / 2 ^ k % 2 = if n.testBit k then 1 else 0 := by
  rw [Nat.testBit_eq_decide_div_mod_eq]
  by_cases h : n / 2 ^ k % 2 = 1
  · rw [if_pos (decide_eq_true h), h]
  · rw [if_neg (by simp [h])]; omega
theorem pN_len (n k : Nat) : pN n k = ((List.range k).filter (fun r => n.testBit r)).length := by
  induction k with
  | zero => rfl
  | succ k ih =>
    rw [pN, ih, List.range_succ, List.filter_append, List.length_append, bt_1]
    cases h : n.testBit k
    · simp [h]
    · simp [h]
theorem bc_b {n : Nat} (hn : n < 2 ^ 64) : m_J13_bitCount_95d88 (lN n) = nI (bts n).length ∧ (bts n).length ≤ 64 := by
  have h := bc_e n hn
  rw [pN_len] at h
  exact h
theorem bt_mem (n k : Nat) : k ∈ bts n ↔ k < 64 ∧ n.testBit k = true := by
  unfold bts
  rw [List.mem_filter, List.mem_range]
theorem bt_nd (n : Nat) : (bts n).Nodup := List.Pairwise.filter _ List.nodup_range
theorem lst_len (q : qM) (l : Nat) : (lst q l).length = Int32.toNatClampNeg (q.1 27 l) := by
  unfold lst; rw [List.length_map, List.length_range]
theorem lst_at (q : qM) (l k : Nat) : (lst q l)[k]? = if k < Int32.toNatClampNeg (q.1 27 l) then some (Int32.toNatClampNeg (q.1 26 (64 * l + k))) else none := by
  unfold lst
  rw [List.getElem?_map]
  by_cases h : k < Int32.toNatClampNeg (q.1 27 l)
  · rw [if_pos h, List.getElem?_range h]; rfl
  · rw [if_neg h, List.getElem?_eq_none (by rw [List.length_range]; omega)]; rfl
theorem ix64 {a k : Int32} (h1 : 0 ≤ a.toInt) (h2 : a.toInt ≤ 15) (h3 : 0 ≤ k.toInt) (h4 : k.toInt ≤ 64) : Int32.toNatClampNeg (64 * a + k) = 64 * Int32.toNatClampNeg a + Int32.toNatClampNeg k := by
  have a1 := mu_o 64 64 a rfl
  have a2 := ad_o (64 * a) k
  have e1 := tn_e h1
  have e2 := tn_e h3
  have e3 := tn_e (r := 64 * a + k) (by omega)
  omega
theorem ix65 {a k : Int32} (h1 : 0 ≤ a.toInt) (h2 : a.toInt ≤ 15) (h3 : 0 ≤ k.toInt) (h4 : k.toInt ≤ 64) : Int32.toNatClampNeg (64 * a + k + 1) = 64 * Int32.toNatClampNeg a + Int32.toNatClampNeg k + 1 := by
  have a1 := mu_o 64 64 a rfl
  have a2 := ad_o (64 * a) k
  have a3 := ad_o (64 * a + k) 1
  have k1 : (1 : Int32).toInt = 1 := rfl
  have e1 := tn_e h1
  have e2 := tn_e h3
  have e3 := tn_e (r := 64 * a + k + 1) (by omega)
  omega
theorem nI_e {r : Int32} (h1 : 0 ≤ r.toInt) : nI (Int32.toNatClampNeg r) = r := by
  have := tn_e h1
  have := rg_e r
  exact Int32.toInt_inj.mp (by rw [nI_toInt (by omega)]; omega)
theorem lg_0 (n : Nat) : lg_cmp (lN (n % 2)) 0 = 0 ↔ n % 2 = 0 := by
  have : n % 2 = 0 ∨ n % 2 = 1 := by omega
  rcases this with e | e <;> rw [e] <;> decide
theorem hs_e {c : qC} {l n : Nat} (hn : n < 2 ^ 64) (hm : c.2 17 l 1 = lN n) {k : Nat} (hk : k < 64) : m_X2_has c l (nI k) = 0 ↔ n.testBit k = false := by
  unfold m_X2_has
  have e := nI_toInt (n := k) (by omega)
  have k64 : (64 : Int32).toInt = 64 := rfl
  have k0 : (0 : Int32).toInt = 0 := rfl
  rw [if_neg (fun x => by have := cv_lt x; omega), if_neg (fun x => by have := cv_le x; omega), hm, wb_bit hn hk]
  have b := bt_1 n k
  by_cases g : lg_cmp (lN (n / 2 ^ k % 2)) 0 = 0
  · rw [if_pos g]
    have g2 := (lg_0 _).mp g
    rw [g2] at b
    cases h : n.testBit k
    · simp
    · rw [h] at b; exact absurd b (by decide)
  · rw [if_neg g]
    have g2 := fun x => g ((lg_0 _).mpr x)
    cases h : n.testBit k
    · rw [h] at b; exact absurd b g2
    · simp
theorem hs_r {c : qC} {l n : Nat} (hn : n < 2 ^ 64) (hm : c.2 17 l 1 = lN n) (r : Int32) : m_X2_has c l r = 0 ↔ ¬ (0 ≤ r.toInt ∧ Int32.toNatClampNeg r ∈ bts n) := by
  by_cases h : 0 ≤ r.toInt ∧ r.toInt < 64
  · have tn := tn_e h.1
    have e := hs_e hn hm (k := Int32.toNatClampNeg r) (by omega)
    rw [nI_e h.1] at e
    rw [e, bt_mem]
    constructor
    · intro x y; rw [x] at y; exact absurd y.2.2 (by decide)
    · intro x
      cases g : n.testBit (Int32.toNatClampNeg r)
      · rfl
      · exact absurd ⟨h.1, by omega, g⟩ x
  · have k64 : (64 : Int32).toInt = 64 := rfl
    have k0 : (0 : Int32).toInt = 0 := rfl
    have e : m_X2_has c l r = 0 := by
      unfold m_X2_has
      by_cases a : r < 0
      · rw [if_pos a]
      · rw [if_neg a, if_pos (Int32.le_iff_toInt_le.mpr (by have := cv_nlt a; omega))]
    rw [e]
    refine ⟨fun _ x => ?_, fun _ => rfl⟩
    have := (bt_mem _ _).mp x.2
    have := tn_e x.1
    omega
def oN : Option Nat → Int32
  | some x => nI x
  | none => -1
theorem rp_lp {c : qC} {l n : Nat} (hn : n < 2 ^ 64) (hm : c.2 17 l 1 = lN n) (pl : Int32) : ∀ (fuel r : Nat) (bf : Int32), r ≤ 64 → 64 - r < fuel → 0 ≤ bf.toInt → bf.toInt ≤ (r : Int) → bf.toInt ≤ pl.toInt → m_X2_recordAtPlace_lp c l pl fuel bf (nI r) = oN ((List.range' r (64 - r)).filter (fun x => n.testBit x))[(pl.toInt - bf.toInt).toNat]? := by
  intro fuel
  induction fuel with
  | zero => intro r bf h1 h2; omega
  | succ fuel ih =>
    intro r bf h1 h2 h3 h4 h5
    rw [m_X2_recordAtPlace_lp]
    have e := nI_toInt (n := r) (by omega)
    have k64 : (64 : Int32).toInt = 64 := rfl
    by_cases g : 64 ≤ nI r
    · rw [if_pos g]
      have := cv_le g
      have : r = 64 := by omega
      subst this
      rfl
    rw [if_neg g]
    have g' := cv_nle g
    have er : 64 - r = (64 - (r + 1)) + 1 := by omega
    have hs := hs_e hn hm (k := r) (by omega)
    rw [er, List.range'_succ, ← nI_succ]
    cases tb : n.testBit r
    · rw [if_pos (hs.mpr tb), List.filter_cons_of_neg (by simp [tb])]
      exact ih (r + 1) bf (by omega) (by omega) h3 (by omega) h5
    · rw [if_neg (fun x => by rw [hs.mp x] at tb; cases tb), List.filter_cons_of_pos (by simp [tb])]
      by_cases b : bf = pl
      · rw [if_pos b, b, Int.sub_self]; rfl
      · rw [if_neg b]
        have b' := cv_ne b
        have a2 := ad_o bf 1
        have k1 : (1 : Int32).toInt = 1 := rfl
        have e2 : (bf + 1).toInt = bf.toInt + 1 := by omega
        have e3 : (pl.toInt - bf.toInt).toNat = (pl.toInt - (bf + 1).toInt).toNat + 1 := by omega
        rw [e3, List.getElem?_cons_succ]
        exact ih (r + 1) (bf + 1) (by omega) (by omega) (by omega) (by omega) (by omega)
theorem li_n {c : qC} {q : qM} (h : RI c q) {li : Int32} (h1 : m_X8_noList q li = 0) : Int32.toNatClampNeg li < 16 ∧ 0 ≤ li.toInt ∧ li.toInt ≤ 15 ∧ ((Int32.toNatClampNeg li : Nat) : Int) < (q.1 25 0).toInt := by
  have hl := nl_t h.2.2.1 h1
  have tn := tn_e hl.1
  refine ⟨?_, hl.1, hl.2.2, ?_⟩
  · omega
  · rw [tn]; exact hl.2.1
theorem st_listed {c : qC} {q : qM} (h : RI c q) (li i : Int32) : (m_X8_listed q li i).2.1 0 0 = (m_X7_listed c li i).1 ∧ ((m_X7_listed c li i).1 = 0 → (m_X7_listed c li i).2 = (m_X8_listed q li i).1) ∧ RI c (m_X8_listed q li i).2 := by
  unfold m_X7_listed m_X8_listed
  rw [kLi h]
  by_cases h1 : m_X8_noList q li = 0
  case neg => rw [if_neg h1, if_neg h1, if_neg z10]; exact ⟨rfl, fun x => absurd x z10, RI_t h⟩
  rw [if_pos h1, if_pos h1, if_pos rfl]
  by_cases h2 : 0 ≤ i
  case neg => rw [if_neg h2, if_neg h2]; exact ⟨rfl, fun x => absurd x z10, RI_t h⟩
  rw [if_pos h2, if_pos h2]
  have h2' := cv_le h2
  obtain ⟨l16, l0, l15, ll⟩ := li_n h h1
  obtain ⟨n, hn, hm, hL⟩ := h.1.2.2.2.2.2.2.2.2.2 _ l16
  have k0 : (0 : Int32).toInt = 0 := rfl
  have hlen := h.2.2.1.2.1 (Int32.toNatClampNeg li)
  have rp : m_X2_recordAtPlace c (Int32.toNatClampNeg li) i = oN (lst q (Int32.toNatClampNeg li))[Int32.toNatClampNeg i]? := by
    unfold m_X2_recordAtPlace
    have R := rp_lp hn hm i 66 0 0 (by decide) (by decide) (by decide) (by decide) h2'
    rw [hL]
    unfold bts
    rw [List.range_eq_range']
    have e : (i.toInt - (0 : Int32).toInt).toNat = Int32.toNatClampNeg i := by
      have := tn_e (r := i) (by omega)
      omega
    rw [e, nI_0] at R
    exact R
  rw [rp, lst_at]
  have tl := tn_e hlen.1
  have ti := tn_e (r := i) (by omega)
  by_cases h3 : q.1 27 (Int32.toNatClampNeg li) ≤ i
  · have := cv_le h3
    rw [if_pos h3, if_neg (by omega)]
    exact ⟨rfl, fun _ => rfl, RI_t h⟩
  · have := cv_nle h3
    rw [if_neg h3, if_pos (by omega), ix64 l0 l15 (by omega) (by omega)]
    refine ⟨rfl, fun _ => ?_, RI_t h⟩
    dsimp only [oN]
    exact nI_e (h.2.2.1.2.2.1 _).1
theorem ap_1 : ∀ x, x < 256 → m_J6_bitCount_0f7a4 (nI x) = m_X8_bits (nI x) := by decide +kernel
theorem ap_2 : ∀ x, x < 256 → ∀ o, o < 8 → ((((Int32.toUInt32 (nI x) >>> (Int32.toUInt32 (nI o) &&& Int32.toUInt32 31)).toInt32) &&& 1) = 0 ↔ ¬ (((nI x) >>> ((nI o) &&& 31)) &&& 1) = 1) ∧ 0 ≤ ((nI x) ||| ((1 : Int32) <<< ((nI o) &&& 31))).toInt ∧ ((nI x) ||| ((1 : Int32) <<< ((nI o) &&& 31))).toInt ≤ 255 := by decide +kernel
theorem ap_3 {x : Int32} (h : 0 ≤ x.toInt ∧ x.toInt ≤ 255) : m_J6_bitCount_0f7a4 x = m_X8_bits x := by
  have tn := tn_e h.1
  have := ap_1 (Int32.toNatClampNeg x) (by omega)
  rw [nI_e h.1] at this
  exact this
theorem ap_4 {x o : Int32} (h : 0 ≤ x.toInt ∧ x.toInt ≤ 255) (ho : 0 ≤ o.toInt ∧ o.toInt ≤ 7) : ((((Int32.toUInt32 x >>> (Int32.toUInt32 o &&& Int32.toUInt32 31)).toInt32) &&& 1) = 0 ↔ ¬ ((x >>> (o &&& 31)) &&& 1) = 1) ∧ 0 ≤ (x ||| ((1 : Int32) <<< (o &&& 31))).toInt ∧ (x ||| ((1 : Int32) <<< (o &&& 31))).toInt ≤ 255 := by
  have tn := tn_e h.1
  have tn2 := tn_e ho.1
  have := ap_2 (Int32.toNatClampNeg x) (by omega) (Int32.toNatClampNeg o) (by omega)
  rw [nI_e h.1, nI_e ho.1] at this
  exact this
theorem kOp {c : qC} {q : qM} (h : RI c q) {l : Nat} (hl : (l : Int) < (q.1 25 0).toInt) : m_X7_needOpen c l = if q.1 30 l = 0 then 0 else 3 := by
  unfold m_X7_needOpen
  have := h.1.2.2.2.2.2.2.2.2.1 l hl
  by_cases e : c.1 17 l 3 = 0
  · rw [if_pos e, if_neg (this.mp e)]
  · rw [if_neg e, if_pos (Classical.byContradiction fun x => e (this.mpr x))]
theorem G7_a {c : qC} {q : qM} (h : G7 c q) {L : Nat} (hL : (L : Int) < (q.1 25 0).toInt) {v : Int32} (hv : 0 ≤ v.toInt ∧ v.toInt ≤ 255) : G7 (cq_i c 17 L 2 v) (mq_i q 29 L v) := by
  obtain ⟨g1, g2, g3, g4⟩ := h
  refine ⟨fun l => ?_, fun l hl => ?_, fun l hl => ?_, fun l hl => ?_⟩
  · have e28 : (mq_i q 29 L v).1 28 l = q.1 28 l := mq_ne (by decide)
    rw [e28]
    by_cases e : l = L
    · subst e
      rw [mq_same, cq_ni (by decide), cq_same]
      exact ⟨(g1 l).1, rfl, hv⟩
    · rw [cq_nj (fun x => e x.2), mq_i_self]
      have : upd (q.1 29) L v l = q.1 29 l := by unfold upd; rw [if_neg e]
      rw [this]
      exact g1 l
  · have e25 : (mq_i q 29 L v).1 25 0 = q.1 25 0 := mq_ne (by decide)
    rw [e25] at hl
    have : upd (q.1 29) L v l = q.1 29 l := by unfold upd; rw [if_neg (by omega)]
    rw [mq_i_self, this, mq_ne (by decide)]
    exact g2 l hl
  · have e25 : (mq_i q 29 L v).1 25 0 = q.1 25 0 := mq_ne (by decide)
    rw [e25] at hl
    rw [cq_ni (by decide), mq_ne (by decide)]
    exact g3 l hl
  · exact g4 l hl
theorem st_approve {c : qC} {q : qM} (h : RI c q) (li o : Int32) : (m_X8_approve q li o).2.1 0 0 = wkO (m_X7_approve c li o).1 ∧ ((m_X7_approve c li o).1 = 0 → (m_X7_approve c li o).2.1 = (m_X8_approve q li o).1) ∧ RI (m_X7_approve c li o).2.2 (m_X8_approve q li o).2 := by
  unfold m_X7_approve m_X8_approve
  rw [kLi h, kOf2, kRi h, kRo1 h]
  by_cases h1 : m_X8_noList q li = 0
  case neg => rw [if_neg h1, if_neg h1, if_neg z10]; exact ⟨rfl, fun x => absurd x z10, RI_t h⟩
  rw [if_pos h1, if_pos h1, if_pos rfl]
  by_cases h2 : m_X8_noOfficer o = 0
  case neg => rw [if_neg h2, if_neg h2, if_neg z10]; exact ⟨rfl, fun x => absurd x z10, RI_t h⟩
  rw [if_pos h2, if_pos h2, if_pos rfl]
  obtain ⟨l16, l0, l15, ll⟩ := li_n h h1
  have ho := no_t h2
  have g7 := h.1.2.2.2.2.2.2.1 (Int32.toNatClampNeg li)
  have a4 := ap_4 (o := o) g7.2.2 (by omega)
  have iso : m_X2_isApprovedBy c (Int32.toNatClampNeg li) o = 0 ↔ ¬ ((q.1 29 (Int32.toNatClampNeg li)) >>> (o &&& 31)) &&& 1 = 1 := by
    unfold m_X2_isApprovedBy
    rw [g7.2.1]
    by_cases e : (((Int32.toUInt32 (q.1 29 (Int32.toNatClampNeg li)) >>> (Int32.toUInt32 o &&& Int32.toUInt32 31)).toInt32) &&& 1) = 0
    · rw [if_pos e]; exact ⟨fun _ => a4.1.mp e, fun _ => rfl⟩
    · rw [if_neg e]; exact ⟨fun x => absurd x z10, fun x => absurd (a4.1.mpr x) e⟩
  rw [kOp h ll]
  by_cases h3 : q.1 30 (Int32.toNatClampNeg li) = 0
  case neg => rw [if_neg h3, if_neg h3, if_neg z30]; exact ⟨rfl, fun x => absurd x z30, RI_t h⟩
  rw [if_pos h3, if_pos h3, if_pos rfl]
  by_cases h4 : m_X8_hasRight q o 2 = 0
  · rw [if_pos h4, if_pos h4, if_neg z30]; exact ⟨rfl, fun x => absurd x z30, RI_t h⟩
  rw [if_neg h4, if_neg h4, if_pos rfl]
  by_cases h7 : m_X8_hasRoom q 1 = 0
  · rw [if_pos h7, if_pos h7, if_neg z30]
    split
    · exact ⟨rfl, fun x => absurd x z30, RI_t h⟩
    · split <;> exact ⟨rfl, fun x => absurd x z30, RI_t h⟩
  rw [if_neg h7, if_neg h7, if_pos rfl, g7.1]
  by_cases h5 : q.1 28 (Int32.toNatClampNeg li) = o
  · rw [if_pos h5, if_pos h5]; exact ⟨rfl, fun x => absurd x z30, RI_t h⟩
  rw [if_neg h5, if_neg h5]
  by_cases h6 : ((q.1 29 (Int32.toNatClampNeg li)) >>> (o &&& 31)) &&& 1 = 1
  · rw [if_pos h6, if_neg (fun x => iso.mp x h6)]; exact ⟨rfl, fun x => absurd x z30, RI_t h⟩
  rw [if_neg h6, if_pos (iso.mpr h6), g7.2.1]
  have hr := hr1 h.2.2.1 h7
  refine ⟨?_, fun _ => ?_, ?_⟩
  · dsimp only
    rw [wr_1 (by decide) (by decide), mq_i_ne _ _ (by decide), mq_same]; rfl
  · dsimp only
    unfold m_X2_approvals
    rw [wc_e (by decide) (by decide), cq_same, wr_1 (by decide) (by decide), mq_same]
    exact ap_3 a4.2
  · dsimp only
    refine RI_w ?_ (by rw [mq_ne (by decide), mq_ne (by decide)]; exact hr) (fun hk => by rcases hk with hk | hk <;> exact absurd hk (by decide))
    obtain ⟨⟨g1, g2, g3, g4, g5, g6, g7⟩, hg, hl, hc⟩ := h
    exact ⟨⟨G1_fr g1 (ek_i rfl (ek_rf _)) (em_i rfl (em_i rfl (em_rf _))), G2_fr g2 (ek_i rfl (ek_rf _)) (em_i rfl (em_i rfl (em_rf _))), G3_fr g3 (ek_i rfl (ek_rf _)) (em_i rfl (em_i rfl (em_rf _))), G4_fr g4 (ek_i rfl (ek_rf _)) (em_i rfl (em_i rfl (em_rf _))), G5_fr g5 (ek_i rfl (ek_rf _)) (em_i rfl (em_i rfl (em_rf _))), G6_fr g6 (ek_i rfl (ek_rf _)) (em_i rfl (em_i rfl (em_rf _))), G7_a (G7_fr g7 (ek_rf _) (em_i rfl (em_rf _))) ll a4.2⟩, gI_i rfl (gI_i rfl hg), lI_i rfl (lI_i rfl hl), cI_i rfl hc⟩
