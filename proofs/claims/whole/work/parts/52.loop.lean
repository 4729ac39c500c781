/-! laid by wip/whole/tools/lawmain.py: the law's loop -/
theorem nI_a31 (m : Nat) : nI m &&& 31 = nI (m % 32) := by
  apply Int32.toBitVec_inj.1
  show BitVec.ofNat 32 m &&& BitVec.ofNat 32 31 = BitVec.ofNat 32 (m % 32)
  apply BitVec.eq_of_getLsbD_eq
  intro i hi
  have : m % 32 = m &&& 31 := (Nat.and_two_pow_sub_one_eq_mod m 5).symm
  rw [this]
  simp [hi]
theorem sw_k (x : Int32) : ∃ k, k < 32 ∧ x &&& 31 = nI k := by
  obtain ⟨n, -, rfl⟩ := wb_of32 x
  exact ⟨n % 32, Nat.mod_lt _ (by decide), nI_a31 n⟩
theorem lp_in {L i : Nat} (hL : L ≤ 4608) (hi : 9 * i + 9 ≤ L) : ∀ k : Int32, 0 ≤ k.toInt → k.toInt ≤ 8 → vp_in (nI (9 * i) + k) L := by
  intro k h1 h2 h
  have e := nI_toInt (n := 9 * i) (by omega)
  have a := ad_o (nI (9 * i)) k
  have e2 : (nI (9 * i) + k).toInt = 9 * (i : Int) + k.toInt := by omega
  rcases h with h | h
  · have := cv_lt h
    have k0 : (0 : Int32).toInt = 0 := rfl
    omega
  · have := tn_e (r := nI (9 * i) + k) (by omega)
    omega
theorem lp_in0 {L i : Nat} (hL : L ≤ 4608) (hi : 9 * i + 9 ≤ L) : vp_in (nI (9 * i)) L := by
  have h := lp_in hL hi 0 (by decide) (by decide)
  have e : nI (9 * i) + 0 = nI (9 * i) := by simp
  rw [e] at h
  exact h
set_option maxHeartbeats 4000000 in
set_option maxRecDepth 100000 in
/-- a turn of the loop: the switch -/
theorem lw_turn {p : Program} {l : Launch} {e : Env} {s : State} {m : MethodId} {below : List Frame} {meth : Method} {c : Code} {Q : State → Prop} {b L : Nat} {xs : Nat → Int32} {D : va_G} {cA : Nat → ClassId} (hC : LX p l s m c b L xs D cA) (hL : L ≤ 4608) {i : Nat} (hi : 9 * i + 9 ≤ L) {H : Heap} {cells slots : Nat} {ls : Array Slot} {ad : Nat → Nat → Nat} {z : qC} {q : qM} {a1 a2 a3 : Nat} (ha1 : a1 = ad 0 0) (ha2 : a2 = ad 20 0) (ha3 : a3 = ad 22 0) (hW : wd D (wA s.heap.size) (PO cA ad z q) ad H) (hS : va_S (wA s.heap.size) s.heap H []) (hR : RI z q) (hl : lv_has ls 8 [(4, .int (nI (9 * i))), (0, .ref b), (1, .ref a1), (2, .ref a2), (3, .ref a3)]) (hcs : cells + 8 ≤ room_1.cells ∧ slots + 50 ≤ room_1.slots)
    (next : ∀ (u : Nat → Nat → Nat) (z' : qC) (q' : qM) (H' : Heap) (locs' : List Loc) (ls' : Array Slot), a1 = u 0 0 → a2 = u 20 0 → a3 = u 22 0 → wd D (wA s.heap.size) (PO cA u z' q') u H' → va_S (wA s.heap.size) s.heap H' locs' → RI z' q' → lv_has ls' 8 [(4, .int (nI (9 * i))), (0, .ref b), (1, .ref a1), (2, .ref a2), (3, .ref a3)] → W p l e room_1 s m #[Value.ref b] below meth c H' locs' (cells + 8) (slots + 50) Q (F0 m 1829 ls' [])) :
    W p l e room_1 s m #[Value.ref b] below meth c H [] cells slots Q (F0 m 33 ls []) := by
  have hC' := hC
  obtain ⟨hx, hb, hml, hown, hts, hK, hKD, hKX, hKN, hlt, hX, hbl⟩ := hC'
  have hin := lp_in hL hi
  refine lv_aload_n hx hb dL_law_33 rfl (lv_at hl 1 rfl) ?_
  refine lv_iload hx hb dL_law_34 (lv_at hl 0 rfl) ?_
  refine va_sld hx hb hX hbl (Nat.not_le.mpr hbl) hS (lp_in0 hL hi) dL_law_36 ?_
  refine lv_bipush (v := 31) hx hb dL_law_37 (by decide) ?_
  refine lv_iand hx hb dL_law_39 ?_
  obtain ⟨k, hk, ek⟩ := sw_k (xs (nI (9 * i)).toNatClampNeg)
  rw [ek]
  have hh : k = 0 ∨ k = 1 ∨ k = 2 ∨ k = 3 ∨ k = 4 ∨ k = 5 ∨ k = 6 ∨ k = 7 ∨ k = 8 ∨ k = 9 ∨ k = 10 ∨ k = 11 ∨ k = 12 ∨ k = 13 ∨ k = 14 ∨ k = 15 ∨ k = 16 ∨ k = 17 ∨ k = 18 ∨ k = 19 ∨ k = 20 ∨ k = 21 ∨ k = 22 ∨ k = 23 ∨ k = 24 ∨ 25 ≤ k := by omega
  rcases hh with rfl | rfl | rfl | rfl | rfl | rfl | rfl | rfl | rfl | rfl | rfl | rfl | rfl | rfl | rfl | rfl | rfl | rfl | rfl | rfl | rfl | rfl | rfl | rfl | rfl | hk25
  · refine lv_tableIn (off := 116) (tgt := 156) hx hb dL_law_40 (by decide) (by decide) rfl (by decide) ?_
    exact ca_officer hC hin ha1 ha2 ha3 hW hS hR hl hcs next
  · refine lv_tableIn (off := 164) (tgt := 204) hx hb dL_law_40 (by decide) (by decide) rfl (by decide) ?_
    by_cases h5 : xs (nI (9 * i) + 5).toNatClampNeg = 0
    · exact ca_version0 hC hin ha1 ha2 ha3 hW hS hR hl hcs next h5
    · exact ca_version1 hC hin ha1 ha2 ha3 hW hS hR hl hcs next h5
  · refine lv_tableIn (off := 298) (tgt := 338) hx hb dL_law_40 (by decide) (by decide) rfl (by decide) ?_
    exact ca_fiscal hC hin ha1 ha2 ha3 hW hS hR hl hcs next
  · refine lv_tableIn (off := 334) (tgt := 374) hx hb dL_law_40 (by decide) (by decide) rfl (by decide) ?_
    exact ca_open hC hin ha1 ha2 ha3 hW hS hR hl hcs next
  · refine lv_tableIn (off := 382) (tgt := 422) hx hb dL_law_40 (by decide) (by decide) rfl (by decide) ?_
    exact ca_close hC hin ha1 ha2 ha3 hW hS hR hl hcs next
  · refine lv_tableIn (off := 430) (tgt := 470) hx hb dL_law_40 (by decide) (by decide) rfl (by decide) ?_
    exact ca_left hC hin ha1 ha2 ha3 hW hS hR hl hcs next
  · refine lv_tableIn (off := 478) (tgt := 518) hx hb dL_law_40 (by decide) (by decide) rfl (by decide) ?_
    exact ca_file hC hin ha1 ha2 ha3 hW hS hR hl hcs next
  · refine lv_tableIn (off := 644) (tgt := 684) hx hb dL_law_40 (by decide) (by decide) rfl (by decide) ?_
    exact ca_hold hC hin ha1 ha2 ha3 hW hS hR hl hcs next
  · refine lv_tableIn (off := 742) (tgt := 782) hx hb dL_law_40 (by decide) (by decide) rfl (by decide) ?_
    exact ca_lift hC hin ha1 ha2 ha3 hW hS hR hl hcs next
  · refine lv_tableIn (off := 778) (tgt := 818) hx hb dL_law_40 (by decide) (by decide) rfl (by decide) ?_
    exact ca_covered hC hin ha1 ha2 ha3 hW hS hR hl hcs next
  · refine lv_tableIn (off := 834) (tgt := 874) hx hb dL_law_40 (by decide) (by decide) rfl (by decide) ?_
    exact ca_due hC hin ha1 ha2 ha3 hW hS hR hl hcs next
  · refine lv_tableIn (off := 890) (tgt := 930) hx hb dL_law_40 (by decide) (by decide) rfl (by decide) ?_
    exact ca_record hC hin ha1 ha2 ha3 hW hS hR hl hcs next
  · refine lv_tableIn (off := 958) (tgt := 998) hx hb dL_law_40 (by decide) (by decide) rfl (by decide) ?_
    exact ca_read hC hin ha1 ha2 ha3 hW hS hR hl hcs next
  · refine lv_tableIn (off := 1013) (tgt := 1053) hx hb dL_law_40 (by decide) (by decide) rfl (by decide) ?_
    exact ca_find hC hin ha1 ha2 ha3 hW hS hR hl hcs next
  · refine lv_tableIn (off := 1105) (tgt := 1145) hx hb dL_law_40 (by decide) (by decide) rfl (by decide) ?_
    exact ca_draw hC hin ha1 ha2 ha3 hW hS hR hl hcs next
  · refine lv_tableIn (off := 1173) (tgt := 1213) hx hb dL_law_40 (by decide) (by decide) rfl (by decide) ?_
    exact ca_listed hC hin ha1 ha2 ha3 hW hS hR hl hcs next
  · refine lv_tableIn (off := 1241) (tgt := 1281) hx hb dL_law_40 (by decide) (by decide) rfl (by decide) ?_
    exact ca_approve hC hin ha1 ha2 ha3 hW hS hR hl hcs next
  · refine lv_tableIn (off := 1309) (tgt := 1349) hx hb dL_law_40 (by decide) (by decide) rfl (by decide) ?_
    exact ca_strike hC hin ha1 ha2 ha3 hW hS hR hl hcs next
  · refine lv_tableIn (off := 1377) (tgt := 1417) hx hb dL_law_40 (by decide) (by decide) rfl (by decide) ?_
    exact ca_carry hC hin ha1 ha2 ha3 hW hS hR hl hcs next
  · refine lv_tableIn (off := 1457) (tgt := 1497) hx hb dL_law_40 (by decide) (by decide) rfl (by decide) ?_
    exact ca_count hC hin ha1 ha2 ha3 hW hS hR hl hcs next
  · refine lv_tableIn (off := 1513) (tgt := 1553) hx hb dL_law_40 (by decide) (by decide) rfl (by decide) ?_
    exact ca_act hC hin ha1 ha2 ha3 hW hS hR hl hcs next
  · refine lv_tableIn (off := 1581) (tgt := 1621) hx hb dL_law_40 (by decide) (by decide) rfl (by decide) ?_
    exact ca_link hC hin ha1 ha2 ha3 hW hS hR hl hcs next
  · refine lv_tableIn (off := 1636) (tgt := 1676) hx hb dL_law_40 (by decide) (by decide) rfl (by decide) ?_
    exact ca_spoil hC hin ha1 ha2 ha3 hW hS hR hl hcs next
  · refine lv_tableIn (off := 1696) (tgt := 1736) hx hb dL_law_40 (by decide) (by decide) rfl (by decide) ?_
    exact ca_broken hC hin ha1 ha2 ha3 hW hS hR hl hcs next
  · refine lv_tableIn (off := 1709) (tgt := 1749) hx hb dL_law_40 (by decide) (by decide) rfl (by decide) ?_
    exact ca_later hC hin ha1 ha2 ha3 hW hS hR hl hcs next
  · refine lv_tableOut (tgt := 1829) hx hb dL_law_40 (Or.inr (by rw [nI_toInt (by omega)]; omega)) (by decide) ?_
    exact W.widen (k := cells + 8) (n := slots + 50) (Nat.le_add_right _ _) (Nat.le_add_right _ _) (next ad z q H [] ls ha1 ha2 ha3 hW hS hR hl)
set_option maxHeartbeats 4000000 in
set_option maxRecDepth 100000 in
theorem lw_loop {p : Program} {l : Launch} {e : Env} {s : State} {m : MethodId} {below : List Frame} {meth : Method} {c : Code} {b L : Nat} {xs : Nat → Int32} {D : va_G} {cA : Nat → ClassId} (hC : LX p l s m c b L xs D cA) (hL : L ≤ 4608) (hr : meth.sig.returnType = ret) (hlk : meth.locks = false) {a1 a2 a3 : Nat} : ∀ (n i : Nat) (H : Heap) (cells slots : Nat) (ls : Array Slot) (ad : Nat → Nat → Nat) (z : qC) (q : qM), i + n = 514 → a1 = ad 0 0 → a2 = ad 20 0 → a3 = ad 22 0 → wd D (wA s.heap.size) (PO cA ad z q) ad H → va_S (wA s.heap.size) s.heap H [] → RI z q → lv_has ls 8 [(4, .int (nI (9 * i))), (0, .ref b), (1, .ref a1), (2, .ref a2), (3, .ref a3)] → cells + 8 * n ≤ 601024 → slots + 50 * n ≤ 7293034 →
    W p l e room_1 s m #[Value.ref b] below meth c H [] cells slots (lw_Z below #[Value.ref b] s) (F0 m 23 ls []) := by
  have hC' := hC
  obtain ⟨hx, hb, hml, hown, hts, hK, hKD, hKX, hKN, hlt, hX, hbl⟩ := hC'
  intro n
  induction n with
  | zero =>
    intro i H cells slots ls ad z q hin ha1 ha2 ha3 hW hS hR hl hc hs
    refine lv_iload hx hb dL_law_23 (lv_at hl 0 rfl) ?_
    refine lv_aload_n hx hb dL_law_25 rfl (lv_at hl 1 rfl) ?_
    refine va_slen hx hb hX hbl (Nat.not_le.mpr hbl) hS dL_law_26 ?_
    refine lv_bipush (v := 9) hx hb dL_law_27 (by decide) ?_
    refine lv_isub hx hb dL_law_29 ?_
    have e1 := nI_toInt (n := 9 * i) (by omega)
    have e2 := nI_toInt (n := L) (by omega)
    have e3 := su_o (Int32.ofNat L) 9
    have k9 : (9 : Int32).toInt = 9 := rfl
    have e4 : (Int32.ofNat L).toInt = (L : Int) := e2
    refine lv_icmp_gt (tgt := 1835) hx hb dL_law_30 (by decide) (fun _ => ?_) (fun h => absurd (Int32.lt_iff_toInt_lt.mpr (by omega)) h)
    refine lv_iconst (v := 1) hx hb dL_law_1835 (by decide) ?_
    exact W.widen (k := 601024) (n := 7293034) (by omega) (by omega) (lw_ret hx hb hr hlk dL_law_1836)
  | succ n ih =>
    intro i H cells slots ls ad z q hin ha1 ha2 ha3 hW hS hR hl hc hs
    refine lv_iload hx hb dL_law_23 (lv_at hl 0 rfl) ?_
    refine lv_aload_n hx hb dL_law_25 rfl (lv_at hl 1 rfl) ?_
    refine va_slen hx hb hX hbl (Nat.not_le.mpr hbl) hS dL_law_26 ?_
    refine lv_bipush (v := 9) hx hb dL_law_27 (by decide) ?_
    refine lv_isub hx hb dL_law_29 ?_
    have e1 := nI_toInt (n := 9 * i) (by omega)
    have e2 := nI_toInt (n := L) (by omega)
    have e3 := su_o (Int32.ofNat L) 9
    have k9 : (9 : Int32).toInt = 9 := rfl
    have e4 : (Int32.ofNat L).toInt = (L : Int) := e2
    refine lv_icmp_gt (tgt := 1835) hx hb dL_law_30 (by decide) (fun _ => ?_) (fun h => ?_)
    · refine lv_iconst (v := 1) hx hb dL_law_1835 (by decide) ?_
      exact W.widen (k := 601024) (n := 7293034) (by omega) (by omega) (lw_ret hx hb hr hlk dL_law_1836)
    · have h' := cv_nlt h
      refine lw_turn hC hL (i := i) (by omega) ha1 ha2 ha3 hW hS hR hl ⟨show cells + 8 ≤ 601024 by omega, show slots + 50 ≤ 7293034 by omega⟩ ?_
      intro u z' q' H' locs' ls' hb1 hb2 hb3 hW' hS' hR' hl'
      have e9 : nI (9 * i) + Int32.ofInt 9 = nI (9 * (i + 1)) := by
        rw [show 9 * (i + 1) = 9 * i + 9 by omega, ← nI_add]
        rfl
      refine lv_iinc (k := 0) (lv' := [(4, .int (nI (9 * (i + 1)))), (0, .ref b), (1, .ref a1), (2, .ref a2), (3, .ref a3)]) hx hb dL_law_1829 hl' rfl e9 (by decide) rfl (fun ls hl => ?_)
      refine lv_goto (tgt := 23) hx hb dL_law_1832 (by decide) ?_
      refine va_forget (fun q hq => hS'.2.2 q hq) ?_
      exact ih (i + 1) H' (cells + 8) (slots + 50) ls u z' q' (by omega) hb1 hb2 hb3 hW' ⟨hS'.1, hS'.2.1, fun _ h => absurd h List.not_mem_nil⟩ hR' hl (by omega) (by omega)
