/-! laid by wip/whole/tools/lawfin.py -/
theorem WN_blind {D : va_G} {b0 : Nat} {cA : Nat → ClassId} {P : Nat → Nat → Option va_E} {ad : Nat → Nat → Nat} {av : List Value} : FrameBlind (va_Pc av (fun U => WB D b0 cA P ad U ∧ NX U)) := fun a U g mk q => by
  obtain ⟨q0, ⟨qK, qW, qz⟩, qN⟩ := q
  exact ⟨q0, ⟨va_K.moved (u := U) (U := U.calling g mk a) (Vm.Alike.refl U.vm) qK, qW, qz⟩, qN.blind⟩
theorem P2_22 {cA : Nat → ClassId} {P : Nat → Nat → Option va_E} {ad : Nat → Nat → Nat} (h : P 22 0 = none) : P2_X8_init cA P ad 22 0 = none := by
  unfold P2_X8_init
  rw [pu_n (by decide), pu_n (by decide), pu_n (by decide), pu_n (by decide), pu_n (by decide), pu_n (by decide), pu_n (by decide), pu_n (by decide), pu_n (by decide), pu_n (by decide), pu_n (by decide), pu_n (by decide), pu_n (by decide), pu_n (by decide), pu_n (by decide), pu_n (by decide), pu_n (by decide), pu_n (by decide), pu_n (by decide), pu_n (by decide), pu_n (by decide), pu_n (by decide), pu_n (by decide), pu_n (by decide), pu_n (by decide), pu_n (by decide), pu_n (by decide), pu_n (by decide), pu_n (by decide)]
  exact h
theorem P2_c {cA : Nat → ClassId} {P : Nat → Nat → Option va_E} {ad ad2 : Nat → Nat → Nat} (h : ad 21 = ad2 21) : P2_X8_init cA P ad = P2_X8_init cA P ad2 := by
  unfold P2_X8_init
  rw [h]
set_option maxHeartbeats 4000000 in
set_option maxRecDepth 100000 in
theorem whole_body {p : Program} {e : Env} {s : State} {m : MethodId} {below : List Frame} {meth : Method} {c : Code} (l : Launch) {b L : Nat} {xs : Nat → Int32} {D : va_G} {cA : Nat → ClassId} (hL : L ≤ 4608) (hC : LX p l s m c b L xs D cA) (hNX : NX s) (hr : meth.sig.returnType = ret) (hlk : meth.locks = false) {ls : Array Slot} (hl : lv_has ls 8 [(0, .ref b)]) : W p l e room_1 s m #[Value.ref b] below meth c s.heap [] 0 0 (lw_Z below #[Value.ref b] s) (F0 m 0 ls []) := by
  have hC' := hC
  obtain ⟨hx, hb, hml, hown, hts, hK, hKD, hKX, hKN, hlt, hX, hbl⟩ := hC'
  have hS : va_S (wA s.heap.size) s.heap s.heap [] := va_S.rf
  refine bd_new (ci := 6) (C := RX7) (T := TX7) (N := 11) (fs := [.null, .null, .null, .null, .null, .null, .null, .int 0, .int 0, .int 0, .int 0]) hx hb hts inlX7 tyX7 tyX7_ok hown (in_r1 _ (List.mem_of_getElem? (i := 0) rfl)) (in_r1 _ (List.mem_of_getElem? (i := 1) rfl)) (in_r1 _ (List.mem_of_getElem? (i := 2) rfl)) hK (wd_nil (ad := fun _ _ => 0)) hS (Nat.le_refl _) rfl (fun j hj => by rcases (show j = 0 ∨ j = 1 ∨ j = 2 ∨ j = 3 ∨ j = 4 ∨ j = 5 ∨ j = 6 ∨ j = 7 ∨ j = 8 ∨ j = 9 ∨ j = 10 by omega) with rfl | rfl | rfl | rfl | rfl | rfl | rfl | rfl | rfl | rfl | rfl <;> rfl) 0 0 rfl (Nat.le_of_ble_eq_true rfl) (Nat.le_of_ble_eq_true rfl) dL_law_0 (fun q0 H hW hS => ?_)
  refine lv_dup hx hb dL_law_3 rfl ?_
  refine va_callv (va_runI (As := []) (rest := [.ref q0]) ⟨hx, hb, hml, hown, hts⟩ (c_X7_init l D s.heap.size cA (pu (fun _ _ => none) 0 0 (.inr (6, [.null, .null, .null, .null, .null, .null, .null, .int 0, .int 0, .int 0, .int 0]))) (au (fun _ _ => 0) 0 0 q0) q0 au_s pu_s (fun k j h1 h2 => pu_n (fun z => by omega))) (cwI 0 hts gL_law_X7_init rfl rfl rfl (hts _ (in_r1 _ (List.mem_of_getElem? (i := 2) rfl))) (hts _ (in_r1 _ (List.mem_of_getElem? (i := 8) rfl))) (hts _ (in_r1 _ (List.mem_of_getElem? (i := 9) rfl))) rfl (by decide +kernel) ⟨Nat.le_of_ble_eq_true rfl, Nat.le_of_ble_eq_true rfl⟩) ⟨WN_blind, fun U hU hw => ⟨rfl, ⟨va_K.moved hw.alike hK, by rw [hU]; exact hW, by rw [hU]; exact hS.1⟩, hNX.at hw⟩⟩ rfl rfl hl.1 rfl (lv_room (Nat.le_of_ble_eq_true rfl)) dL_law_4 ⟨Nat.le_of_ble_eq_true rfl, Nat.le_of_ble_eq_true rfl⟩) hS (fun q _ h => h) (fun q h => h) (fun ad1 t H locs ht hvm hp hB _ _ hS => ?_)
  have e00 : ad1 0 0 = q0 := (hp 0 0 (Or.inl rfl)).trans au_s
  have hW1 : wd D (wA s.heap.size) (PS cA ad1) ad1 H := PS_wd (by rw [← ht]; exact hB.2)
  refine lv_astore_n (lv' := [(1, .ref q0), (0, .ref b)]) hx hb dL_law_7 rfl hl (by decide) rfl (fun ls hl => ?_)
  refine bd_new (ci := 7) (C := RX8) (T := TX8) (N := 34) (fs := [.int 0, .null, .int 0, .int 0, .null, .null, .null, .null, .null, .null, .null, .null, .int 0, .null, .null, .null, .null, .null, .null, .null, .null, .null, .null, .null, .null, .int 0, .null, .null, .null, .null, .null, .int 0, .null, .null]) hx hb hts inlX8 tyX8 tyX8_ok hown (in_r1 _ (List.mem_of_getElem? (i := 3) rfl)) (in_r1 _ (List.mem_of_getElem? (i := 4) rfl)) (in_r1 _ (List.mem_of_getElem? (i := 5) rfl)) hK hW1 hS (Nat.le_refl _) rfl (fun j hj => by rcases (show j = 0 ∨ j = 1 ∨ j = 2 ∨ j = 3 ∨ j = 4 ∨ j = 5 ∨ j = 6 ∨ j = 7 ∨ j = 8 ∨ j = 9 ∨ j = 10 ∨ j = 11 ∨ j = 12 ∨ j = 13 ∨ j = 14 ∨ j = 15 ∨ j = 16 ∨ j = 17 ∨ j = 18 ∨ j = 19 ∨ j = 20 ∨ j = 21 ∨ j = 22 ∨ j = 23 ∨ j = 24 ∨ j = 25 ∨ j = 26 ∨ j = 27 ∨ j = 28 ∨ j = 29 ∨ j = 30 ∨ j = 31 ∨ j = 32 ∨ j = 33 by omega) with rfl | rfl | rfl | rfl | rfl | rfl | rfl | rfl | rfl | rfl | rfl | rfl | rfl | rfl | rfl | rfl | rfl | rfl | rfl | rfl | rfl | rfl | rfl | rfl | rfl | rfl | rfl | rfl | rfl | rfl | rfl | rfl | rfl | rfl <;> rfl) 20 0 (PS_hi (by decide)) (Nat.le_of_ble_eq_true rfl) (Nat.le_of_ble_eq_true rfl) dL_law_8 (fun q20 H hW hS => ?_)
  refine lv_dup hx hb dL_law_11 rfl ?_
  refine bd_ini (n := 0) (As := []) (rest := [.ref q20]) ⟨hx, hb, hml, hown, hts⟩ (c_X8_init l D s.heap.size cA (pu (PS cA ad1) 20 0 (.inr (7, [.int 0, .null, .int 0, .int 0, .null, .null, .null, .null, .null, .null, .null, .null, .int 0, .null, .null, .null, .null, .null, .null, .null, .null, .null, .null, .null, .null, .int 0, .null, .null, .null, .null, .null, .int 0, .null, .null]))) (au ad1 20 0 q20) q20 au_s pu_s (fun f => (pu_n (fun z => by omega)).trans (PS_hi (by decide)))) gL_law_X8_init rfl (in_r1 _ (List.mem_of_getElem? (i := 5) rfl)) hm101 hi101 rfl (by decide +kernel) rfl ⟨Nat.le_of_ble_eq_true rfl, Nat.le_of_ble_eq_true rfl⟩ ⟨Nat.le_of_ble_eq_true rfl, Nat.le_of_ble_eq_true rfl⟩ hK hW hS (Nat.le_refl _) hl.1 rfl (Nat.le_of_ble_eq_true rfl) dL_law_12 (fun ad3 H locs hF hW hS => ?_)
  refine lv_astore_n (lv' := [(2, .ref q20), (1, .ref q0), (0, .ref b)]) hx hb dL_law_15 rfl hl (by decide) rfl (fun ls hl => ?_)
  refine lv_iconst (v := 1) hx hb dL_law_16 (by decide) ?_
  refine bd_newl (N' := 1) hx hb (in_r1 _ (List.mem_of_getElem? (i := 6) rfl)) hts hK hW hS (Nat.le_refl _) (by decide) rfl (by decide) 22 0 (P2_22 ((pu_n (by decide)).trans (PS_hi (by decide)))) (Nat.le_of_ble_eq_true rfl) (Nat.le_of_ble_eq_true rfl) dL_law_17 (fun q22 H hW hS => ?_)
  refine lv_astore_n (lv' := [(3, .ref q22), (2, .ref q20), (1, .ref q0), (0, .ref b)]) hx hb dL_law_19 rfl hl (by decide) rfl (fun ls hl => ?_)
  refine lv_iconst (v := 0) hx hb dL_law_20 (by decide) ?_
  refine lv_istore (lv' := [(4, .int 0), (3, .ref q22), (2, .ref q20), (1, .ref q0), (0, .ref b)]) hx hb dL_law_21 hl (by decide) rfl (fun ls hl => ?_)
  have hl : lv_has ls 8 [(4, .int (nI (9 * 0))), (0, .ref b), (1, .ref q0), (2, .ref q20), (3, .ref q22)] := by
    rw [show nI (9 * 0) = 0 from nI_0]
    exact lv_sub hl [0, 4, 3, 2, 1] rfl
  have ek : ∀ k, k ≠ 20 → k ≠ 21 → k ≠ 22 → (au ad3 22 0 q22) k = ad1 k := fun k h0 h1 h2 => funext fun i => by
    rw [au_n (fun z => h2 z.1), hF k i h1, au_n (fun z => h0 z.1)]
  have e21 : (au ad3 22 0 q22) 21 = ad3 21 := funext fun i => au_n (fun z => absurd z.1 (by decide))
  have ePS : PS cA ad1 = PS cA (au ad3 22 0 q22) := by
    unfold PS
    rw [PI_c (fun k h1 h2 => (ek k (by omega) (by omega) (by omega)).symm), ek 10 (by decide) (by decide) (by decide), ek 15 (by decide) (by decide) (by decide)]
  have hW2 : wd D (wA s.heap.size) (PO cA (au ad3 22 0 q22) c0 m0) (au ad3 22 0 q22) H := by
    refine wd_mono hW (fun a b e h => ?_)
    have := PO_0 a b e h
    unfold PF at this
    rw [← ePS, ← P2_c e21.symm] at this
    exact this
  refine va_forget (fun q hq => hS.2.2 q hq) ?_
  exact lw_loop hC hL hr hlk 514 0 H _ _ ls (au ad3 22 0 q22) c0 m0 rfl (by rw [au_n (by decide), hF 0 0 (by decide), au_n (by decide), e00]) (by rw [au_n (by decide), hF 20 0 (by decide), au_s]) au_s.symm hW2 ⟨hS.1, hS.2.1, fun _ h => absurd h List.not_mem_nil⟩ RI_0 hl (Nat.le_of_ble_eq_true rfl) (Nat.le_of_ble_eq_true rfl)
theorem whole_start {p : Program} {e : Env} {s : State} {m : MethodId} {below : List Frame} {meth : Method} {c : Code} (l : Launch) (hlt : l.stackTraces = false) {b L : Nat} {xs : Nat → Int32} (hL : L ≤ 4608) (C0 : lw_At p s m meth c b L xs) : W p l e room_1 s m #[Value.ref b] below meth c s.heap [] 0 0 (lw_Z below #[Value.ref b] s) (entryFrame m ([Value.ref b] : List Value).toArray 8) := by
  obtain ⟨hx, hb, hr, hml, hown, hts0, hX, hbl, hlk, hgv⟩ := C0
  have hts : ∀ w ∈ wsL_law, w.before #[Value.ref b] s = true := fun w h => hts0 w (wsL_law_in w h)
  have hT : ∀ w ∈ kT, w.before #[Value.ref b] s = true := fun w h => hts0 w (kT_in w h)
  have hF : ∀ w ∈ kF, w.before #[Value.ref b] s = true := fun w h => flat_of_before _ hgv w (kF_in w h)
  obtain ⟨D, cA, hK⟩ := k_K hts hT
  have hl2 := lv_entry [Value.ref b] (n := 8) (Nat.le_of_ble_eq_true rfl)
  rw [lg_entry_eq]
  exact whole_body l hL ⟨hx, hb, hml, hown, hts, hK, k_KD hT hF, k_KX hT hF, k_KN hT hF, hlt, hX, hbl⟩ (k_NX hT hF) hr hlk hl2
