/-! laid by wip/whole/tools/init7.py -/
def PI (n h : Nat) (cA : Nat → ClassId) (ad : Nat → Nat → Nat) (k j : Nat) : Option va_E := match k with
  | 0 => if j = 0 then some (.inr (6, [.ref (ad 1 0), .ref (ad 2 0), .ref (ad 3 0), .ref (ad 4 0), .ref (ad 5 0), .ref (ad 6 0), .ref (ad 7 0), .int 0, .int 0, .int 0, .int 1])) else none
  | 1 => if j = 0 then some (.inl (cA 0, 8, .inl (fun _ => 0))) else none
  | 2 => if j = 0 then some (.inl (cA 3, vp_q 8 (fun x => if x < n then some (ad 10 x) else none))) else none
  | 3 => if j = 0 then some (.inl (cA 4, vp_q 16 (fun _ => none))) else none
  | 4 => if j = 0 then some (.inl (cA 5, vp_q 8 (fun x => if x < h then some (ad 15 x) else none))) else none
  | 5 => if j = 0 then some (.inl (cA 6, vp_q 64 (fun _ => none))) else none
  | 6 => if j = 0 then some (.inl (cA 7, vp_q 16 (fun _ => none))) else none
  | 7 => if j = 0 then some (.inr (0, [.ref (ad 8 0), .ref (ad 9 0), .int 0])) else none
  | 8 => if j = 0 then some (.inl (cA 0, 1600, .inl (fun _ => 0))) else none
  | 9 => if j = 0 then some (.inl (cA 1, 400, .inr (.inl (fun _ => 0)))) else none
  | 10 => if j < n then some (.inr (5, [.ref (ad 11 j), .ref (ad 12 j), .ref (ad 13 j), .int 0, .int 0])) else none
  | 11 => if j < n then some (.inl (cA 0, 6, .inl (fun _ => 0))) else none
  | 12 => if j < n then some (.inl (cA 0, 6, .inl (fun _ => 0))) else none
  | 13 => if j < n then some (.inl (cA 2, 6, .inl (fun _ => 0))) else none
  | 15 => if j < h then some (.inr (4, [.int 0, .int 0, .int 0, .int 0, .int 0, .int 0])) else none
  | _ => none
def NX (U : State) : Prop := va_Nw (.methodLinkNest RX7 45 yX0_init RX7) U ∧ va_Nw (.methodLinkNest RX7 54 yX6_init RX7) U ∧ va_Nw (.methodLinkNest RX7 55 yX5_init RX7) U ∧ va_AO RX6 U ∧ va_AO RX4 U ∧ va_AO RX5 U ∧ va_AO RX3 U ∧ va_AO RX2 U
theorem NX.at {s U : State} (h : NX s) (hw : s.WarmedH U.vm) : NX U := ⟨va_Nw.warmM hw h.1, va_Nw.warmM hw h.2.1, va_Nw.warmM hw h.2.2.1, va_AO.moved hw.alike h.2.2.2.1, va_AO.moved hw.alike h.2.2.2.2.1, va_AO.moved hw.alike h.2.2.2.2.2.1, va_AO.moved hw.alike h.2.2.2.2.2.2.1, va_AO.moved hw.alike h.2.2.2.2.2.2.2⟩
theorem NX.blind {U : State} {g : JFrame} {mk : MethodId} {a : Array Value} (h : NX U) : NX (U.calling g mk a) := ⟨va_Nw.same rfl rfl h.1, va_Nw.same rfl rfl h.2.1, va_Nw.same rfl rfl h.2.2.1, va_AO.moved (u := U) (U := U.calling g mk a) (Vm.Alike.refl U.vm) h.2.2.2.1, va_AO.moved (u := U) (U := U.calling g mk a) (Vm.Alike.refl U.vm) h.2.2.2.2.1, va_AO.moved (u := U) (U := U.calling g mk a) (Vm.Alike.refl U.vm) h.2.2.2.2.2.1, va_AO.moved (u := U) (U := U.calling g mk a) (Vm.Alike.refl U.vm) h.2.2.2.2.2.2.1, va_AO.moved (u := U) (U := U.calling g mk a) (Vm.Alike.refl U.vm) h.2.2.2.2.2.2.2⟩
theorem PI_s {n : Nat} {cA : Nat → ClassId} {ad ad2 : Nat → Nat → Nat} {q : Nat} (hF : F_X6_init n (au ad 10 n q) ad2) : ∀ a b e, PI (n + 1) 0 cA ad2 a b = some e → pu (P2_X6_init cA (pu (PI n 0 cA ad) 10 n (.inr (5, [.null, .null, .null, .int 0, .int 0]))) n ad2) 2 0 (.inl (cA 3, vp_q 8 (va_up (fun x => if x < n then some (ad 10 x) else none) n (some q)))) a b = some e := by
  intro a b e h
  have E : ∀ k i, (k ≠ 10 ∧ k ≠ 11 ∧ k ≠ 12 ∧ k ≠ 13) ∨ i ≠ n → ad2 k i = ad k i := fun k i hk => (hF k i (by omega)).trans (au_n (by omega))
  have E10 : ad2 10 n = q := (hF 10 n (by omega)).trans au_s
  unfold P2_X6_init
  by_cases h2 : a = 2 ∧ b = 0
  · obtain ⟨rfl, rfl⟩ := h2
    rw [pu_s, ← h]
    show _ = (some (Sum.inl (cA 3, vp_q 8 (fun x => if x < n + 1 then some (ad2 10 x) else none))) : Option va_E)
    congr 3
    unfold vp_q
    congr 5
    funext x
    unfold va_up
    by_cases hx : x = n
    · subst hx; rw [if_pos rfl, if_pos (by omega), E10]
    · rw [if_neg hx]
      dsimp only
      by_cases hl : x < n
      · rw [if_pos hl, if_pos (by omega), E 10 x (Or.inr hx)]
      · rw [if_neg hl, if_neg (by omega)]
  · rw [pu_n h2]
    by_cases hb : b = n ∧ (a = 10 ∨ a = 11 ∨ a = 12 ∨ a = 13)
    · obtain ⟨rfl, h10 | h11 | h12 | h13⟩ := hb
      · subst h10
        rw [pu_s, ← h]
        show _ = if b < b + 1 then _ else _
        rw [if_pos (by omega)]
      · subst h11
        rw [pu_n (fun h => absurd h.1 (by decide)), pu_n (fun h => absurd h.1 (by decide)), pu_n (fun h => absurd h.1 (by decide)), pu_s, ← h]
        show _ = if b < b + 1 then _ else _
        rw [if_pos (by omega)]
      · subst h12
        rw [pu_n (fun h => absurd h.1 (by decide)), pu_n (fun h => absurd h.1 (by decide)), pu_s, ← h]
        show _ = if b < b + 1 then _ else _
        rw [if_pos (by omega)]
      · subst h13
        rw [pu_n (fun h => absurd h.1 (by decide)), pu_s, ← h]
        show _ = if b < b + 1 then _ else _
        rw [if_pos (by omega)]
    · rw [pu_n (by omega), pu_n (by omega), pu_n (by omega), pu_n (by omega), pu_n (by omega), ← h]
      unfold PI
      split
      · rw [E 1 0 (by omega), E 2 0 (by omega), E 3 0 (by omega), E 4 0 (by omega), E 5 0 (by omega), E 6 0 (by omega), E 7 0 (by omega)]
      · rfl
      · rw [if_neg (fun q => h2 ⟨rfl, q⟩), if_neg (fun q => h2 ⟨rfl, q⟩)]
      · rfl
      · rfl
      · rfl
      · rfl
      · rw [E 8 0 (by omega), E 9 0 (by omega)]
      · rfl
      · rfl
      · have hb2 : b ≠ n := by omega
        rw [E 11 b (Or.inr hb2), E 12 b (Or.inr hb2), E 13 b (Or.inr hb2)]
        by_cases hl : b < n
        · rw [if_pos hl, if_pos (by omega)]
        · rw [if_neg hl, if_neg (by omega)]
      · have hb2 : b ≠ n := by omega
        by_cases hl : b < n
        · rw [if_pos hl, if_pos (by omega)]
        · rw [if_neg hl, if_neg (by omega)]
      · have hb2 : b ≠ n := by omega
        by_cases hl : b < n
        · rw [if_pos hl, if_pos (by omega)]
        · rw [if_neg hl, if_neg (by omega)]
      · have hb2 : b ≠ n := by omega
        by_cases hl : b < n
        · rw [if_pos hl, if_pos (by omega)]
        · rw [if_neg hl, if_neg (by omega)]
      · rfl
      · rfl
theorem PI_h {n : Nat} {cA : Nat → ClassId} {ad : Nat → Nat → Nat} {q : Nat} : ∀ a b e, PI 8 (n + 1) cA (au ad 15 n q) a b = some e → pu (pu (PI 8 n cA ad) 15 n (.inr (4, [.int 0, .int 0, .int 0, .int 0, .int 0, .int 0]))) 4 0 (.inl (cA 5, vp_q 8 (va_up (fun x => if x < n then some (ad 15 x) else none) n (some q)))) a b = some e := by
  intro a b e h
  by_cases h2 : a = 4 ∧ b = 0
  · obtain ⟨rfl, rfl⟩ := h2
    rw [pu_s, ← h]
    show _ = (some (Sum.inl (cA 5, vp_q 8 (fun x => if x < n + 1 then some (au ad 15 n q 15 x) else none))) : Option va_E)
    congr 3
    unfold vp_q
    congr 5
    funext x
    unfold va_up
    by_cases hx : x = n
    · subst hx; rw [if_pos rfl, if_pos (by omega), au_s]
    · rw [if_neg hx]
      dsimp only
      by_cases hl : x < n
      · rw [if_pos hl, if_pos (by omega), au_n (by omega)]
      · rw [if_neg hl, if_neg (by omega)]
  · rw [pu_n h2]
    by_cases hb : a = 15 ∧ b = n
    · obtain ⟨rfl, rfl⟩ := hb
      rw [pu_s, ← h]
      show _ = if b < b + 1 then _ else _
      rw [if_pos (by omega)]
    · rw [pu_n hb, ← h]
      unfold PI
      split
      · rfl
      · rfl
      · rfl
      · rfl
      · rw [if_neg (fun q => h2 ⟨rfl, q⟩), if_neg (fun q => h2 ⟨rfl, q⟩)]
      · rfl
      · rfl
      · rfl
      · rfl
      · rfl
      · rfl
      · rfl
      · rfl
      · rfl
      · have hb2 : b ≠ n := by omega
        by_cases hl : b < n
        · rw [if_pos hl, if_pos (by omega)]
        · rw [if_neg hl, if_neg (by omega)]
      · rfl
def FI (ad ad2 : Nat → Nat → Nat) : Prop := ∀ k j, k = 0 ∨ 16 ≤ k → ad2 k j = ad k j
set_option maxHeartbeats 4000000 in
set_option maxRecDepth 100000 in
theorem c_X7_init (l : Launch) (D : va_G) (b0 : Nat) (cA : Nat → ClassId) (P : Nat → Nat → Option va_E) (ad : Nat → Nat → Nat) (a0 : Nat) (ha : ad 0 0 = a0) (he : P 0 0 = some (.inr (6, [.null, .null, .null, .null, .null, .null, .null, .int 0, .int 0, .int 0, .int 0]))) (hn : ∀ k j, 1 ≤ k → k ≤ 15 → P k j = none) :
    Met l yX7_init wsX7_init { frames := 2, cells := 49, slots := 2355, locals := 80 } (va_Pc [.ref a0] (fun U => WB D b0 cA P ad U ∧ NX U)) (va_Qv (fun ad2 : Nat → Nat → Nat => FI ad ad2) (fun ad2 U => va_K D vwCl (wd_tys cA) U ∧ wd D (wA b0) (PI 8 8 cA ad2) ad2 U.heap) (wA b0)) 49 2355 (wA b0) := by
  refine Met.ofW (cc := cX7_init) (maxL := 2) (ret := none) (by decide) rfl ?_
  intro p e s m args below meth c s₁ B hml hv
  obtain ⟨rfl, ⟨hK, hW, hz⟩, hNX⟩ := hv
  have hx := B.exec
  have hb := B.bytes
  have hr := B.returns
  have hlk := B.notSynchronized
  have hnm : meth.name = "<init>" := (name_of_methodNamed B.named B.method).1
  have hts := atoms_spec (ws := wsX7_init) B.pre
  have hown : s.vm.findClass RX7 = some m.cls := findClass_of_methodNamed B.named
  have hS : va_S (wA b0) s.heap s.heap [] := va_S.rf
  have hl := lv_entry ([.ref a0]) (n := 2) (Nat.le_of_ble_eq_true rfl)
  rw [lg_entry_eq]
  generalize (lg_sl ([.ref a0]) ++ List.replicate (2 - (lg_sl ([.ref a0])).length) Slot.unset).toArray = ls at hl ⊢
  have hl : lv_has ls 2 [(0, .ref a0)] := hl
  have hin_X7 : ∀ w ∈ wsX70, w ∈ wsX7_init := fun w h => List.mem_cons_of_mem _ (List.mem_append_left _ (List.mem_append_left _ (List.mem_append_left _ (List.mem_append_right _ h))))
  have hin_X0 : ∀ w ∈ wsX00, w ∈ wsX7_init := fun w h => List.mem_cons_of_mem _ (List.mem_append_left _ (List.mem_append_left _ (List.mem_append_right _ h)))
  have hin_X6 : ∀ w ∈ wsX60, w ∈ wsX7_init := fun w h => List.mem_cons_of_mem _ (List.mem_append_left _ (List.mem_append_right _ h))
  have hin_X5 : ∀ w ∈ wsX50, w ∈ wsX7_init := fun w h => List.mem_cons_of_mem _ (List.mem_append_right _ h)
  have lp2 : ∀ (d i : Nat), i + d = 8 → ∀ (adx : Nat → Nat → Nat) (H : Heap) (locs : List Loc), FI ad adx → wd D (wA b0) (PI 8 i cA adx) adx H → va_S (wA b0) s.heap H locs → ∀ ls : Array Slot, lv_has ls 2 [(1, .int (nI i)), (0, .ref a0)] → W p l e { frames := 2, cells := 49, slots := 2355, locals := 80 } s m [Value.ref a0].toArray below meth c H locs (41 + 1 * i) (2307 + 6 * i) (MQ below (va_Qv (fun ad2 : Nat → Nat → Nat => FI ad ad2) (fun ad2 U => va_K D vwCl (wd_tys cA) U ∧ wd D (wA b0) (PI 8 8 cA ad2) ad2 U.heap) (wA b0)) [Value.ref a0].toArray s 49 2355 (wA b0)) (F0 m 102 ls []) := by
    intro d
    induction d with
    | zero =>
      intro i hi adx H locs hFF hW hS ls hl
      have hi : i = 8 := by omega
      subst hi
      refine lv_iload_n hx hb dX7_init_102 rfl (lv_at hl 0 rfl) ?_
      refine lv_bipush (v := 8) hx hb dX7_init_103 (by decide) ?_
      refine lv_icmp_ge (tgt := 127) hx hb dX7_init_105 (by decide) (fun c => ?_) (fun c => ?_)
      · exact bd_ret (ad := adx) (F := fun ad2 => FI ad ad2) (P2 := PI 8 8 cA) hx hb hr hlk hK hFF hW hS (Nat.le_of_ble_eq_true rfl) (Nat.le_of_ble_eq_true rfl) dX7_init_127
      · exact absurd (show (8 : Int32) ≤ nI 8 by decide) c
    | succ d ih =>
      intro i hi adx H locs hFF hW hS ls hl
      have k8 : (8 : Int32).toInt = 8 := rfl
      have ki := nI_toInt (n := i) (by omega)
      have kc := nI_clamp (n := i) (by omega)
      have g0 : adx 0 0 = a0 := (hFF 0 0 (by omega)).trans ha
      refine lv_iload_n hx hb dX7_init_102 rfl (lv_at hl 0 rfl) ?_
      refine lv_bipush (v := 8) hx hb dX7_init_103 (by decide) ?_
      refine lv_icmp_ge (tgt := 127) hx hb dX7_init_105 (by decide) (fun c => ?_) (fun c => ?_)
      · have := cv_le c; omega
      · refine lv_aload_n hx hb dX7_init_108 rfl (lv_at hl 1 rfl) ?_
        refine bd_get (C := RX7) (T := TX7) (N := 11) (v := .ref (adx 4 0)) hx hb hts hin_X7 hown hK hW 0 0 g0 rfl rfl 3 (by decide) (List.mem_of_getElem? (i := 11) rfl) rfl rfl dX7_init_109 ?_
        refine lv_iload_n hx hb dX7_init_112 rfl (lv_at hl 0 rfl) ?_
        refine bd_new (ci := 4) (C := RX5) (T := TX5) (N := 6) (fs := [.int 0, .int 0, .int 0, .int 0, .int 0, .int 0]) hx hb hts hin_X5 tyX5 tyX5_ok hown (List.mem_of_getElem? (i := 10) rfl) (List.mem_of_getElem? (i := 23) rfl) (List.mem_of_getElem? (i := 24) rfl) hK hW hS hz rfl (fun j hj => by rcases (show j = 0 ∨ j = 1 ∨ j = 2 ∨ j = 3 ∨ j = 4 ∨ j = 5 by omega) with rfl | rfl | rfl | rfl | rfl | rfl <;> rfl) 15 i (by show (if i < i then _ else none) = none; rw [if_neg (by omega)]) (show 41 + 1 * i + 1 ≤ 49 by omega) (show 2307 + 6 * i + 6 ≤ 2355 by omega) dX7_init_113 (fun q H hW hS => ?_)
        refine lv_dup hx hb dX7_init_116 rfl ?_
        refine bd_iniN (n := 0) (As := []) (rest := [.ref q, .int (nI i), .ref (adx 4 0)]) ⟨hx, hb, hml, hown, hts⟩ (c_X5_init l D b0 cA _ (au adx 15 i q) 15 i q au_s pu_s) gX7_init_X5_init_n55 rfl (List.mem_of_getElem? (i := 24) rfl) hNX.2.2.1 (List.mem_of_getElem? (i := 38) rfl) rfl (by decide +kernel) rfl ⟨Nat.le_of_ble_eq_true rfl, Nat.le_of_ble_eq_true rfl⟩ ⟨show 41 + 1 * i + 1 + 0 ≤ 49 by omega, show 2307 + 6 * i + 6 + 0 ≤ 2355 by omega⟩ hK hW hS hz hl.1 rfl (Nat.le_of_ble_eq_true rfl) dX7_init_117 (fun ad2 H locs hF hW hS => ?_)
        have hF : ad2 = au adx 15 i q := hF
        subst hF
        unfold P2_X5_init at hW
        refine bd_aast (a := adx 4 0) (t := 5) (C := RX5) (T := TX5) (N := 6) hx hb hK hW hS 4 0 (au_n (fun h => absurd h.1 (by decide))) ((pu_n (fun h => absurd h.1 (by decide))).trans rfl) rfl 15 i au_s pu_s rfl (vp_in_iff.mpr (by omega)) dX7_init_120 (fun H locs hW hS => ?_)
        rw [kc] at hW
        have hW := wd_mono hW PI_h
        refine lv_iinc (v := nI i + 1) (lv' := [(1, .int (nI i + 1)), (0, .ref a0)]) hx hb dX7_init_121 hl (k := 0) rfl (by first | rfl | decide) (by decide) rfl (fun ls hl => ?_)
        refine lv_goto (tgt := 102) hx hb dX7_init_124 (by decide) ?_
        rw [nI_1] at hl
        exact W.widen (k := 41 + 1 * (i + 1)) (n := 2307 + 6 * (i + 1)) (by omega) (by omega) (ih (i + 1) (by omega) _ H locs (fun k j hk => (au_n (by omega)).trans (hFF k j hk)) hW hS ls hl)
  have lp1 : ∀ (d i : Nat), i + d = 8 → ∀ (adx : Nat → Nat → Nat) (H : Heap) (locs : List Loc), FI ad adx → wd D (wA b0) (PI i 0 cA adx) adx H → va_S (wA b0) s.heap H locs → ∀ ls : Array Slot, lv_has ls 2 [(1, .int (nI i)), (0, .ref a0)] → W p l e { frames := 2, cells := 49, slots := 2355, locals := 80 } s m [Value.ref a0].toArray below meth c H locs (9 + 4 * i) (2123 + 23 * i) (MQ below (va_Qv (fun ad2 : Nat → Nat → Nat => FI ad ad2) (fun ad2 U => va_K D vwCl (wd_tys cA) U ∧ wd D (wA b0) (PI 8 8 cA ad2) ad2 U.heap) (wA b0)) [Value.ref a0].toArray s 49 2355 (wA b0)) (F0 m 75 ls []) := by
    intro d
    induction d with
    | zero =>
      intro i hi adx H locs hFF hW hS ls hl
      have hi : i = 8 := by omega
      subst hi
      refine lv_iload_n hx hb dX7_init_75 rfl (lv_at hl 0 rfl) ?_
      refine lv_bipush (v := 8) hx hb dX7_init_76 (by decide) ?_
      refine lv_icmp_ge (tgt := 100) hx hb dX7_init_78 (by decide) (fun c => ?_) (fun c => ?_)
      · refine lv_iconst (v := 0) hx hb dX7_init_100 (by decide) ?_
        refine lv_istore_n (lv' := [(1, .int 0), (0, .ref a0)]) hx hb dX7_init_101 rfl hl (by decide) rfl (fun ls hl => ?_)
        exact W.widen (k := 41 + 1 * 0) (n := 2307 + 6 * 0) (Nat.le_of_ble_eq_true rfl) (Nat.le_of_ble_eq_true rfl) (lp2 8 0 rfl adx H locs hFF hW hS ls hl)
      · exact absurd (show (8 : Int32) ≤ nI 8 by decide) c
    | succ d ih =>
      intro i hi adx H locs hFF hW hS ls hl
      have k8 : (8 : Int32).toInt = 8 := rfl
      have ki := nI_toInt (n := i) (by omega)
      have kc := nI_clamp (n := i) (by omega)
      have g0 : adx 0 0 = a0 := (hFF 0 0 (by omega)).trans ha
      refine lv_iload_n hx hb dX7_init_75 rfl (lv_at hl 0 rfl) ?_
      refine lv_bipush (v := 8) hx hb dX7_init_76 (by decide) ?_
      refine lv_icmp_ge (tgt := 100) hx hb dX7_init_78 (by decide) (fun c => ?_) (fun c => ?_)
      · have := cv_le c; omega
      · refine lv_aload_n hx hb dX7_init_81 rfl (lv_at hl 1 rfl) ?_
        refine bd_get (C := RX7) (T := TX7) (N := 11) (v := .ref (adx 2 0)) hx hb hts hin_X7 hown hK hW 0 0 g0 rfl rfl 1 (by decide) (List.mem_of_getElem? (i := 7) rfl) rfl rfl dX7_init_82 ?_
        refine lv_iload_n hx hb dX7_init_85 rfl (lv_at hl 0 rfl) ?_
        refine bd_new (ci := 5) (C := RX6) (T := TX6) (N := 5) (fs := [.null, .null, .null, .int 0, .int 0]) hx hb hts hin_X6 tyX6 tyX6_ok hown (List.mem_of_getElem? (i := 6) rfl) (List.mem_of_getElem? (i := 21) rfl) (List.mem_of_getElem? (i := 22) rfl) hK hW hS hz rfl (fun j hj => by rcases (show j = 0 ∨ j = 1 ∨ j = 2 ∨ j = 3 ∨ j = 4 by omega) with rfl | rfl | rfl | rfl | rfl <;> rfl) 10 i (by show (if i < i then _ else none) = none; rw [if_neg (by omega)]) (show 9 + 4 * i + 1 ≤ 49 by omega) (show 2123 + 23 * i + 5 ≤ 2355 by omega) dX7_init_86 (fun q H hW hS => ?_)
        refine lv_dup hx hb dX7_init_89 rfl ?_
        refine bd_iniN (n := 0) (As := []) (rest := [.ref q, .int (nI i), .ref (adx 2 0)]) ⟨hx, hb, hml, hown, hts⟩ (c_X6_init l D b0 cA _ (au adx 10 i q) i q au_s pu_s (by show (if i < i then _ else none) = none; rw [if_neg (by omega)]) (by show (if i < i then _ else none) = none; rw [if_neg (by omega)]) (by show (if i < i then _ else none) = none; rw [if_neg (by omega)])) gX7_init_X6_init_n54 rfl (List.mem_of_getElem? (i := 22) rfl) hNX.2.1 (List.mem_of_getElem? (i := 31) rfl) rfl (by decide +kernel) rfl ⟨Nat.le_of_ble_eq_true rfl, Nat.le_of_ble_eq_true rfl⟩ ⟨show 9 + 4 * i + 1 + 3 ≤ 49 by omega, show 2123 + 23 * i + 5 + 18 ≤ 2355 by omega⟩ hK hW hS hz hl.1 rfl (Nat.le_of_ble_eq_true rfl) dX7_init_90 (fun ad2 H locs hF hW hS => ?_)
        have g2 : ad2 2 0 = adx 2 0 := (hF 2 0 (by omega)).trans (au_n (by omega))
        have g10 : ad2 10 i = q := (hF 10 i (by omega)).trans au_s
        refine bd_aast (a := adx 2 0) (t := 3) (C := RX6) (T := TX6) (N := 5) hx hb hK hW hS 2 0 g2 rfl rfl 10 i g10 (by unfold P2_X6_init; exact pu_s) rfl (vp_in_iff.mpr (by omega)) dX7_init_93 (fun H locs hW hS => ?_)
        rw [kc] at hW
        have hW := wd_mono hW (PI_s hF)
        refine lv_iinc (v := nI i + 1) (lv' := [(1, .int (nI i + 1)), (0, .ref a0)]) hx hb dX7_init_94 hl (k := 0) rfl (by first | rfl | decide) (by decide) rfl (fun ls hl => ?_)
        refine lv_goto (tgt := 75) hx hb dX7_init_97 (by decide) ?_
        rw [nI_1] at hl
        exact W.widen (k := 9 + 4 * (i + 1)) (n := 2123 + 23 * (i + 1)) (by omega) (by omega) (ih (i + 1) (by omega) _ H locs (fun k j hk => (hF k j (by omega)).trans ((au_n (by omega)).trans (hFF k j hk))) hW hS ls hl)
  refine lv_aload_n hx hb dX7_init_0 rfl (lv_at hl 0 rfl) ?_
  refine W.objInit hx hb hown (hts _ (List.mem_of_getElem? (i := 1) rfl)) (hts _ (List.mem_of_getElem? (i := 2) rfl)) (hts _ (List.mem_of_getElem? (i := 3) rfl)) rfl (by rw [hml]; exact hl.1) rfl dX7_init_1 (Nat.le_of_ble_eq_true rfl) (Nat.le_of_ble_eq_true rfl) ?_
  refine W.eq (g2 := F0 m 4 ls []) rfl ?_
  refine lv_aload_n hx hb dX7_init_4 rfl (lv_at hl 0 rfl) ?_
  refine lv_bipush (v := 8) hx hb dX7_init_5 (by decide) ?_
  refine bd_newi (N' := 8) hx hb (List.mem_of_getElem? (i := 4) rfl) hts hK hW hS hz (by decide) rfl (by decide) 1 0 (hn 1 0 (by decide) (by decide)) (Nat.le_of_ble_eq_true rfl) (Nat.le_of_ble_eq_true rfl) dX7_init_7 (fun q1 H hW hS => ?_)
  refine bd_putF (ci := 6) (C := RX7) (T := TX7) (N := 11) (ty := tyX7 0) (v := .ref q1) (fs2 := [.ref q1, .null, .null, .null, .null, .null, .null, .int 0, .int 0, .int 0, .int 0]) hx hb hts hin_X7 tyX7 tyX7_ok nmX7 hown hK hW hS 0 0 ha ((pu_n (fun h => absurd h.1 (by decide))).trans he) rfl 0 (by decide) (List.mem_of_getElem? (i := 5) rfl) rfl rfl hnm rfl (tyX7_ok 0 (by decide)) rfl rfl (Nat.le_of_ble_eq_true rfl) rfl dX7_init_9 (fun H locs hW hS => ?_)
  refine lv_aload_n hx hb dX7_init_12 rfl (lv_at hl 0 rfl) ?_
  refine lv_bipush (v := 8) hx hb dX7_init_13 (by decide) ?_
  refine bd_newq (C := RX6) (index := 13) (N' := 8) hx hb hown (List.mem_of_getElem? (i := 6) rfl) hts hNX.2.2.2.1 hK hW hS hz 3 rfl (by decide) rfl (by decide) 2 0 (hn 2 0 (by decide) (by decide)) (Nat.le_of_ble_eq_true rfl) (Nat.le_of_ble_eq_true rfl) dX7_init_15 (fun q2 H hW hS => ?_)
  refine bd_putF (ci := 6) (C := RX7) (T := TX7) (N := 11) (ty := tyX7 1) (v := .ref q2) (fs2 := [.ref q1, .ref q2, .null, .null, .null, .null, .null, .int 0, .int 0, .int 0, .int 0]) hx hb hts hin_X7 tyX7 tyX7_ok nmX7 hown hK hW hS 0 0 ha ((pu_n (fun h => absurd h.1 (by decide))).trans pu_s) rfl 1 (by decide) (List.mem_of_getElem? (i := 7) rfl) rfl rfl hnm rfl (tyX7_ok 1 (by decide)) rfl rfl (Nat.le_of_ble_eq_true rfl) rfl dX7_init_18 (fun H locs hW hS => ?_)
  rw [pu_sw (fun h => absurd h.1 (by decide))] at hW
  refine lv_aload_n hx hb dX7_init_21 rfl (lv_at hl 0 rfl) ?_
  refine lv_bipush (v := 16) hx hb dX7_init_22 (by decide) ?_
  refine bd_newq (C := RX4) (index := 19) (N' := 16) hx hb hown (List.mem_of_getElem? (i := 8) rfl) hts hNX.2.2.2.2.1 hK hW hS hz 4 rfl (by decide) rfl (by decide) 3 0 (hn 3 0 (by decide) (by decide)) (Nat.le_of_ble_eq_true rfl) (Nat.le_of_ble_eq_true rfl) dX7_init_24 (fun q3 H hW hS => ?_)
  refine bd_putF (ci := 6) (C := RX7) (T := TX7) (N := 11) (ty := tyX7 2) (v := .ref q3) (fs2 := [.ref q1, .ref q2, .ref q3, .null, .null, .null, .null, .int 0, .int 0, .int 0, .int 0]) hx hb hts hin_X7 tyX7 tyX7_ok nmX7 hown hK hW hS 0 0 ha ((pu_n (fun h => absurd h.1 (by decide))).trans pu_s) rfl 2 (by decide) (List.mem_of_getElem? (i := 9) rfl) rfl rfl hnm rfl (tyX7_ok 2 (by decide)) rfl rfl (Nat.le_of_ble_eq_true rfl) rfl dX7_init_27 (fun H locs hW hS => ?_)
  rw [pu_sw (fun h => absurd h.1 (by decide))] at hW
  refine lv_aload_n hx hb dX7_init_30 rfl (lv_at hl 0 rfl) ?_
  refine lv_bipush (v := 8) hx hb dX7_init_31 (by decide) ?_
  refine bd_newq (C := RX5) (index := 25) (N' := 8) hx hb hown (List.mem_of_getElem? (i := 10) rfl) hts hNX.2.2.2.2.2.1 hK hW hS hz 5 rfl (by decide) rfl (by decide) 4 0 (hn 4 0 (by decide) (by decide)) (Nat.le_of_ble_eq_true rfl) (Nat.le_of_ble_eq_true rfl) dX7_init_33 (fun q4 H hW hS => ?_)
  refine bd_putF (ci := 6) (C := RX7) (T := TX7) (N := 11) (ty := tyX7 3) (v := .ref q4) (fs2 := [.ref q1, .ref q2, .ref q3, .ref q4, .null, .null, .null, .int 0, .int 0, .int 0, .int 0]) hx hb hts hin_X7 tyX7 tyX7_ok nmX7 hown hK hW hS 0 0 ha ((pu_n (fun h => absurd h.1 (by decide))).trans pu_s) rfl 3 (by decide) (List.mem_of_getElem? (i := 11) rfl) rfl rfl hnm rfl (tyX7_ok 3 (by decide)) rfl rfl (Nat.le_of_ble_eq_true rfl) rfl dX7_init_36 (fun H locs hW hS => ?_)
  rw [pu_sw (fun h => absurd h.1 (by decide))] at hW
  refine lv_aload_n hx hb dX7_init_39 rfl (lv_at hl 0 rfl) ?_
  refine lv_bipush (v := 64) hx hb dX7_init_40 (by decide) ?_
  refine bd_newq (C := RX3) (index := 31) (N' := 64) hx hb hown (List.mem_of_getElem? (i := 12) rfl) hts hNX.2.2.2.2.2.2.1 hK hW hS hz 6 rfl (by decide) rfl (by decide) 5 0 (hn 5 0 (by decide) (by decide)) (Nat.le_of_ble_eq_true rfl) (Nat.le_of_ble_eq_true rfl) dX7_init_42 (fun q5 H hW hS => ?_)
  refine bd_putF (ci := 6) (C := RX7) (T := TX7) (N := 11) (ty := tyX7 4) (v := .ref q5) (fs2 := [.ref q1, .ref q2, .ref q3, .ref q4, .ref q5, .null, .null, .int 0, .int 0, .int 0, .int 0]) hx hb hts hin_X7 tyX7 tyX7_ok nmX7 hown hK hW hS 0 0 ha ((pu_n (fun h => absurd h.1 (by decide))).trans pu_s) rfl 4 (by decide) (List.mem_of_getElem? (i := 13) rfl) rfl rfl hnm rfl (tyX7_ok 4 (by decide)) rfl rfl (Nat.le_of_ble_eq_true rfl) rfl dX7_init_45 (fun H locs hW hS => ?_)
  rw [pu_sw (fun h => absurd h.1 (by decide))] at hW
  refine lv_aload_n hx hb dX7_init_48 rfl (lv_at hl 0 rfl) ?_
  refine lv_bipush (v := 16) hx hb dX7_init_49 (by decide) ?_
  refine bd_newq (C := RX2) (index := 37) (N' := 16) hx hb hown (List.mem_of_getElem? (i := 14) rfl) hts hNX.2.2.2.2.2.2.2 hK hW hS hz 7 rfl (by decide) rfl (by decide) 6 0 (hn 6 0 (by decide) (by decide)) (Nat.le_of_ble_eq_true rfl) (Nat.le_of_ble_eq_true rfl) dX7_init_51 (fun q6 H hW hS => ?_)
  refine bd_putF (ci := 6) (C := RX7) (T := TX7) (N := 11) (ty := tyX7 5) (v := .ref q6) (fs2 := [.ref q1, .ref q2, .ref q3, .ref q4, .ref q5, .ref q6, .null, .int 0, .int 0, .int 0, .int 0]) hx hb hts hin_X7 tyX7 tyX7_ok nmX7 hown hK hW hS 0 0 ha ((pu_n (fun h => absurd h.1 (by decide))).trans pu_s) rfl 5 (by decide) (List.mem_of_getElem? (i := 15) rfl) rfl rfl hnm rfl (tyX7_ok 5 (by decide)) rfl rfl (Nat.le_of_ble_eq_true rfl) rfl dX7_init_54 (fun H locs hW hS => ?_)
  rw [pu_sw (fun h => absurd h.1 (by decide))] at hW
  refine lv_aload_n hx hb dX7_init_57 rfl (lv_at hl 0 rfl) ?_
  refine bd_new (ci := 0) (C := RX0) (T := TX0) (N := 3) (fs := [.null, .null, .int 0]) hx hb hts hin_X0 tyX0 tyX0_ok hown (List.mem_of_getElem? (i := 16) rfl) (List.mem_of_getElem? (i := 17) rfl) (List.mem_of_getElem? (i := 18) rfl) hK hW hS hz rfl (fun j hj => by rcases (show j = 0 ∨ j = 1 ∨ j = 2 by omega) with rfl | rfl | rfl <;> rfl) 7 0 (hn 7 0 (by decide) (by decide)) (Nat.le_of_ble_eq_true rfl) (Nat.le_of_ble_eq_true rfl) dX7_init_58 (fun q7 H hW hS => ?_)
  refine lv_dup hx hb dX7_init_61 rfl ?_
  refine bd_iniN (n := 0) (As := []) (rest := [.ref q7, .ref a0]) ⟨hx, hb, hml, hown, hts⟩ (c_X0_init l D b0 cA _ (au (au (au (au (au (au (au ad 1 0 q1) 2 0 q2) 3 0 q3) 4 0 q4) 5 0 q5) 6 0 q6) 7 0 q7) q7 au_s pu_s (by exact hn 8 0 (by decide) (by decide)) (by exact hn 9 0 (by decide) (by decide))) gX7_init_X0_init_n45 rfl (List.mem_of_getElem? (i := 18) rfl) hNX.1 (List.mem_of_getElem? (i := 25) rfl) rfl (by decide +kernel) rfl ⟨Nat.le_of_ble_eq_true rfl, Nat.le_of_ble_eq_true rfl⟩ ⟨Nat.le_of_ble_eq_true rfl, Nat.le_of_ble_eq_true rfl⟩ hK hW hS hz hl.1 rfl (Nat.le_of_ble_eq_true rfl) dX7_init_62 (fun ad2 H locs hF hW hS => ?_)
  unfold P2_X0_init at hW
  have g1 : ad2 1 0 = q1 := hF 1 0 (by omega)
  have g2 : ad2 2 0 = q2 := hF 2 0 (by omega)
  have g3 : ad2 3 0 = q3 := hF 3 0 (by omega)
  have g4 : ad2 4 0 = q4 := hF 4 0 (by omega)
  have g5 : ad2 5 0 = q5 := hF 5 0 (by omega)
  have g6 : ad2 6 0 = q6 := hF 6 0 (by omega)
  have g7 : ad2 7 0 = q7 := hF 7 0 (by omega)
  have g0 : ad2 0 0 = a0 := (hF 0 0 (by omega)).trans ha
  refine bd_putF (ci := 6) (C := RX7) (T := TX7) (N := 11) (ty := tyX7 6) (v := .ref q7) (fs2 := [.ref q1, .ref q2, .ref q3, .ref q4, .ref q5, .ref q6, .ref q7, .int 0, .int 0, .int 0, .int 0]) hx hb hts hin_X7 tyX7 tyX7_ok nmX7 hown hK hW hS 0 0 g0 ((pu_n (fun h => absurd h.1 (by decide))).trans ((pu_n (fun h => absurd h.1 (by decide))).trans ((pu_n (fun h => absurd h.1 (by decide))).trans ((pu_n (fun h => absurd h.1 (by decide))).trans pu_s)))) rfl 6 (by decide) (List.mem_of_getElem? (i := 19) rfl) rfl rfl hnm rfl (tyX7_ok 6 (by decide)) rfl rfl (Nat.le_of_ble_eq_true rfl) rfl dX7_init_65 (fun H locs hW hS => ?_)
  refine lv_aload_n hx hb dX7_init_68 rfl (lv_at hl 0 rfl) ?_
  refine lv_iconst (v := 1) hx hb dX7_init_69 (by decide) ?_
  refine bd_put (ci := 6) (C := RX7) (T := TX7) (N := 11) (ty := tyX7 10) (v := .int 1) (fs2 := [.ref q1, .ref q2, .ref q3, .ref q4, .ref q5, .ref q6, .ref q7, .int 0, .int 0, .int 0, .int 1]) hx hb hts hin_X7 tyX7 tyX7_ok nmX7 hown hK hW hS 0 0 g0 pu_s rfl 10 (by decide) (List.mem_of_getElem? (i := 20) rfl) rfl rfl (tyX7_ok 10 (by decide)) rfl rfl (Nat.le_of_ble_eq_true rfl) rfl dX7_init_70 (fun H locs hW hS => ?_)
  rw [pu_pu] at hW
  have hW : wd D (wA b0) (PI 0 0 cA ad2) ad2 H := by
    refine wd_mono hW (fun a b e h => ?_)
    have nz : ∀ (x : Option va_E), (if b = 0 then x else none) = some e → b = 0 ∧ x = some e := fun x hx => by by_cases hb0 : b = 0; (rw [if_pos hb0] at hx; exact ⟨hb0, hx⟩); (rw [if_neg hb0] at hx; cases hx)
    have nl : ∀ (x : Option va_E), (if b < 0 then x else none) = some e → False := fun x hx => by rw [if_neg (Nat.not_lt_zero b)] at hx; cases hx
    unfold PI at h
    split at h
    · obtain ⟨rfl, h⟩ := nz _ h; rw [g1, g2, g3, g4, g5, g6, g7] at h; exact h
    · obtain ⟨rfl, h⟩ := nz _ h; exact h
    · obtain ⟨rfl, h⟩ := nz _ h; rw [← h]; rfl
    · obtain ⟨rfl, h⟩ := nz _ h; exact h
    · obtain ⟨rfl, h⟩ := nz _ h; rw [← h]; rfl
    · obtain ⟨rfl, h⟩ := nz _ h; exact h
    · obtain ⟨rfl, h⟩ := nz _ h; exact h
    · obtain ⟨rfl, h⟩ := nz _ h; exact h
    · obtain ⟨rfl, h⟩ := nz _ h; exact h
    · obtain ⟨rfl, h⟩ := nz _ h; exact h
    · exact (nl _ h).elim
    · exact (nl _ h).elim
    · exact (nl _ h).elim
    · exact (nl _ h).elim
    · exact (nl _ h).elim
    · cases h
  have hFF : FI ad ad2 := fun k j hk => (hF k j (by omega)).trans ((au_n (by omega)).trans ((au_n (by omega)).trans ((au_n (by omega)).trans ((au_n (by omega)).trans ((au_n (by omega)).trans ((au_n (by omega)).trans (au_n (by omega))))))))
  refine lv_iconst (v := 0) hx hb dX7_init_73 (by decide) ?_
  refine lv_istore_n (lv' := [(1, .int 0), (0, .ref a0)]) hx hb dX7_init_74 rfl hl (by decide) rfl (fun ls hl => ?_)
  exact W.widen (k := 9 + 4 * 0) (n := 2123 + 23 * 0) (Nat.le_of_ble_eq_true rfl) (Nat.le_of_ble_eq_true rfl) (lp1 8 0 rfl ad2 H locs hFF hW hS ls hl)
