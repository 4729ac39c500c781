/-! laid by wip/whole/tools/inits.py -/
theorem pu_sw {P : Nat → Nat → Option va_E} {k j k' j' : Nat} {e1 e2 a : va_E} (h : ¬ (k = k' ∧ j = j')) : pu (pu (pu P k j e1) k' j' a) k j e2 = pu (pu P k' j' a) k j e2 := by
  funext x y
  unfold pu
  by_cases h1 : x = k ∧ y = j
  · rw [if_pos h1, if_pos h1]
  · rw [if_neg h1, if_neg h1, if_neg h1]

def P2_X4_init (cA : Nat → ClassId) (P : Nat → Nat → Option va_E) (k : Nat) (j : Nat) (n : Int32) (cl : Int32) (ad2 : Nat → Nat → Nat) : Nat → Nat → Option va_E := (pu P k j (.inr (3, [.int n, .int cl, .int (-1), .int (-1)])))
def F_X4_init (ad ad2 : Nat → Nat → Nat) : Prop := ad2 = ad
set_option maxHeartbeats 4000000 in
set_option maxRecDepth 100000 in
theorem c_X4_init (l : Launch) (D : va_G) (b0 : Nat) (cA : Nat → ClassId) (P : Nat → Nat → Option va_E) (ad : Nat → Nat → Nat) (k : Nat) (j : Nat) (a0 : Nat) (n : Int32) (cl : Int32) (ha : ad k j = a0) (he : P k j = some (.inr (3, [.int 0, .int 0, .int 0, .int 0]))) : bc l yX4_init wsX4_init 1 40 0 0 D b0 cA P ad [.ref a0, .int n, .int cl] (F_X4_init ad) (P2_X4_init cA P k j n cl) := by
  refine bc_of (by decide) rfl rfl (Nat.le_of_ble_eq_true rfl) ?_
  intro p e s m below meth c hx hb hml hr hlk hnm hown hts hK hW hz ls hl
  have hown : s.vm.findClass RX4 = some m.cls := hown
  have hS : va_S (wA b0) s.heap s.heap [] := va_S.rf
  have hl : lv_has ls 3 [(0, .ref a0), (1, .int n), (2, .int cl)] := hl
  have hin : ∀ w ∈ wsX40, w ∈ wsX4_init := fun w h => List.mem_cons_of_mem _ (List.mem_append_right _ h)
  refine lv_aload_n hx hb dX4_init_0 rfl (lv_at hl 0 rfl) ?_
  refine W.objInit hx hb hown (hts _ (List.mem_of_getElem? (i := 1) rfl)) (hts _ (List.mem_of_getElem? (i := 2) rfl)) (hts _ (List.mem_of_getElem? (i := 3) rfl)) rfl (by rw [hml]; exact hl.1) rfl dX4_init_1 (Nat.le_of_ble_eq_true rfl) (Nat.le_of_ble_eq_true rfl) ?_
  refine W.eq (g2 := F0 m 4 ls []) rfl ?_
  refine lv_aload_n hx hb dX4_init_4 rfl (lv_at hl 0 rfl) ?_
  refine lv_iconst (v := (-1)) hx hb dX4_init_5 (by decide) ?_
  refine bd_put (ci := 3) (C := RX4) (T := TX4) (N := 4) (ty := tyX4 2) (v := .int (-1)) (fs2 := [.int 0, .int 0, .int (-1), .int 0]) hx hb hts hin tyX4 tyX4_ok nmX4 hown hK hW hS k j ha he rfl 2 (by decide) (List.mem_of_getElem? (i := 4) rfl) rfl rfl (tyX4_ok 2 (by decide)) rfl rfl (Nat.le_of_ble_eq_true rfl) rfl dX4_init_6 (fun H locs hW hS => ?_)
  refine lv_aload_n hx hb dX4_init_9 rfl (lv_at hl 0 rfl) ?_
  refine lv_iconst (v := (-1)) hx hb dX4_init_10 (by decide) ?_
  refine bd_put (ci := 3) (C := RX4) (T := TX4) (N := 4) (ty := tyX4 3) (v := .int (-1)) (fs2 := [.int 0, .int 0, .int (-1), .int (-1)]) hx hb hts hin tyX4 tyX4_ok nmX4 hown hK hW hS k j ha pu_s rfl 3 (by decide) (List.mem_of_getElem? (i := 5) rfl) rfl rfl (tyX4_ok 3 (by decide)) rfl rfl (Nat.le_of_ble_eq_true rfl) rfl dX4_init_11 (fun H locs hW hS => ?_)
  rw [pu_pu] at hW
  refine lv_aload_n hx hb dX4_init_14 rfl (lv_at hl 0 rfl) ?_
  refine lv_iload_n hx hb dX4_init_15 rfl (lv_at hl 1 rfl) ?_
  refine bd_putF (ci := 3) (C := RX4) (T := TX4) (N := 4) (ty := tyX4 0) (v := .int n) (fs2 := [.int n, .int 0, .int (-1), .int (-1)]) hx hb hts hin tyX4 tyX4_ok nmX4 hown hK hW hS k j ha pu_s rfl 0 (by decide) (List.mem_of_getElem? (i := 6) rfl) rfl rfl hnm rfl (tyX4_ok 0 (by decide)) rfl rfl (Nat.le_of_ble_eq_true rfl) rfl dX4_init_16 (fun H locs hW hS => ?_)
  rw [pu_pu] at hW
  refine lv_aload_n hx hb dX4_init_19 rfl (lv_at hl 0 rfl) ?_
  refine lv_iload_n hx hb dX4_init_20 rfl (lv_at hl 2 rfl) ?_
  refine bd_putF (ci := 3) (C := RX4) (T := TX4) (N := 4) (ty := tyX4 1) (v := .int cl) (fs2 := [.int n, .int cl, .int (-1), .int (-1)]) hx hb hts hin tyX4 tyX4_ok nmX4 hown hK hW hS k j ha pu_s rfl 1 (by decide) (List.mem_of_getElem? (i := 7) rfl) rfl rfl hnm rfl (tyX4_ok 1 (by decide)) rfl rfl (Nat.le_of_ble_eq_true rfl) rfl dX4_init_21 (fun H locs hW hS => ?_)
  rw [pu_pu] at hW
  exact bd_ret (ad := ad) (F := F_X4_init ad) (P2 := P2_X4_init cA P k j n cl) hx hb hr hlk hK rfl hW hS (Nat.le_of_ble_eq_true rfl) (Nat.le_of_ble_eq_true rfl) dX4_init_24

def P2_X3_init (cA : Nat → ClassId) (P : Nat → Nat → Option va_E) (k : Nat) (j : Nat) (fa : Nat) (size : Int32) (dg : Int64) (ka : Int32) (kb : Int32) (kc : Int32) (day : Int32) (ad2 : Nat → Nat → Nat) : Nat → Nat → Option va_E := (pu P k j (.inr (2, [.ref fa, .int size, .long dg, .int ka, .int kb, .int kc, .int day, .int 0])))
def F_X3_init (ad ad2 : Nat → Nat → Nat) : Prop := ad2 = ad
set_option maxHeartbeats 4000000 in
set_option maxRecDepth 100000 in
theorem c_X3_init (l : Launch) (D : va_G) (b0 : Nat) (cA : Nat → ClassId) (P : Nat → Nat → Option va_E) (ad : Nat → Nat → Nat) (k : Nat) (j : Nat) (a0 : Nat) (fa : Nat) (size : Int32) (dg : Int64) (ka : Int32) (kb : Int32) (kc : Int32) (day : Int32) (ha : ad k j = a0) (he : P k j = some (.inr (2, [.null, .int 0, .long 0, .int 0, .int 0, .int 0, .int 0, .int 0]))) : bc l yX3_init wsX3_init 1 40 0 0 D b0 cA P ad [.ref a0, .ref fa, .int size, .long dg, .int ka, .int kb, .int kc, .int day] (F_X3_init ad) (P2_X3_init cA P k j fa size dg ka kb kc day) := by
  refine bc_of (by decide) rfl rfl (Nat.le_of_ble_eq_true rfl) ?_
  intro p e s m below meth c hx hb hml hr hlk hnm hown hts hK hW hz ls hl
  have hown : s.vm.findClass RX3 = some m.cls := hown
  have hS : va_S (wA b0) s.heap s.heap [] := va_S.rf
  have hl : lv_has ls 9 [(0, .ref a0), (1, .ref fa), (2, .int size), (3, .long dg), (5, .int ka), (6, .int kb), (7, .int kc), (8, .int day)] := hl
  have hin : ∀ w ∈ wsX30, w ∈ wsX3_init := fun w h => List.mem_cons_of_mem _ (List.mem_append_right _ h)
  refine lv_aload_n hx hb dX3_init_0 rfl (lv_at hl 0 rfl) ?_
  refine W.objInit hx hb hown (hts _ (List.mem_of_getElem? (i := 1) rfl)) (hts _ (List.mem_of_getElem? (i := 2) rfl)) (hts _ (List.mem_of_getElem? (i := 3) rfl)) rfl (by rw [hml]; exact hl.1) rfl dX3_init_1 (Nat.le_of_ble_eq_true rfl) (Nat.le_of_ble_eq_true rfl) ?_
  refine W.eq (g2 := F0 m 4 ls []) rfl ?_
  refine lv_aload_n hx hb dX3_init_4 rfl (lv_at hl 0 rfl) ?_
  refine lv_aload_n hx hb dX3_init_5 rfl (lv_at hl 1 rfl) ?_
  refine bd_putF (ci := 2) (C := RX3) (T := TX3) (N := 8) (ty := tyX3 0) (v := .ref fa) (fs2 := [.ref fa, .int 0, .long 0, .int 0, .int 0, .int 0, .int 0, .int 0]) hx hb hts hin tyX3 tyX3_ok nmX3 hown hK hW hS k j ha he rfl 0 (by decide) (List.mem_of_getElem? (i := 4) rfl) rfl rfl hnm rfl (tyX3_ok 0 (by decide)) rfl rfl (Nat.le_of_ble_eq_true rfl) rfl dX3_init_6 (fun H locs hW hS => ?_)
  refine lv_aload_n hx hb dX3_init_9 rfl (lv_at hl 0 rfl) ?_
  refine lv_iload_n hx hb dX3_init_10 rfl (lv_at hl 2 rfl) ?_
  refine bd_putF (ci := 2) (C := RX3) (T := TX3) (N := 8) (ty := tyX3 1) (v := .int size) (fs2 := [.ref fa, .int size, .long 0, .int 0, .int 0, .int 0, .int 0, .int 0]) hx hb hts hin tyX3 tyX3_ok nmX3 hown hK hW hS k j ha pu_s rfl 1 (by decide) (List.mem_of_getElem? (i := 5) rfl) rfl rfl hnm rfl (tyX3_ok 1 (by decide)) rfl rfl (Nat.le_of_ble_eq_true rfl) rfl dX3_init_11 (fun H locs hW hS => ?_)
  rw [pu_pu] at hW
  refine lv_aload_n hx hb dX3_init_14 rfl (lv_at hl 0 rfl) ?_
  refine lv_lload_n hx hb dX3_init_15 rfl (lv_at hl 3 rfl) ?_
  refine bd_putF (ci := 2) (C := RX3) (T := TX3) (N := 8) (ty := tyX3 2) (v := .long dg) (fs2 := [.ref fa, .int size, .long dg, .int 0, .int 0, .int 0, .int 0, .int 0]) hx hb hts hin tyX3 tyX3_ok nmX3 hown hK hW hS k j ha pu_s rfl 2 (by decide) (List.mem_of_getElem? (i := 6) rfl) rfl rfl hnm rfl (tyX3_ok 2 (by decide)) rfl rfl (Nat.le_of_ble_eq_true rfl) rfl dX3_init_16 (fun H locs hW hS => ?_)
  rw [pu_pu] at hW
  refine lv_aload_n hx hb dX3_init_19 rfl (lv_at hl 0 rfl) ?_
  refine lv_iload hx hb dX3_init_20 (lv_at hl 4 rfl) ?_
  refine bd_putF (ci := 2) (C := RX3) (T := TX3) (N := 8) (ty := tyX3 3) (v := .int ka) (fs2 := [.ref fa, .int size, .long dg, .int ka, .int 0, .int 0, .int 0, .int 0]) hx hb hts hin tyX3 tyX3_ok nmX3 hown hK hW hS k j ha pu_s rfl 3 (by decide) (List.mem_of_getElem? (i := 7) rfl) rfl rfl hnm rfl (tyX3_ok 3 (by decide)) rfl rfl (Nat.le_of_ble_eq_true rfl) rfl dX3_init_22 (fun H locs hW hS => ?_)
  rw [pu_pu] at hW
  refine lv_aload_n hx hb dX3_init_25 rfl (lv_at hl 0 rfl) ?_
  refine lv_iload hx hb dX3_init_26 (lv_at hl 5 rfl) ?_
  refine bd_putF (ci := 2) (C := RX3) (T := TX3) (N := 8) (ty := tyX3 4) (v := .int kb) (fs2 := [.ref fa, .int size, .long dg, .int ka, .int kb, .int 0, .int 0, .int 0]) hx hb hts hin tyX3 tyX3_ok nmX3 hown hK hW hS k j ha pu_s rfl 4 (by decide) (List.mem_of_getElem? (i := 8) rfl) rfl rfl hnm rfl (tyX3_ok 4 (by decide)) rfl rfl (Nat.le_of_ble_eq_true rfl) rfl dX3_init_28 (fun H locs hW hS => ?_)
  rw [pu_pu] at hW
  refine lv_aload_n hx hb dX3_init_31 rfl (lv_at hl 0 rfl) ?_
  refine lv_iload hx hb dX3_init_32 (lv_at hl 6 rfl) ?_
  refine bd_putF (ci := 2) (C := RX3) (T := TX3) (N := 8) (ty := tyX3 5) (v := .int kc) (fs2 := [.ref fa, .int size, .long dg, .int ka, .int kb, .int kc, .int 0, .int 0]) hx hb hts hin tyX3 tyX3_ok nmX3 hown hK hW hS k j ha pu_s rfl 5 (by decide) (List.mem_of_getElem? (i := 9) rfl) rfl rfl hnm rfl (tyX3_ok 5 (by decide)) rfl rfl (Nat.le_of_ble_eq_true rfl) rfl dX3_init_34 (fun H locs hW hS => ?_)
  rw [pu_pu] at hW
  refine lv_aload_n hx hb dX3_init_37 rfl (lv_at hl 0 rfl) ?_
  refine lv_iload hx hb dX3_init_38 (lv_at hl 7 rfl) ?_
  refine bd_putF (ci := 2) (C := RX3) (T := TX3) (N := 8) (ty := tyX3 6) (v := .int day) (fs2 := [.ref fa, .int size, .long dg, .int ka, .int kb, .int kc, .int day, .int 0]) hx hb hts hin tyX3 tyX3_ok nmX3 hown hK hW hS k j ha pu_s rfl 6 (by decide) (List.mem_of_getElem? (i := 10) rfl) rfl rfl hnm rfl (tyX3_ok 6 (by decide)) rfl rfl (Nat.le_of_ble_eq_true rfl) rfl dX3_init_40 (fun H locs hW hS => ?_)
  rw [pu_pu] at hW
  exact bd_ret (ad := ad) (F := F_X3_init ad) (P2 := P2_X3_init cA P k j fa size dg ka kb kc day) hx hb hr hlk hK rfl hW hS (Nat.le_of_ble_eq_true rfl) (Nat.le_of_ble_eq_true rfl) dX3_init_43

def P2_X2_init (cA : Nat → ClassId) (P : Nat → Nat → Option va_E) (k : Nat) (j : Nat) (o : Int32) (mem : Int64) (ad2 : Nat → Nat → Nat) : Nat → Nat → Option va_E := (pu P k j (.inr (1, [.int o, .long mem, .int 0, .int 1])))
def F_X2_init (ad ad2 : Nat → Nat → Nat) : Prop := ad2 = ad
set_option maxHeartbeats 4000000 in
set_option maxRecDepth 100000 in
theorem c_X2_init (l : Launch) (D : va_G) (b0 : Nat) (cA : Nat → ClassId) (P : Nat → Nat → Option va_E) (ad : Nat → Nat → Nat) (k : Nat) (j : Nat) (a0 : Nat) (o : Int32) (mem : Int64) (ha : ad k j = a0) (he : P k j = some (.inr (1, [.int 0, .long 0, .int 0, .int 0]))) : bc l yX2_init wsX2_init 1 40 0 0 D b0 cA P ad [.ref a0, .int o, .long mem] (F_X2_init ad) (P2_X2_init cA P k j o mem) := by
  refine bc_of (by decide) rfl rfl (Nat.le_of_ble_eq_true rfl) ?_
  intro p e s m below meth c hx hb hml hr hlk hnm hown hts hK hW hz ls hl
  have hown : s.vm.findClass RX2 = some m.cls := hown
  have hS : va_S (wA b0) s.heap s.heap [] := va_S.rf
  have hl : lv_has ls 4 [(0, .ref a0), (1, .int o), (2, .long mem)] := hl
  have hin : ∀ w ∈ wsX20, w ∈ wsX2_init := fun w h => List.mem_cons_of_mem _ (List.mem_append_right _ h)
  refine lv_aload_n hx hb dX2_init_0 rfl (lv_at hl 0 rfl) ?_
  refine W.objInit hx hb hown (hts _ (List.mem_of_getElem? (i := 1) rfl)) (hts _ (List.mem_of_getElem? (i := 2) rfl)) (hts _ (List.mem_of_getElem? (i := 3) rfl)) rfl (by rw [hml]; exact hl.1) rfl dX2_init_1 (Nat.le_of_ble_eq_true rfl) (Nat.le_of_ble_eq_true rfl) ?_
  refine W.eq (g2 := F0 m 4 ls []) rfl ?_
  refine lv_aload_n hx hb dX2_init_4 rfl (lv_at hl 0 rfl) ?_
  refine lv_iconst (v := 1) hx hb dX2_init_5 (by decide) ?_
  refine bd_put (ci := 1) (C := RX2) (T := TX2) (N := 4) (ty := tyX2 3) (v := .int 1) (fs2 := [.int 0, .long 0, .int 0, .int 1]) hx hb hts hin tyX2 tyX2_ok nmX2 hown hK hW hS k j ha he rfl 3 (by decide) (List.mem_of_getElem? (i := 4) rfl) rfl rfl (tyX2_ok 3 (by decide)) rfl rfl (Nat.le_of_ble_eq_true rfl) rfl dX2_init_6 (fun H locs hW hS => ?_)
  refine lv_aload_n hx hb dX2_init_9 rfl (lv_at hl 0 rfl) ?_
  refine lv_iload_n hx hb dX2_init_10 rfl (lv_at hl 1 rfl) ?_
  refine bd_putF (ci := 1) (C := RX2) (T := TX2) (N := 4) (ty := tyX2 0) (v := .int o) (fs2 := [.int o, .long 0, .int 0, .int 1]) hx hb hts hin tyX2 tyX2_ok nmX2 hown hK hW hS k j ha pu_s rfl 0 (by decide) (List.mem_of_getElem? (i := 5) rfl) rfl rfl hnm rfl (tyX2_ok 0 (by decide)) rfl rfl (Nat.le_of_ble_eq_true rfl) rfl dX2_init_11 (fun H locs hW hS => ?_)
  rw [pu_pu] at hW
  refine lv_aload_n hx hb dX2_init_14 rfl (lv_at hl 0 rfl) ?_
  refine lv_lload_n hx hb dX2_init_15 rfl (lv_at hl 2 rfl) ?_
  refine bd_put (ci := 1) (C := RX2) (T := TX2) (N := 4) (ty := tyX2 1) (v := .long mem) (fs2 := [.int o, .long mem, .int 0, .int 1]) hx hb hts hin tyX2 tyX2_ok nmX2 hown hK hW hS k j ha pu_s rfl 1 (by decide) (List.mem_of_getElem? (i := 6) rfl) rfl rfl (tyX2_ok 1 (by decide)) rfl rfl (Nat.le_of_ble_eq_true rfl) rfl dX2_init_16 (fun H locs hW hS => ?_)
  rw [pu_pu] at hW
  exact bd_ret (ad := ad) (F := F_X2_init ad) (P2 := P2_X2_init cA P k j o mem) hx hb hr hlk hK rfl hW hS (Nat.le_of_ble_eq_true rfl) (Nat.le_of_ble_eq_true rfl) dX2_init_19

def P2_X5_init (cA : Nat → ClassId) (P : Nat → Nat → Option va_E) (k : Nat) (j : Nat) (ad2 : Nat → Nat → Nat) : Nat → Nat → Option va_E := P
def F_X5_init (ad ad2 : Nat → Nat → Nat) : Prop := ad2 = ad
set_option maxHeartbeats 4000000 in
set_option maxRecDepth 100000 in
theorem c_X5_init (l : Launch) (D : va_G) (b0 : Nat) (cA : Nat → ClassId) (P : Nat → Nat → Option va_E) (ad : Nat → Nat → Nat) (k : Nat) (j : Nat) (a0 : Nat) (ha : ad k j = a0) (he : P k j = some (.inr (4, [.int 0, .int 0, .int 0, .int 0, .int 0, .int 0]))) : bc l yX5_init wsX5_init 1 40 0 0 D b0 cA P ad [.ref a0] (F_X5_init ad) (P2_X5_init cA P k j) := by
  refine bc_of (by decide) rfl rfl (Nat.le_of_ble_eq_true rfl) ?_
  intro p e s m below meth c hx hb hml hr hlk hnm hown hts hK hW hz ls hl
  have hown : s.vm.findClass RX5 = some m.cls := hown
  have hS : va_S (wA b0) s.heap s.heap [] := va_S.rf
  have hl : lv_has ls 1 [(0, .ref a0)] := hl
  refine lv_aload_n hx hb dX5_init_0 rfl (lv_at hl 0 rfl) ?_
  refine W.objInit hx hb hown (hts _ (List.mem_of_getElem? (i := 1) rfl)) (hts _ (List.mem_of_getElem? (i := 2) rfl)) (hts _ (List.mem_of_getElem? (i := 3) rfl)) rfl (by rw [hml]; exact hl.1) rfl dX5_init_1 (Nat.le_of_ble_eq_true rfl) (Nat.le_of_ble_eq_true rfl) ?_
  refine W.eq (g2 := F0 m 4 ls []) rfl ?_
  exact bd_ret (ad := ad) (F := F_X5_init ad) (P2 := P2_X5_init cA P k j) hx hb hr hlk hK rfl hW hS (Nat.le_of_ble_eq_true rfl) (Nat.le_of_ble_eq_true rfl) dX5_init_4

def P2_X0_init (cA : Nat → ClassId) (P : Nat → Nat → Option va_E) (ad2 : Nat → Nat → Nat) : Nat → Nat → Option va_E := (pu (pu (pu P 8 0 (.inl (cA 0, 1600, .inl (fun _ => 0)))) 9 0 (.inl (cA 1, 400, .inr (.inl (fun _ => 0))))) 7 0 (.inr (0, [.ref (ad2 8 0), .ref (ad2 9 0), .int 0])))
def F_X0_init (ad ad2 : Nat → Nat → Nat) : Prop := ∀ k i, (k ≠ 8 ∧ k ≠ 9) ∨ i ≠ 0 → ad2 k i = ad k i
set_option maxHeartbeats 4000000 in
set_option maxRecDepth 100000 in
theorem c_X0_init (l : Launch) (D : va_G) (b0 : Nat) (cA : Nat → ClassId) (P : Nat → Nat → Option va_E) (ad : Nat → Nat → Nat) (a0 : Nat) (ha : ad 7 0 = a0) (he : P 7 0 = some (.inr (0, [.null, .null, .int 0]))) (h8 : P 8 0 = none) (h9 : P 9 0 = none) : bc l yX0_init wsX0_init 1 40 2 2000 D b0 cA P ad [.ref a0] (F_X0_init ad) (P2_X0_init cA P) := by
  refine bc_of (by decide) rfl rfl (Nat.le_of_ble_eq_true rfl) ?_
  intro p e s m below meth c hx hb hml hr hlk hnm hown hts hK hW hz ls hl
  have hown : s.vm.findClass RX0 = some m.cls := hown
  have hS : va_S (wA b0) s.heap s.heap [] := va_S.rf
  have hl : lv_has ls 1 [(0, .ref a0)] := hl
  have hin : ∀ w ∈ wsX00, w ∈ wsX0_init := fun w h => List.mem_cons_of_mem _ (List.mem_append_right _ h)
  refine lv_aload_n hx hb dX0_init_0 rfl (lv_at hl 0 rfl) ?_
  refine W.objInit hx hb hown (hts _ (List.mem_of_getElem? (i := 1) rfl)) (hts _ (List.mem_of_getElem? (i := 2) rfl)) (hts _ (List.mem_of_getElem? (i := 3) rfl)) rfl (by rw [hml]; exact hl.1) rfl dX0_init_1 (Nat.le_of_ble_eq_true rfl) (Nat.le_of_ble_eq_true rfl) ?_
  refine W.eq (g2 := F0 m 4 ls []) rfl ?_
  refine lv_aload_n hx hb dX0_init_4 rfl (lv_at hl 0 rfl) ?_
  refine lv_sipush (v := 1600) hx hb dX0_init_5 (by decide) ?_
  refine bd_newi (N' := 1600) hx hb (List.mem_of_getElem? (i := 4) rfl) hts hK hW hS hz (by decide) rfl (by decide) 8 0 h8 (Nat.le_of_ble_eq_true rfl) (Nat.le_of_ble_eq_true rfl) dX0_init_8 (fun q1 H hW hS => ?_)
  refine bd_putF (ci := 0) (C := RX0) (T := TX0) (N := 3) (ty := tyX0 0) (v := .ref q1) (fs2 := [.ref q1, .null, .int 0]) hx hb hts hin tyX0 tyX0_ok nmX0 hown hK hW hS 7 0 ha ((pu_n (fun h => absurd h.1 (by decide))).trans he) rfl 0 (by decide) (List.mem_of_getElem? (i := 5) rfl) rfl rfl hnm rfl (tyX0_ok 0 (by decide)) rfl rfl (Nat.le_of_ble_eq_true rfl) rfl dX0_init_10 (fun H locs hW hS => ?_)
  refine lv_aload_n hx hb dX0_init_13 rfl (lv_at hl 0 rfl) ?_
  refine lv_sipush (v := 400) hx hb dX0_init_14 (by decide) ?_
  refine bd_newl (N' := 400) hx hb (List.mem_of_getElem? (i := 6) rfl) hts hK hW hS hz (by decide) rfl (by decide) 9 0 h9 (Nat.le_of_ble_eq_true rfl) (Nat.le_of_ble_eq_true rfl) dX0_init_17 (fun q2 H hW hS => ?_)
  refine bd_putF (ci := 0) (C := RX0) (T := TX0) (N := 3) (ty := tyX0 1) (v := .ref q2) (fs2 := [.ref q1, .ref q2, .int 0]) hx hb hts hin tyX0 tyX0_ok nmX0 hown hK hW hS 7 0 ha ((pu_n (fun h => absurd h.1 (by decide))).trans pu_s) rfl 1 (by decide) (List.mem_of_getElem? (i := 7) rfl) rfl rfl hnm rfl (tyX0_ok 1 (by decide)) rfl rfl (Nat.le_of_ble_eq_true rfl) rfl dX0_init_19 (fun H locs hW hS => ?_)
  rw [pu_sw (fun h => absurd h.1 (by decide))] at hW
  have hFF : F_X0_init ad (au (au ad 8 0 q1) 9 0 q2) := by
    intro k i h
    rw [au_n (by omega), au_n (by omega)]
  have hP2 : P2_X0_init cA P (au (au ad 8 0 q1) 9 0 q2) = P2_X0_init cA P (au (au ad 8 0 q1) 9 0 q2) := rfl
  exact bd_ret (ad := (au (au ad 8 0 q1) 9 0 q2)) (F := F_X0_init ad) (P2 := P2_X0_init cA P) hx hb hr hlk hK hFF hW hS (Nat.le_of_ble_eq_true rfl) (Nat.le_of_ble_eq_true rfl) dX0_init_22

def P2_X6_init (cA : Nat → ClassId) (P : Nat → Nat → Option va_E) (j : Nat) (ad2 : Nat → Nat → Nat) : Nat → Nat → Option va_E := (pu (pu (pu (pu P 11 j (.inl (cA 0, 6, .inl (fun _ => 0)))) 12 j (.inl (cA 0, 6, .inl (fun _ => 0)))) 13 j (.inl (cA 2, 6, .inl (fun _ => 0)))) 10 j (.inr (5, [.ref (ad2 11 j), .ref (ad2 12 j), .ref (ad2 13 j), .int 0, .int 0])))
def F_X6_init (j : Nat) (ad ad2 : Nat → Nat → Nat) : Prop := ∀ k i, (k ≠ 11 ∧ k ≠ 12 ∧ k ≠ 13) ∨ i ≠ j → ad2 k i = ad k i
set_option maxHeartbeats 4000000 in
set_option maxRecDepth 100000 in
theorem c_X6_init (l : Launch) (D : va_G) (b0 : Nat) (cA : Nat → ClassId) (P : Nat → Nat → Option va_E) (ad : Nat → Nat → Nat) (j : Nat) (a0 : Nat) (ha : ad 10 j = a0) (he : P 10 j = some (.inr (5, [.null, .null, .null, .int 0, .int 0]))) (h11 : P 11 j = none) (h12 : P 12 j = none) (h13 : P 13 j = none) : bc l yX6_init wsX6_init 1 40 3 18 D b0 cA P ad [.ref a0] (F_X6_init j ad) (P2_X6_init cA P j) := by
  refine bc_of (by decide) rfl rfl (Nat.le_of_ble_eq_true rfl) ?_
  intro p e s m below meth c hx hb hml hr hlk hnm hown hts hK hW hz ls hl
  have hown : s.vm.findClass RX6 = some m.cls := hown
  have hS : va_S (wA b0) s.heap s.heap [] := va_S.rf
  have hl : lv_has ls 1 [(0, .ref a0)] := hl
  have hin : ∀ w ∈ wsX60, w ∈ wsX6_init := fun w h => List.mem_cons_of_mem _ (List.mem_append_right _ h)
  refine lv_aload_n hx hb dX6_init_0 rfl (lv_at hl 0 rfl) ?_
  refine W.objInit hx hb hown (hts _ (List.mem_of_getElem? (i := 1) rfl)) (hts _ (List.mem_of_getElem? (i := 2) rfl)) (hts _ (List.mem_of_getElem? (i := 3) rfl)) rfl (by rw [hml]; exact hl.1) rfl dX6_init_1 (Nat.le_of_ble_eq_true rfl) (Nat.le_of_ble_eq_true rfl) ?_
  refine W.eq (g2 := F0 m 4 ls []) rfl ?_
  refine lv_aload_n hx hb dX6_init_4 rfl (lv_at hl 0 rfl) ?_
  refine lv_bipush (v := 6) hx hb dX6_init_5 (by decide) ?_
  refine bd_newi (N' := 6) hx hb (List.mem_of_getElem? (i := 4) rfl) hts hK hW hS hz (by decide) rfl (by decide) 11 j h11 (Nat.le_of_ble_eq_true rfl) (Nat.le_of_ble_eq_true rfl) dX6_init_7 (fun q1 H hW hS => ?_)
  refine bd_putF (ci := 5) (C := RX6) (T := TX6) (N := 5) (ty := tyX6 0) (v := .ref q1) (fs2 := [.ref q1, .null, .null, .int 0, .int 0]) hx hb hts hin tyX6 tyX6_ok nmX6 hown hK hW hS 10 j ha ((pu_n (fun h => absurd h.1 (by decide))).trans he) rfl 0 (by decide) (List.mem_of_getElem? (i := 5) rfl) rfl rfl hnm rfl (tyX6_ok 0 (by decide)) rfl rfl (Nat.le_of_ble_eq_true rfl) rfl dX6_init_9 (fun H locs hW hS => ?_)
  refine lv_aload_n hx hb dX6_init_12 rfl (lv_at hl 0 rfl) ?_
  refine lv_bipush (v := 6) hx hb dX6_init_13 (by decide) ?_
  refine bd_newi (N' := 6) hx hb (List.mem_of_getElem? (i := 4) rfl) hts hK hW hS hz (by decide) rfl (by decide) 12 j h12 (Nat.le_of_ble_eq_true rfl) (Nat.le_of_ble_eq_true rfl) dX6_init_15 (fun q2 H hW hS => ?_)
  refine bd_putF (ci := 5) (C := RX6) (T := TX6) (N := 5) (ty := tyX6 1) (v := .ref q2) (fs2 := [.ref q1, .ref q2, .null, .int 0, .int 0]) hx hb hts hin tyX6 tyX6_ok nmX6 hown hK hW hS 10 j ha ((pu_n (fun h => absurd h.1 (by decide))).trans pu_s) rfl 1 (by decide) (List.mem_of_getElem? (i := 6) rfl) rfl rfl hnm rfl (tyX6_ok 1 (by decide)) rfl rfl (Nat.le_of_ble_eq_true rfl) rfl dX6_init_17 (fun H locs hW hS => ?_)
  rw [pu_sw (fun h => absurd h.1 (by decide))] at hW
  refine lv_aload_n hx hb dX6_init_20 rfl (lv_at hl 0 rfl) ?_
  refine lv_bipush (v := 6) hx hb dX6_init_21 (by decide) ?_
  refine bd_newz (N' := 6) hx hb (List.mem_of_getElem? (i := 7) rfl) hts hK hW hS hz (by decide) rfl (by decide) 13 j h13 (Nat.le_of_ble_eq_true rfl) (Nat.le_of_ble_eq_true rfl) dX6_init_23 (fun q3 H hW hS => ?_)
  refine bd_putF (ci := 5) (C := RX6) (T := TX6) (N := 5) (ty := tyX6 2) (v := .ref q3) (fs2 := [.ref q1, .ref q2, .ref q3, .int 0, .int 0]) hx hb hts hin tyX6 tyX6_ok nmX6 hown hK hW hS 10 j ha ((pu_n (fun h => absurd h.1 (by decide))).trans pu_s) rfl 2 (by decide) (List.mem_of_getElem? (i := 8) rfl) rfl rfl hnm rfl (tyX6_ok 2 (by decide)) rfl rfl (Nat.le_of_ble_eq_true rfl) rfl dX6_init_25 (fun H locs hW hS => ?_)
  rw [pu_sw (fun h => absurd h.1 (by decide))] at hW
  have hFF : F_X6_init j ad (au (au (au ad 11 j q1) 12 j q2) 13 j q3) := by
    intro k i h
    rw [au_n (by omega), au_n (by omega), au_n (by omega)]
  have eq1 : (au (au (au ad 11 j q1) 12 j q2) 13 j q3) 11 j = q1 := ((au_n (fun h => absurd h.1 (by decide))).trans ((au_n (fun h => absurd h.1 (by decide))).trans au_s))
  have eq2 : (au (au (au ad 11 j q1) 12 j q2) 13 j q3) 12 j = q2 := ((au_n (fun h => absurd h.1 (by decide))).trans au_s)
  have eq3 : (au (au (au ad 11 j q1) 12 j q2) 13 j q3) 13 j = q3 := au_s
  have hW : wd D (wA b0) (P2_X6_init cA P j (au (au (au ad 11 j q1) 12 j q2) 13 j q3)) (au (au (au ad 11 j q1) 12 j q2) 13 j q3) H := by unfold P2_X6_init; rw [eq1, eq2, eq3]; exact hW
  exact bd_ret (ad := (au (au (au ad 11 j q1) 12 j q2) 13 j q3)) (F := F_X6_init j ad) (P2 := P2_X6_init cA P j) hx hb hr hlk hK hFF hW hS (Nat.le_of_ble_eq_true rfl) (Nat.le_of_ble_eq_true rfl) dX6_init_28

def P2_X8_init (cA : Nat → ClassId) (P : Nat → Nat → Option va_E) (ad2 : Nat → Nat → Nat) : Nat → Nat → Option va_E := (pu (pu (pu (pu (pu (pu (pu (pu (pu (pu (pu (pu (pu (pu (pu (pu (pu (pu (pu (pu (pu (pu (pu (pu (pu (pu (pu (pu (pu P 21 1 (.inl (cA 0, 8, .inl (fun _ => 0)))) 21 4 (.inl (cA 0, 8, .inl (fun _ => 0)))) 21 5 (.inl (cA 0, 8, .inl (fun _ => 0)))) 21 6 (.inl (cA 0, 48, .inl (fun _ => 0)))) 21 7 (.inl (cA 0, 48, .inl (fun _ => 0)))) 21 8 (.inl (cA 2, 48, .inl (fun _ => 0)))) 21 9 (.inl (cA 0, 16, .inl (upd (upd (upd (upd (upd (upd (upd (upd (upd (upd (upd (upd (upd (upd (upd (upd (fun _ => 0) (Int32.toNatClampNeg 0) (-1)) (Int32.toNatClampNeg 1) (-1)) (Int32.toNatClampNeg 2) (-1)) (Int32.toNatClampNeg 3) (-1)) (Int32.toNatClampNeg 4) (-1)) (Int32.toNatClampNeg 5) (-1)) (Int32.toNatClampNeg 6) (-1)) (Int32.toNatClampNeg 7) (-1)) (Int32.toNatClampNeg 8) (-1)) (Int32.toNatClampNeg 9) (-1)) (Int32.toNatClampNeg 10) (-1)) (Int32.toNatClampNeg 11) (-1)) (Int32.toNatClampNeg 12) (-1)) (Int32.toNatClampNeg 13) (-1)) (Int32.toNatClampNeg 14) (-1)) (Int32.toNatClampNeg 15) (-1))))) 21 10 (.inl (cA 0, 16, .inl (upd (upd (upd (upd (upd (upd (upd (upd (upd (upd (upd (upd (upd (upd (upd (upd (fun _ => 0) (Int32.toNatClampNeg 0) (-1)) (Int32.toNatClampNeg 1) (-1)) (Int32.toNatClampNeg 2) (-1)) (Int32.toNatClampNeg 3) (-1)) (Int32.toNatClampNeg 4) (-1)) (Int32.toNatClampNeg 5) (-1)) (Int32.toNatClampNeg 6) (-1)) (Int32.toNatClampNeg 7) (-1)) (Int32.toNatClampNeg 8) (-1)) (Int32.toNatClampNeg 9) (-1)) (Int32.toNatClampNeg 10) (-1)) (Int32.toNatClampNeg 11) (-1)) (Int32.toNatClampNeg 12) (-1)) (Int32.toNatClampNeg 13) (-1)) (Int32.toNatClampNeg 14) (-1)) (Int32.toNatClampNeg 15) (-1))))) 21 11 (.inl (cA 0, 16, .inl (upd (upd (upd (upd (upd (upd (upd (upd (upd (upd (upd (upd (upd (upd (upd (upd (fun _ => 0) (Int32.toNatClampNeg 0) (-1)) (Int32.toNatClampNeg 1) (-1)) (Int32.toNatClampNeg 2) (-1)) (Int32.toNatClampNeg 3) (-1)) (Int32.toNatClampNeg 4) (-1)) (Int32.toNatClampNeg 5) (-1)) (Int32.toNatClampNeg 6) (-1)) (Int32.toNatClampNeg 7) (-1)) (Int32.toNatClampNeg 8) (-1)) (Int32.toNatClampNeg 9) (-1)) (Int32.toNatClampNeg 10) (-1)) (Int32.toNatClampNeg 11) (-1)) (Int32.toNatClampNeg 12) (-1)) (Int32.toNatClampNeg 13) (-1)) (Int32.toNatClampNeg 14) (-1)) (Int32.toNatClampNeg 15) (-1))))) 21 13 (.inl (cA 0, 64, .inl (fun _ => 0)))) 21 14 (.inl (cA 0, 64, .inl (fun _ => 0)))) 21 15 (.inl (cA 0, 64, .inl (fun _ => 0)))) 21 16 (.inl (cA 1, 64, .inr (.inl (fun _ => 0))))) 21 17 (.inl (cA 0, 192, .inl (fun _ => 0)))) 21 18 (.inl (cA 2, 64, .inl (fun _ => 0)))) 21 19 (.inl (cA 2, 8, .inl (fun _ => 0)))) 21 20 (.inl (cA 0, 8, .inl (fun _ => 0)))) 21 21 (.inl (cA 0, 8, .inl (fun _ => 0)))) 21 22 (.inl (cA 0, 8, .inl (fun _ => 0)))) 21 23 (.inl (cA 0, 8, .inl (fun _ => 0)))) 21 24 (.inl (cA 0, 8, .inl (fun _ => 0)))) 21 26 (.inl (cA 0, 1024, .inl (fun _ => 0)))) 21 27 (.inl (cA 0, 16, .inl (fun _ => 0)))) 21 28 (.inl (cA 0, 16, .inl (fun _ => 0)))) 21 29 (.inl (cA 0, 16, .inl (fun _ => 0)))) 21 30 (.inl (cA 2, 16, .inl (fun _ => 0)))) 21 32 (.inl (cA 0, 1600, .inl (fun _ => 0)))) 21 33 (.inl (cA 1, 400, .inr (.inl (fun _ => 0))))) 20 0 (.inr (7, [.int 0, .ref (ad2 21 1), .int 1, .int 0, .ref (ad2 21 4), .ref (ad2 21 5), .ref (ad2 21 6), .ref (ad2 21 7), .ref (ad2 21 8), .ref (ad2 21 9), .ref (ad2 21 10), .ref (ad2 21 11), .int 0, .ref (ad2 21 13), .ref (ad2 21 14), .ref (ad2 21 15), .ref (ad2 21 16), .ref (ad2 21 17), .ref (ad2 21 18), .ref (ad2 21 19), .ref (ad2 21 20), .ref (ad2 21 21), .ref (ad2 21 22), .ref (ad2 21 23), .ref (ad2 21 24), .int 0, .ref (ad2 21 26), .ref (ad2 21 27), .ref (ad2 21 28), .ref (ad2 21 29), .ref (ad2 21 30), .int 0, .ref (ad2 21 32), .ref (ad2 21 33)])))
def F_X8_init (ad ad2 : Nat → Nat → Nat) : Prop := ∀ k i, k ≠ 21 → ad2 k i = ad k i
set_option maxHeartbeats 4000000 in
set_option maxRecDepth 100000 in
theorem c_X8_init (l : Launch) (D : va_G) (b0 : Nat) (cA : Nat → ClassId) (P : Nat → Nat → Option va_E) (ad : Nat → Nat → Nat) (a0 : Nat) (ha : ad 20 0 = a0) (he : P 20 0 = some (.inr (7, [.int 0, .null, .int 0, .int 0, .null, .null, .null, .null, .null, .null, .null, .null, .int 0, .null, .null, .null, .null, .null, .null, .null, .null, .null, .null, .null, .null, .int 0, .null, .null, .null, .null, .null, .int 0, .null, .null]))) (hn : ∀ f, P 21 f = none) : bc l yX8_init wsX8_init 1 40 28 3864 D b0 cA P ad [.ref a0] (F_X8_init ad) (P2_X8_init cA P) := by
  refine bc_of (by decide) rfl rfl (Nat.le_of_ble_eq_true rfl) ?_
  intro p e s m below meth c hx hb hml hr hlk hnm hown hts hK hW hz ls hl
  have hown : s.vm.findClass RX8 = some m.cls := hown
  have hS : va_S (wA b0) s.heap s.heap [] := va_S.rf
  have hl : lv_has ls 1 [(0, .ref a0)] := hl
  have hin : ∀ w ∈ wsX80, w ∈ wsX8_init := fun w h => List.mem_cons_of_mem _ (List.mem_append_right _ h)
  refine lv_aload_n hx hb dX8_init_0 rfl (lv_at hl 0 rfl) ?_
  refine W.objInit hx hb hown (hts _ (List.mem_of_getElem? (i := 1) rfl)) (hts _ (List.mem_of_getElem? (i := 2) rfl)) (hts _ (List.mem_of_getElem? (i := 3) rfl)) rfl (by rw [hml]; exact hl.1) rfl dX8_init_1 (Nat.le_of_ble_eq_true rfl) (Nat.le_of_ble_eq_true rfl) ?_
  refine W.eq (g2 := F0 m 4 ls []) rfl ?_
  refine lv_aload_n hx hb dX8_init_4 rfl (lv_at hl 0 rfl) ?_
  refine lv_bipush (v := 8) hx hb dX8_init_5 (by decide) ?_
  refine bd_newi (N' := 8) hx hb (List.mem_of_getElem? (i := 4) rfl) hts hK hW hS hz (by decide) rfl (by decide) 21 1 (hn 1) (Nat.le_of_ble_eq_true rfl) (Nat.le_of_ble_eq_true rfl) dX8_init_7 (fun q1 H hW hS => ?_)
  refine bd_putF (ci := 7) (C := RX8) (T := TX8) (N := 34) (ty := tyX8 1) (v := .ref q1) (fs2 := [.int 0, .ref q1, .int 0, .int 0, .null, .null, .null, .null, .null, .null, .null, .null, .int 0, .null, .null, .null, .null, .null, .null, .null, .null, .null, .null, .null, .null, .int 0, .null, .null, .null, .null, .null, .int 0, .null, .null]) hx hb hts hin tyX8 tyX8_ok nmX8 hown hK hW hS 20 0 ha ((pu_n (fun h => absurd h.1 (by decide))).trans he) rfl 1 (by decide) (List.mem_of_getElem? (i := 5) rfl) rfl rfl hnm rfl (tyX8_ok 1 (by decide)) rfl rfl (Nat.le_of_ble_eq_true rfl) rfl dX8_init_9 (fun H locs hW hS => ?_)
  refine lv_aload_n hx hb dX8_init_12 rfl (lv_at hl 0 rfl) ?_
  refine lv_iconst (v := 1) hx hb dX8_init_13 (by decide) ?_
  refine bd_put (ci := 7) (C := RX8) (T := TX8) (N := 34) (ty := tyX8 2) (v := .int 1) (fs2 := [.int 0, .ref q1, .int 1, .int 0, .null, .null, .null, .null, .null, .null, .null, .null, .int 0, .null, .null, .null, .null, .null, .null, .null, .null, .null, .null, .null, .null, .int 0, .null, .null, .null, .null, .null, .int 0, .null, .null]) hx hb hts hin tyX8 tyX8_ok nmX8 hown hK hW hS 20 0 ha pu_s rfl 2 (by decide) (List.mem_of_getElem? (i := 6) rfl) rfl rfl (tyX8_ok 2 (by decide)) rfl rfl (Nat.le_of_ble_eq_true rfl) rfl dX8_init_14 (fun H locs hW hS => ?_)
  rw [pu_pu] at hW
  refine lv_aload_n hx hb dX8_init_17 rfl (lv_at hl 0 rfl) ?_
  refine lv_bipush (v := 8) hx hb dX8_init_18 (by decide) ?_
  refine bd_newi (N' := 8) hx hb (List.mem_of_getElem? (i := 4) rfl) hts hK hW hS hz (by decide) rfl (by decide) 21 4 (hn 4) (Nat.le_of_ble_eq_true rfl) (Nat.le_of_ble_eq_true rfl) dX8_init_20 (fun q2 H hW hS => ?_)
  refine bd_putF (ci := 7) (C := RX8) (T := TX8) (N := 34) (ty := tyX8 4) (v := .ref q2) (fs2 := [.int 0, .ref q1, .int 1, .int 0, .ref q2, .null, .null, .null, .null, .null, .null, .null, .int 0, .null, .null, .null, .null, .null, .null, .null, .null, .null, .null, .null, .null, .int 0, .null, .null, .null, .null, .null, .int 0, .null, .null]) hx hb hts hin tyX8 tyX8_ok nmX8 hown hK hW hS 20 0 ha ((pu_n (fun h => absurd h.1 (by decide))).trans pu_s) rfl 4 (by decide) (List.mem_of_getElem? (i := 7) rfl) rfl rfl hnm rfl (tyX8_ok 4 (by decide)) rfl rfl (Nat.le_of_ble_eq_true rfl) rfl dX8_init_22 (fun H locs hW hS => ?_)
  rw [pu_sw (fun h => absurd h.1 (by decide))] at hW
  refine lv_aload_n hx hb dX8_init_25 rfl (lv_at hl 0 rfl) ?_
  refine lv_bipush (v := 8) hx hb dX8_init_26 (by decide) ?_
  refine bd_newi (N' := 8) hx hb (List.mem_of_getElem? (i := 4) rfl) hts hK hW hS hz (by decide) rfl (by decide) 21 5 (hn 5) (Nat.le_of_ble_eq_true rfl) (Nat.le_of_ble_eq_true rfl) dX8_init_28 (fun q3 H hW hS => ?_)
  refine bd_putF (ci := 7) (C := RX8) (T := TX8) (N := 34) (ty := tyX8 5) (v := .ref q3) (fs2 := [.int 0, .ref q1, .int 1, .int 0, .ref q2, .ref q3, .null, .null, .null, .null, .null, .null, .int 0, .null, .null, .null, .null, .null, .null, .null, .null, .null, .null, .null, .null, .int 0, .null, .null, .null, .null, .null, .int 0, .null, .null]) hx hb hts hin tyX8 tyX8_ok nmX8 hown hK hW hS 20 0 ha ((pu_n (fun h => absurd h.1 (by decide))).trans pu_s) rfl 5 (by decide) (List.mem_of_getElem? (i := 8) rfl) rfl rfl hnm rfl (tyX8_ok 5 (by decide)) rfl rfl (Nat.le_of_ble_eq_true rfl) rfl dX8_init_30 (fun H locs hW hS => ?_)
  rw [pu_sw (fun h => absurd h.1 (by decide))] at hW
  refine lv_aload_n hx hb dX8_init_33 rfl (lv_at hl 0 rfl) ?_
  refine lv_bipush (v := 48) hx hb dX8_init_34 (by decide) ?_
  refine bd_newi (N' := 48) hx hb (List.mem_of_getElem? (i := 4) rfl) hts hK hW hS hz (by decide) rfl (by decide) 21 6 (hn 6) (Nat.le_of_ble_eq_true rfl) (Nat.le_of_ble_eq_true rfl) dX8_init_36 (fun q4 H hW hS => ?_)
  refine bd_putF (ci := 7) (C := RX8) (T := TX8) (N := 34) (ty := tyX8 6) (v := .ref q4) (fs2 := [.int 0, .ref q1, .int 1, .int 0, .ref q2, .ref q3, .ref q4, .null, .null, .null, .null, .null, .int 0, .null, .null, .null, .null, .null, .null, .null, .null, .null, .null, .null, .null, .int 0, .null, .null, .null, .null, .null, .int 0, .null, .null]) hx hb hts hin tyX8 tyX8_ok nmX8 hown hK hW hS 20 0 ha ((pu_n (fun h => absurd h.1 (by decide))).trans pu_s) rfl 6 (by decide) (List.mem_of_getElem? (i := 9) rfl) rfl rfl hnm rfl (tyX8_ok 6 (by decide)) rfl rfl (Nat.le_of_ble_eq_true rfl) rfl dX8_init_38 (fun H locs hW hS => ?_)
  rw [pu_sw (fun h => absurd h.1 (by decide))] at hW
  refine lv_aload_n hx hb dX8_init_41 rfl (lv_at hl 0 rfl) ?_
  refine lv_bipush (v := 48) hx hb dX8_init_42 (by decide) ?_
  refine bd_newi (N' := 48) hx hb (List.mem_of_getElem? (i := 4) rfl) hts hK hW hS hz (by decide) rfl (by decide) 21 7 (hn 7) (Nat.le_of_ble_eq_true rfl) (Nat.le_of_ble_eq_true rfl) dX8_init_44 (fun q5 H hW hS => ?_)
  refine bd_putF (ci := 7) (C := RX8) (T := TX8) (N := 34) (ty := tyX8 7) (v := .ref q5) (fs2 := [.int 0, .ref q1, .int 1, .int 0, .ref q2, .ref q3, .ref q4, .ref q5, .null, .null, .null, .null, .int 0, .null, .null, .null, .null, .null, .null, .null, .null, .null, .null, .null, .null, .int 0, .null, .null, .null, .null, .null, .int 0, .null, .null]) hx hb hts hin tyX8 tyX8_ok nmX8 hown hK hW hS 20 0 ha ((pu_n (fun h => absurd h.1 (by decide))).trans pu_s) rfl 7 (by decide) (List.mem_of_getElem? (i := 10) rfl) rfl rfl hnm rfl (tyX8_ok 7 (by decide)) rfl rfl (Nat.le_of_ble_eq_true rfl) rfl dX8_init_46 (fun H locs hW hS => ?_)
  rw [pu_sw (fun h => absurd h.1 (by decide))] at hW
  refine lv_aload_n hx hb dX8_init_49 rfl (lv_at hl 0 rfl) ?_
  refine lv_bipush (v := 48) hx hb dX8_init_50 (by decide) ?_
  refine bd_newz (N' := 48) hx hb (List.mem_of_getElem? (i := 11) rfl) hts hK hW hS hz (by decide) rfl (by decide) 21 8 (hn 8) (Nat.le_of_ble_eq_true rfl) (Nat.le_of_ble_eq_true rfl) dX8_init_52 (fun q6 H hW hS => ?_)
  refine bd_putF (ci := 7) (C := RX8) (T := TX8) (N := 34) (ty := tyX8 8) (v := .ref q6) (fs2 := [.int 0, .ref q1, .int 1, .int 0, .ref q2, .ref q3, .ref q4, .ref q5, .ref q6, .null, .null, .null, .int 0, .null, .null, .null, .null, .null, .null, .null, .null, .null, .null, .null, .null, .int 0, .null, .null, .null, .null, .null, .int 0, .null, .null]) hx hb hts hin tyX8 tyX8_ok nmX8 hown hK hW hS 20 0 ha ((pu_n (fun h => absurd h.1 (by decide))).trans pu_s) rfl 8 (by decide) (List.mem_of_getElem? (i := 12) rfl) rfl rfl hnm rfl (tyX8_ok 8 (by decide)) rfl rfl (Nat.le_of_ble_eq_true rfl) rfl dX8_init_54 (fun H locs hW hS => ?_)
  rw [pu_sw (fun h => absurd h.1 (by decide))] at hW
  refine lv_aload_n hx hb dX8_init_57 rfl (lv_at hl 0 rfl) ?_
  refine lv_bipush (v := 16) hx hb dX8_init_58 (by decide) ?_
  refine bd_newi (N' := 16) hx hb (List.mem_of_getElem? (i := 4) rfl) hts hK hW hS hz (by decide) rfl (by decide) 21 9 (hn 9) (Nat.le_of_ble_eq_true rfl) (Nat.le_of_ble_eq_true rfl) dX8_init_60 (fun q7 H hW hS => ?_)
  refine lv_dup hx hb dX8_init_62 rfl ?_
  refine lv_iconst (v := 0) hx hb dX8_init_63 (by decide) ?_
  refine lv_iconst (v := (-1)) hx hb dX8_init_64 (by decide) ?_
  refine bd_iast hx hb hK hW hS 21 9 au_s pu_s (vp_in_iff.mpr (by decide)) dX8_init_65 (fun H locs hW hS => ?_)
  rw [pu_pu] at hW
  refine lv_dup hx hb dX8_init_66 rfl ?_
  refine lv_iconst (v := 1) hx hb dX8_init_67 (by decide) ?_
  refine lv_iconst (v := (-1)) hx hb dX8_init_68 (by decide) ?_
  refine bd_iast hx hb hK hW hS 21 9 au_s pu_s (vp_in_iff.mpr (by decide)) dX8_init_69 (fun H locs hW hS => ?_)
  rw [pu_pu] at hW
  refine lv_dup hx hb dX8_init_70 rfl ?_
  refine lv_iconst (v := 2) hx hb dX8_init_71 (by decide) ?_
  refine lv_iconst (v := (-1)) hx hb dX8_init_72 (by decide) ?_
  refine bd_iast hx hb hK hW hS 21 9 au_s pu_s (vp_in_iff.mpr (by decide)) dX8_init_73 (fun H locs hW hS => ?_)
  rw [pu_pu] at hW
  refine lv_dup hx hb dX8_init_74 rfl ?_
  refine lv_iconst (v := 3) hx hb dX8_init_75 (by decide) ?_
  refine lv_iconst (v := (-1)) hx hb dX8_init_76 (by decide) ?_
  refine bd_iast hx hb hK hW hS 21 9 au_s pu_s (vp_in_iff.mpr (by decide)) dX8_init_77 (fun H locs hW hS => ?_)
  rw [pu_pu] at hW
  refine lv_dup hx hb dX8_init_78 rfl ?_
  refine lv_iconst (v := 4) hx hb dX8_init_79 (by decide) ?_
  refine lv_iconst (v := (-1)) hx hb dX8_init_80 (by decide) ?_
  refine bd_iast hx hb hK hW hS 21 9 au_s pu_s (vp_in_iff.mpr (by decide)) dX8_init_81 (fun H locs hW hS => ?_)
  rw [pu_pu] at hW
  refine lv_dup hx hb dX8_init_82 rfl ?_
  refine lv_iconst (v := 5) hx hb dX8_init_83 (by decide) ?_
  refine lv_iconst (v := (-1)) hx hb dX8_init_84 (by decide) ?_
  refine bd_iast hx hb hK hW hS 21 9 au_s pu_s (vp_in_iff.mpr (by decide)) dX8_init_85 (fun H locs hW hS => ?_)
  rw [pu_pu] at hW
  refine lv_dup hx hb dX8_init_86 rfl ?_
  refine lv_bipush (v := 6) hx hb dX8_init_87 (by decide) ?_
  refine lv_iconst (v := (-1)) hx hb dX8_init_89 (by decide) ?_
  refine bd_iast hx hb hK hW hS 21 9 au_s pu_s (vp_in_iff.mpr (by decide)) dX8_init_90 (fun H locs hW hS => ?_)
  rw [pu_pu] at hW
  refine lv_dup hx hb dX8_init_91 rfl ?_
  refine lv_bipush (v := 7) hx hb dX8_init_92 (by decide) ?_
  refine lv_iconst (v := (-1)) hx hb dX8_init_94 (by decide) ?_
  refine bd_iast hx hb hK hW hS 21 9 au_s pu_s (vp_in_iff.mpr (by decide)) dX8_init_95 (fun H locs hW hS => ?_)
  rw [pu_pu] at hW
  refine lv_dup hx hb dX8_init_96 rfl ?_
  refine lv_bipush (v := 8) hx hb dX8_init_97 (by decide) ?_
  refine lv_iconst (v := (-1)) hx hb dX8_init_99 (by decide) ?_
  refine bd_iast hx hb hK hW hS 21 9 au_s pu_s (vp_in_iff.mpr (by decide)) dX8_init_100 (fun H locs hW hS => ?_)
  rw [pu_pu] at hW
  refine lv_dup hx hb dX8_init_101 rfl ?_
  refine lv_bipush (v := 9) hx hb dX8_init_102 (by decide) ?_
  refine lv_iconst (v := (-1)) hx hb dX8_init_104 (by decide) ?_
  refine bd_iast hx hb hK hW hS 21 9 au_s pu_s (vp_in_iff.mpr (by decide)) dX8_init_105 (fun H locs hW hS => ?_)
  rw [pu_pu] at hW
  refine lv_dup hx hb dX8_init_106 rfl ?_
  refine lv_bipush (v := 10) hx hb dX8_init_107 (by decide) ?_
  refine lv_iconst (v := (-1)) hx hb dX8_init_109 (by decide) ?_
  refine bd_iast hx hb hK hW hS 21 9 au_s pu_s (vp_in_iff.mpr (by decide)) dX8_init_110 (fun H locs hW hS => ?_)
  rw [pu_pu] at hW
  refine lv_dup hx hb dX8_init_111 rfl ?_
  refine lv_bipush (v := 11) hx hb dX8_init_112 (by decide) ?_
  refine lv_iconst (v := (-1)) hx hb dX8_init_114 (by decide) ?_
  refine bd_iast hx hb hK hW hS 21 9 au_s pu_s (vp_in_iff.mpr (by decide)) dX8_init_115 (fun H locs hW hS => ?_)
  rw [pu_pu] at hW
  refine lv_dup hx hb dX8_init_116 rfl ?_
  refine lv_bipush (v := 12) hx hb dX8_init_117 (by decide) ?_
  refine lv_iconst (v := (-1)) hx hb dX8_init_119 (by decide) ?_
  refine bd_iast hx hb hK hW hS 21 9 au_s pu_s (vp_in_iff.mpr (by decide)) dX8_init_120 (fun H locs hW hS => ?_)
  rw [pu_pu] at hW
  refine lv_dup hx hb dX8_init_121 rfl ?_
  refine lv_bipush (v := 13) hx hb dX8_init_122 (by decide) ?_
  refine lv_iconst (v := (-1)) hx hb dX8_init_124 (by decide) ?_
  refine bd_iast hx hb hK hW hS 21 9 au_s pu_s (vp_in_iff.mpr (by decide)) dX8_init_125 (fun H locs hW hS => ?_)
  rw [pu_pu] at hW
  refine lv_dup hx hb dX8_init_126 rfl ?_
  refine lv_bipush (v := 14) hx hb dX8_init_127 (by decide) ?_
  refine lv_iconst (v := (-1)) hx hb dX8_init_129 (by decide) ?_
  refine bd_iast hx hb hK hW hS 21 9 au_s pu_s (vp_in_iff.mpr (by decide)) dX8_init_130 (fun H locs hW hS => ?_)
  rw [pu_pu] at hW
  refine lv_dup hx hb dX8_init_131 rfl ?_
  refine lv_bipush (v := 15) hx hb dX8_init_132 (by decide) ?_
  refine lv_iconst (v := (-1)) hx hb dX8_init_134 (by decide) ?_
  refine bd_iast hx hb hK hW hS 21 9 au_s pu_s (vp_in_iff.mpr (by decide)) dX8_init_135 (fun H locs hW hS => ?_)
  rw [pu_pu] at hW
  refine bd_putF (ci := 7) (C := RX8) (T := TX8) (N := 34) (ty := tyX8 9) (v := .ref q7) (fs2 := [.int 0, .ref q1, .int 1, .int 0, .ref q2, .ref q3, .ref q4, .ref q5, .ref q6, .ref q7, .null, .null, .int 0, .null, .null, .null, .null, .null, .null, .null, .null, .null, .null, .null, .null, .int 0, .null, .null, .null, .null, .null, .int 0, .null, .null]) hx hb hts hin tyX8 tyX8_ok nmX8 hown hK hW hS 20 0 ha ((pu_n (fun h => absurd h.1 (by decide))).trans pu_s) rfl 9 (by decide) (List.mem_of_getElem? (i := 13) rfl) rfl rfl hnm rfl (tyX8_ok 9 (by decide)) rfl rfl (Nat.le_of_ble_eq_true rfl) rfl dX8_init_136 (fun H locs hW hS => ?_)
  rw [pu_sw (fun h => absurd h.1 (by decide))] at hW
  refine lv_aload_n hx hb dX8_init_139 rfl (lv_at hl 0 rfl) ?_
  refine lv_bipush (v := 16) hx hb dX8_init_140 (by decide) ?_
  refine bd_newi (N' := 16) hx hb (List.mem_of_getElem? (i := 4) rfl) hts hK hW hS hz (by decide) rfl (by decide) 21 10 (hn 10) (Nat.le_of_ble_eq_true rfl) (Nat.le_of_ble_eq_true rfl) dX8_init_142 (fun q8 H hW hS => ?_)
  refine lv_dup hx hb dX8_init_144 rfl ?_
  refine lv_iconst (v := 0) hx hb dX8_init_145 (by decide) ?_
  refine lv_iconst (v := (-1)) hx hb dX8_init_146 (by decide) ?_
  refine bd_iast hx hb hK hW hS 21 10 au_s pu_s (vp_in_iff.mpr (by decide)) dX8_init_147 (fun H locs hW hS => ?_)
  rw [pu_pu] at hW
  refine lv_dup hx hb dX8_init_148 rfl ?_
  refine lv_iconst (v := 1) hx hb dX8_init_149 (by decide) ?_
  refine lv_iconst (v := (-1)) hx hb dX8_init_150 (by decide) ?_
  refine bd_iast hx hb hK hW hS 21 10 au_s pu_s (vp_in_iff.mpr (by decide)) dX8_init_151 (fun H locs hW hS => ?_)
  rw [pu_pu] at hW
  refine lv_dup hx hb dX8_init_152 rfl ?_
  refine lv_iconst (v := 2) hx hb dX8_init_153 (by decide) ?_
  refine lv_iconst (v := (-1)) hx hb dX8_init_154 (by decide) ?_
  refine bd_iast hx hb hK hW hS 21 10 au_s pu_s (vp_in_iff.mpr (by decide)) dX8_init_155 (fun H locs hW hS => ?_)
  rw [pu_pu] at hW
  refine lv_dup hx hb dX8_init_156 rfl ?_
  refine lv_iconst (v := 3) hx hb dX8_init_157 (by decide) ?_
  refine lv_iconst (v := (-1)) hx hb dX8_init_158 (by decide) ?_
  refine bd_iast hx hb hK hW hS 21 10 au_s pu_s (vp_in_iff.mpr (by decide)) dX8_init_159 (fun H locs hW hS => ?_)
  rw [pu_pu] at hW
  refine lv_dup hx hb dX8_init_160 rfl ?_
  refine lv_iconst (v := 4) hx hb dX8_init_161 (by decide) ?_
  refine lv_iconst (v := (-1)) hx hb dX8_init_162 (by decide) ?_
  refine bd_iast hx hb hK hW hS 21 10 au_s pu_s (vp_in_iff.mpr (by decide)) dX8_init_163 (fun H locs hW hS => ?_)
  rw [pu_pu] at hW
  refine lv_dup hx hb dX8_init_164 rfl ?_
  refine lv_iconst (v := 5) hx hb dX8_init_165 (by decide) ?_
  refine lv_iconst (v := (-1)) hx hb dX8_init_166 (by decide) ?_
  refine bd_iast hx hb hK hW hS 21 10 au_s pu_s (vp_in_iff.mpr (by decide)) dX8_init_167 (fun H locs hW hS => ?_)
  rw [pu_pu] at hW
  refine lv_dup hx hb dX8_init_168 rfl ?_
  refine lv_bipush (v := 6) hx hb dX8_init_169 (by decide) ?_
  refine lv_iconst (v := (-1)) hx hb dX8_init_171 (by decide) ?_
  refine bd_iast hx hb hK hW hS 21 10 au_s pu_s (vp_in_iff.mpr (by decide)) dX8_init_172 (fun H locs hW hS => ?_)
  rw [pu_pu] at hW
  refine lv_dup hx hb dX8_init_173 rfl ?_
  refine lv_bipush (v := 7) hx hb dX8_init_174 (by decide) ?_
  refine lv_iconst (v := (-1)) hx hb dX8_init_176 (by decide) ?_
  refine bd_iast hx hb hK hW hS 21 10 au_s pu_s (vp_in_iff.mpr (by decide)) dX8_init_177 (fun H locs hW hS => ?_)
  rw [pu_pu] at hW
  refine lv_dup hx hb dX8_init_178 rfl ?_
  refine lv_bipush (v := 8) hx hb dX8_init_179 (by decide) ?_
  refine lv_iconst (v := (-1)) hx hb dX8_init_181 (by decide) ?_
  refine bd_iast hx hb hK hW hS 21 10 au_s pu_s (vp_in_iff.mpr (by decide)) dX8_init_182 (fun H locs hW hS => ?_)
  rw [pu_pu] at hW
  refine lv_dup hx hb dX8_init_183 rfl ?_
  refine lv_bipush (v := 9) hx hb dX8_init_184 (by decide) ?_
  refine lv_iconst (v := (-1)) hx hb dX8_init_186 (by decide) ?_
  refine bd_iast hx hb hK hW hS 21 10 au_s pu_s (vp_in_iff.mpr (by decide)) dX8_init_187 (fun H locs hW hS => ?_)
  rw [pu_pu] at hW
  refine lv_dup hx hb dX8_init_188 rfl ?_
  refine lv_bipush (v := 10) hx hb dX8_init_189 (by decide) ?_
  refine lv_iconst (v := (-1)) hx hb dX8_init_191 (by decide) ?_
  refine bd_iast hx hb hK hW hS 21 10 au_s pu_s (vp_in_iff.mpr (by decide)) dX8_init_192 (fun H locs hW hS => ?_)
  rw [pu_pu] at hW
  refine lv_dup hx hb dX8_init_193 rfl ?_
  refine lv_bipush (v := 11) hx hb dX8_init_194 (by decide) ?_
  refine lv_iconst (v := (-1)) hx hb dX8_init_196 (by decide) ?_
  refine bd_iast hx hb hK hW hS 21 10 au_s pu_s (vp_in_iff.mpr (by decide)) dX8_init_197 (fun H locs hW hS => ?_)
  rw [pu_pu] at hW
  refine lv_dup hx hb dX8_init_198 rfl ?_
  refine lv_bipush (v := 12) hx hb dX8_init_199 (by decide) ?_
  refine lv_iconst (v := (-1)) hx hb dX8_init_201 (by decide) ?_
  refine bd_iast hx hb hK hW hS 21 10 au_s pu_s (vp_in_iff.mpr (by decide)) dX8_init_202 (fun H locs hW hS => ?_)
  rw [pu_pu] at hW
  refine lv_dup hx hb dX8_init_203 rfl ?_
  refine lv_bipush (v := 13) hx hb dX8_init_204 (by decide) ?_
  refine lv_iconst (v := (-1)) hx hb dX8_init_206 (by decide) ?_
  refine bd_iast hx hb hK hW hS 21 10 au_s pu_s (vp_in_iff.mpr (by decide)) dX8_init_207 (fun H locs hW hS => ?_)
  rw [pu_pu] at hW
  refine lv_dup hx hb dX8_init_208 rfl ?_
  refine lv_bipush (v := 14) hx hb dX8_init_209 (by decide) ?_
  refine lv_iconst (v := (-1)) hx hb dX8_init_211 (by decide) ?_
  refine bd_iast hx hb hK hW hS 21 10 au_s pu_s (vp_in_iff.mpr (by decide)) dX8_init_212 (fun H locs hW hS => ?_)
  rw [pu_pu] at hW
  refine lv_dup hx hb dX8_init_213 rfl ?_
  refine lv_bipush (v := 15) hx hb dX8_init_214 (by decide) ?_
  refine lv_iconst (v := (-1)) hx hb dX8_init_216 (by decide) ?_
  refine bd_iast hx hb hK hW hS 21 10 au_s pu_s (vp_in_iff.mpr (by decide)) dX8_init_217 (fun H locs hW hS => ?_)
  rw [pu_pu] at hW
  refine bd_putF (ci := 7) (C := RX8) (T := TX8) (N := 34) (ty := tyX8 10) (v := .ref q8) (fs2 := [.int 0, .ref q1, .int 1, .int 0, .ref q2, .ref q3, .ref q4, .ref q5, .ref q6, .ref q7, .ref q8, .null, .int 0, .null, .null, .null, .null, .null, .null, .null, .null, .null, .null, .null, .null, .int 0, .null, .null, .null, .null, .null, .int 0, .null, .null]) hx hb hts hin tyX8 tyX8_ok nmX8 hown hK hW hS 20 0 ha ((pu_n (fun h => absurd h.1 (by decide))).trans pu_s) rfl 10 (by decide) (List.mem_of_getElem? (i := 14) rfl) rfl rfl hnm rfl (tyX8_ok 10 (by decide)) rfl rfl (Nat.le_of_ble_eq_true rfl) rfl dX8_init_218 (fun H locs hW hS => ?_)
  rw [pu_sw (fun h => absurd h.1 (by decide))] at hW
  refine lv_aload_n hx hb dX8_init_221 rfl (lv_at hl 0 rfl) ?_
  refine lv_bipush (v := 16) hx hb dX8_init_222 (by decide) ?_
  refine bd_newi (N' := 16) hx hb (List.mem_of_getElem? (i := 4) rfl) hts hK hW hS hz (by decide) rfl (by decide) 21 11 (hn 11) (Nat.le_of_ble_eq_true rfl) (Nat.le_of_ble_eq_true rfl) dX8_init_224 (fun q9 H hW hS => ?_)
  refine lv_dup hx hb dX8_init_226 rfl ?_
  refine lv_iconst (v := 0) hx hb dX8_init_227 (by decide) ?_
  refine lv_iconst (v := (-1)) hx hb dX8_init_228 (by decide) ?_
  refine bd_iast hx hb hK hW hS 21 11 au_s pu_s (vp_in_iff.mpr (by decide)) dX8_init_229 (fun H locs hW hS => ?_)
  rw [pu_pu] at hW
  refine lv_dup hx hb dX8_init_230 rfl ?_
  refine lv_iconst (v := 1) hx hb dX8_init_231 (by decide) ?_
  refine lv_iconst (v := (-1)) hx hb dX8_init_232 (by decide) ?_
  refine bd_iast hx hb hK hW hS 21 11 au_s pu_s (vp_in_iff.mpr (by decide)) dX8_init_233 (fun H locs hW hS => ?_)
  rw [pu_pu] at hW
  refine lv_dup hx hb dX8_init_234 rfl ?_
  refine lv_iconst (v := 2) hx hb dX8_init_235 (by decide) ?_
  refine lv_iconst (v := (-1)) hx hb dX8_init_236 (by decide) ?_
  refine bd_iast hx hb hK hW hS 21 11 au_s pu_s (vp_in_iff.mpr (by decide)) dX8_init_237 (fun H locs hW hS => ?_)
  rw [pu_pu] at hW
  refine lv_dup hx hb dX8_init_238 rfl ?_
  refine lv_iconst (v := 3) hx hb dX8_init_239 (by decide) ?_
  refine lv_iconst (v := (-1)) hx hb dX8_init_240 (by decide) ?_
  refine bd_iast hx hb hK hW hS 21 11 au_s pu_s (vp_in_iff.mpr (by decide)) dX8_init_241 (fun H locs hW hS => ?_)
  rw [pu_pu] at hW
  refine lv_dup hx hb dX8_init_242 rfl ?_
  refine lv_iconst (v := 4) hx hb dX8_init_243 (by decide) ?_
  refine lv_iconst (v := (-1)) hx hb dX8_init_244 (by decide) ?_
  refine bd_iast hx hb hK hW hS 21 11 au_s pu_s (vp_in_iff.mpr (by decide)) dX8_init_245 (fun H locs hW hS => ?_)
  rw [pu_pu] at hW
  refine lv_dup hx hb dX8_init_246 rfl ?_
  refine lv_iconst (v := 5) hx hb dX8_init_247 (by decide) ?_
  refine lv_iconst (v := (-1)) hx hb dX8_init_248 (by decide) ?_
  refine bd_iast hx hb hK hW hS 21 11 au_s pu_s (vp_in_iff.mpr (by decide)) dX8_init_249 (fun H locs hW hS => ?_)
  rw [pu_pu] at hW
  refine lv_dup hx hb dX8_init_250 rfl ?_
  refine lv_bipush (v := 6) hx hb dX8_init_251 (by decide) ?_
  refine lv_iconst (v := (-1)) hx hb dX8_init_253 (by decide) ?_
  refine bd_iast hx hb hK hW hS 21 11 au_s pu_s (vp_in_iff.mpr (by decide)) dX8_init_254 (fun H locs hW hS => ?_)
  rw [pu_pu] at hW
  refine lv_dup hx hb dX8_init_255 rfl ?_
  refine lv_bipush (v := 7) hx hb dX8_init_256 (by decide) ?_
  refine lv_iconst (v := (-1)) hx hb dX8_init_258 (by decide) ?_
  refine bd_iast hx hb hK hW hS 21 11 au_s pu_s (vp_in_iff.mpr (by decide)) dX8_init_259 (fun H locs hW hS => ?_)
  rw [pu_pu] at hW
  refine lv_dup hx hb dX8_init_260 rfl ?_
  refine lv_bipush (v := 8) hx hb dX8_init_261 (by decide) ?_
  refine lv_iconst (v := (-1)) hx hb dX8_init_263 (by decide) ?_
  refine bd_iast hx hb hK hW hS 21 11 au_s pu_s (vp_in_iff.mpr (by decide)) dX8_init_264 (fun H locs hW hS => ?_)
  rw [pu_pu] at hW
  refine lv_dup hx hb dX8_init_265 rfl ?_
  refine lv_bipush (v := 9) hx hb dX8_init_266 (by decide) ?_
  refine lv_iconst (v := (-1)) hx hb dX8_init_268 (by decide) ?_
  refine bd_iast hx hb hK hW hS 21 11 au_s pu_s (vp_in_iff.mpr (by decide)) dX8_init_269 (fun H locs hW hS => ?_)
  rw [pu_pu] at hW
  refine lv_dup hx hb dX8_init_270 rfl ?_
  refine lv_bipush (v := 10) hx hb dX8_init_271 (by decide) ?_
  refine lv_iconst (v := (-1)) hx hb dX8_init_273 (by decide) ?_
  refine bd_iast hx hb hK hW hS 21 11 au_s pu_s (vp_in_iff.mpr (by decide)) dX8_init_274 (fun H locs hW hS => ?_)
  rw [pu_pu] at hW
  refine lv_dup hx hb dX8_init_275 rfl ?_
  refine lv_bipush (v := 11) hx hb dX8_init_276 (by decide) ?_
  refine lv_iconst (v := (-1)) hx hb dX8_init_278 (by decide) ?_
  refine bd_iast hx hb hK hW hS 21 11 au_s pu_s (vp_in_iff.mpr (by decide)) dX8_init_279 (fun H locs hW hS => ?_)
  rw [pu_pu] at hW
  refine lv_dup hx hb dX8_init_280 rfl ?_
  refine lv_bipush (v := 12) hx hb dX8_init_281 (by decide) ?_
  refine lv_iconst (v := (-1)) hx hb dX8_init_283 (by decide) ?_
  refine bd_iast hx hb hK hW hS 21 11 au_s pu_s (vp_in_iff.mpr (by decide)) dX8_init_284 (fun H locs hW hS => ?_)
  rw [pu_pu] at hW
  refine lv_dup hx hb dX8_init_285 rfl ?_
  refine lv_bipush (v := 13) hx hb dX8_init_286 (by decide) ?_
  refine lv_iconst (v := (-1)) hx hb dX8_init_288 (by decide) ?_
  refine bd_iast hx hb hK hW hS 21 11 au_s pu_s (vp_in_iff.mpr (by decide)) dX8_init_289 (fun H locs hW hS => ?_)
  rw [pu_pu] at hW
  refine lv_dup hx hb dX8_init_290 rfl ?_
  refine lv_bipush (v := 14) hx hb dX8_init_291 (by decide) ?_
  refine lv_iconst (v := (-1)) hx hb dX8_init_293 (by decide) ?_
  refine bd_iast hx hb hK hW hS 21 11 au_s pu_s (vp_in_iff.mpr (by decide)) dX8_init_294 (fun H locs hW hS => ?_)
  rw [pu_pu] at hW
  refine lv_dup hx hb dX8_init_295 rfl ?_
  refine lv_bipush (v := 15) hx hb dX8_init_296 (by decide) ?_
  refine lv_iconst (v := (-1)) hx hb dX8_init_298 (by decide) ?_
  refine bd_iast hx hb hK hW hS 21 11 au_s pu_s (vp_in_iff.mpr (by decide)) dX8_init_299 (fun H locs hW hS => ?_)
  rw [pu_pu] at hW
  refine bd_putF (ci := 7) (C := RX8) (T := TX8) (N := 34) (ty := tyX8 11) (v := .ref q9) (fs2 := [.int 0, .ref q1, .int 1, .int 0, .ref q2, .ref q3, .ref q4, .ref q5, .ref q6, .ref q7, .ref q8, .ref q9, .int 0, .null, .null, .null, .null, .null, .null, .null, .null, .null, .null, .null, .null, .int 0, .null, .null, .null, .null, .null, .int 0, .null, .null]) hx hb hts hin tyX8 tyX8_ok nmX8 hown hK hW hS 20 0 ha ((pu_n (fun h => absurd h.1 (by decide))).trans pu_s) rfl 11 (by decide) (List.mem_of_getElem? (i := 15) rfl) rfl rfl hnm rfl (tyX8_ok 11 (by decide)) rfl rfl (Nat.le_of_ble_eq_true rfl) rfl dX8_init_300 (fun H locs hW hS => ?_)
  rw [pu_sw (fun h => absurd h.1 (by decide))] at hW
  refine lv_aload_n hx hb dX8_init_303 rfl (lv_at hl 0 rfl) ?_
  refine lv_bipush (v := 64) hx hb dX8_init_304 (by decide) ?_
  refine bd_newi (N' := 64) hx hb (List.mem_of_getElem? (i := 4) rfl) hts hK hW hS hz (by decide) rfl (by decide) 21 13 (hn 13) (Nat.le_of_ble_eq_true rfl) (Nat.le_of_ble_eq_true rfl) dX8_init_306 (fun q10 H hW hS => ?_)
  refine bd_putF (ci := 7) (C := RX8) (T := TX8) (N := 34) (ty := tyX8 13) (v := .ref q10) (fs2 := [.int 0, .ref q1, .int 1, .int 0, .ref q2, .ref q3, .ref q4, .ref q5, .ref q6, .ref q7, .ref q8, .ref q9, .int 0, .ref q10, .null, .null, .null, .null, .null, .null, .null, .null, .null, .null, .null, .int 0, .null, .null, .null, .null, .null, .int 0, .null, .null]) hx hb hts hin tyX8 tyX8_ok nmX8 hown hK hW hS 20 0 ha ((pu_n (fun h => absurd h.1 (by decide))).trans pu_s) rfl 13 (by decide) (List.mem_of_getElem? (i := 16) rfl) rfl rfl hnm rfl (tyX8_ok 13 (by decide)) rfl rfl (Nat.le_of_ble_eq_true rfl) rfl dX8_init_308 (fun H locs hW hS => ?_)
  rw [pu_sw (fun h => absurd h.1 (by decide))] at hW
  refine lv_aload_n hx hb dX8_init_311 rfl (lv_at hl 0 rfl) ?_
  refine lv_bipush (v := 64) hx hb dX8_init_312 (by decide) ?_
  refine bd_newi (N' := 64) hx hb (List.mem_of_getElem? (i := 4) rfl) hts hK hW hS hz (by decide) rfl (by decide) 21 14 (hn 14) (Nat.le_of_ble_eq_true rfl) (Nat.le_of_ble_eq_true rfl) dX8_init_314 (fun q11 H hW hS => ?_)
  refine bd_putF (ci := 7) (C := RX8) (T := TX8) (N := 34) (ty := tyX8 14) (v := .ref q11) (fs2 := [.int 0, .ref q1, .int 1, .int 0, .ref q2, .ref q3, .ref q4, .ref q5, .ref q6, .ref q7, .ref q8, .ref q9, .int 0, .ref q10, .ref q11, .null, .null, .null, .null, .null, .null, .null, .null, .null, .null, .int 0, .null, .null, .null, .null, .null, .int 0, .null, .null]) hx hb hts hin tyX8 tyX8_ok nmX8 hown hK hW hS 20 0 ha ((pu_n (fun h => absurd h.1 (by decide))).trans pu_s) rfl 14 (by decide) (List.mem_of_getElem? (i := 17) rfl) rfl rfl hnm rfl (tyX8_ok 14 (by decide)) rfl rfl (Nat.le_of_ble_eq_true rfl) rfl dX8_init_316 (fun H locs hW hS => ?_)
  rw [pu_sw (fun h => absurd h.1 (by decide))] at hW
  refine lv_aload_n hx hb dX8_init_319 rfl (lv_at hl 0 rfl) ?_
  refine lv_bipush (v := 64) hx hb dX8_init_320 (by decide) ?_
  refine bd_newi (N' := 64) hx hb (List.mem_of_getElem? (i := 4) rfl) hts hK hW hS hz (by decide) rfl (by decide) 21 15 (hn 15) (Nat.le_of_ble_eq_true rfl) (Nat.le_of_ble_eq_true rfl) dX8_init_322 (fun q12 H hW hS => ?_)
  refine bd_putF (ci := 7) (C := RX8) (T := TX8) (N := 34) (ty := tyX8 15) (v := .ref q12) (fs2 := [.int 0, .ref q1, .int 1, .int 0, .ref q2, .ref q3, .ref q4, .ref q5, .ref q6, .ref q7, .ref q8, .ref q9, .int 0, .ref q10, .ref q11, .ref q12, .null, .null, .null, .null, .null, .null, .null, .null, .null, .int 0, .null, .null, .null, .null, .null, .int 0, .null, .null]) hx hb hts hin tyX8 tyX8_ok nmX8 hown hK hW hS 20 0 ha ((pu_n (fun h => absurd h.1 (by decide))).trans pu_s) rfl 15 (by decide) (List.mem_of_getElem? (i := 18) rfl) rfl rfl hnm rfl (tyX8_ok 15 (by decide)) rfl rfl (Nat.le_of_ble_eq_true rfl) rfl dX8_init_324 (fun H locs hW hS => ?_)
  rw [pu_sw (fun h => absurd h.1 (by decide))] at hW
  refine lv_aload_n hx hb dX8_init_327 rfl (lv_at hl 0 rfl) ?_
  refine lv_bipush (v := 64) hx hb dX8_init_328 (by decide) ?_
  refine bd_newl (N' := 64) hx hb (List.mem_of_getElem? (i := 19) rfl) hts hK hW hS hz (by decide) rfl (by decide) 21 16 (hn 16) (Nat.le_of_ble_eq_true rfl) (Nat.le_of_ble_eq_true rfl) dX8_init_330 (fun q13 H hW hS => ?_)
  refine bd_putF (ci := 7) (C := RX8) (T := TX8) (N := 34) (ty := tyX8 16) (v := .ref q13) (fs2 := [.int 0, .ref q1, .int 1, .int 0, .ref q2, .ref q3, .ref q4, .ref q5, .ref q6, .ref q7, .ref q8, .ref q9, .int 0, .ref q10, .ref q11, .ref q12, .ref q13, .null, .null, .null, .null, .null, .null, .null, .null, .int 0, .null, .null, .null, .null, .null, .int 0, .null, .null]) hx hb hts hin tyX8 tyX8_ok nmX8 hown hK hW hS 20 0 ha ((pu_n (fun h => absurd h.1 (by decide))).trans pu_s) rfl 16 (by decide) (List.mem_of_getElem? (i := 20) rfl) rfl rfl hnm rfl (tyX8_ok 16 (by decide)) rfl rfl (Nat.le_of_ble_eq_true rfl) rfl dX8_init_332 (fun H locs hW hS => ?_)
  rw [pu_sw (fun h => absurd h.1 (by decide))] at hW
  refine lv_aload_n hx hb dX8_init_335 rfl (lv_at hl 0 rfl) ?_
  refine lv_sipush (v := 192) hx hb dX8_init_336 (by decide) ?_
  refine bd_newi (N' := 192) hx hb (List.mem_of_getElem? (i := 4) rfl) hts hK hW hS hz (by decide) rfl (by decide) 21 17 (hn 17) (Nat.le_of_ble_eq_true rfl) (Nat.le_of_ble_eq_true rfl) dX8_init_339 (fun q14 H hW hS => ?_)
  refine bd_putF (ci := 7) (C := RX8) (T := TX8) (N := 34) (ty := tyX8 17) (v := .ref q14) (fs2 := [.int 0, .ref q1, .int 1, .int 0, .ref q2, .ref q3, .ref q4, .ref q5, .ref q6, .ref q7, .ref q8, .ref q9, .int 0, .ref q10, .ref q11, .ref q12, .ref q13, .ref q14, .null, .null, .null, .null, .null, .null, .null, .int 0, .null, .null, .null, .null, .null, .int 0, .null, .null]) hx hb hts hin tyX8 tyX8_ok nmX8 hown hK hW hS 20 0 ha ((pu_n (fun h => absurd h.1 (by decide))).trans pu_s) rfl 17 (by decide) (List.mem_of_getElem? (i := 21) rfl) rfl rfl hnm rfl (tyX8_ok 17 (by decide)) rfl rfl (Nat.le_of_ble_eq_true rfl) rfl dX8_init_341 (fun H locs hW hS => ?_)
  rw [pu_sw (fun h => absurd h.1 (by decide))] at hW
  refine lv_aload_n hx hb dX8_init_344 rfl (lv_at hl 0 rfl) ?_
  refine lv_bipush (v := 64) hx hb dX8_init_345 (by decide) ?_
  refine bd_newz (N' := 64) hx hb (List.mem_of_getElem? (i := 11) rfl) hts hK hW hS hz (by decide) rfl (by decide) 21 18 (hn 18) (Nat.le_of_ble_eq_true rfl) (Nat.le_of_ble_eq_true rfl) dX8_init_347 (fun q15 H hW hS => ?_)
  refine bd_putF (ci := 7) (C := RX8) (T := TX8) (N := 34) (ty := tyX8 18) (v := .ref q15) (fs2 := [.int 0, .ref q1, .int 1, .int 0, .ref q2, .ref q3, .ref q4, .ref q5, .ref q6, .ref q7, .ref q8, .ref q9, .int 0, .ref q10, .ref q11, .ref q12, .ref q13, .ref q14, .ref q15, .null, .null, .null, .null, .null, .null, .int 0, .null, .null, .null, .null, .null, .int 0, .null, .null]) hx hb hts hin tyX8 tyX8_ok nmX8 hown hK hW hS 20 0 ha ((pu_n (fun h => absurd h.1 (by decide))).trans pu_s) rfl 18 (by decide) (List.mem_of_getElem? (i := 22) rfl) rfl rfl hnm rfl (tyX8_ok 18 (by decide)) rfl rfl (Nat.le_of_ble_eq_true rfl) rfl dX8_init_349 (fun H locs hW hS => ?_)
  rw [pu_sw (fun h => absurd h.1 (by decide))] at hW
  refine lv_aload_n hx hb dX8_init_352 rfl (lv_at hl 0 rfl) ?_
  refine lv_bipush (v := 8) hx hb dX8_init_353 (by decide) ?_
  refine bd_newz (N' := 8) hx hb (List.mem_of_getElem? (i := 11) rfl) hts hK hW hS hz (by decide) rfl (by decide) 21 19 (hn 19) (Nat.le_of_ble_eq_true rfl) (Nat.le_of_ble_eq_true rfl) dX8_init_355 (fun q16 H hW hS => ?_)
  refine bd_putF (ci := 7) (C := RX8) (T := TX8) (N := 34) (ty := tyX8 19) (v := .ref q16) (fs2 := [.int 0, .ref q1, .int 1, .int 0, .ref q2, .ref q3, .ref q4, .ref q5, .ref q6, .ref q7, .ref q8, .ref q9, .int 0, .ref q10, .ref q11, .ref q12, .ref q13, .ref q14, .ref q15, .ref q16, .null, .null, .null, .null, .null, .int 0, .null, .null, .null, .null, .null, .int 0, .null, .null]) hx hb hts hin tyX8 tyX8_ok nmX8 hown hK hW hS 20 0 ha ((pu_n (fun h => absurd h.1 (by decide))).trans pu_s) rfl 19 (by decide) (List.mem_of_getElem? (i := 23) rfl) rfl rfl hnm rfl (tyX8_ok 19 (by decide)) rfl rfl (Nat.le_of_ble_eq_true rfl) rfl dX8_init_357 (fun H locs hW hS => ?_)
  rw [pu_sw (fun h => absurd h.1 (by decide))] at hW
  refine lv_aload_n hx hb dX8_init_360 rfl (lv_at hl 0 rfl) ?_
  refine lv_bipush (v := 8) hx hb dX8_init_361 (by decide) ?_
  refine bd_newi (N' := 8) hx hb (List.mem_of_getElem? (i := 4) rfl) hts hK hW hS hz (by decide) rfl (by decide) 21 20 (hn 20) (Nat.le_of_ble_eq_true rfl) (Nat.le_of_ble_eq_true rfl) dX8_init_363 (fun q17 H hW hS => ?_)
  refine bd_putF (ci := 7) (C := RX8) (T := TX8) (N := 34) (ty := tyX8 20) (v := .ref q17) (fs2 := [.int 0, .ref q1, .int 1, .int 0, .ref q2, .ref q3, .ref q4, .ref q5, .ref q6, .ref q7, .ref q8, .ref q9, .int 0, .ref q10, .ref q11, .ref q12, .ref q13, .ref q14, .ref q15, .ref q16, .ref q17, .null, .null, .null, .null, .int 0, .null, .null, .null, .null, .null, .int 0, .null, .null]) hx hb hts hin tyX8 tyX8_ok nmX8 hown hK hW hS 20 0 ha ((pu_n (fun h => absurd h.1 (by decide))).trans pu_s) rfl 20 (by decide) (List.mem_of_getElem? (i := 24) rfl) rfl rfl hnm rfl (tyX8_ok 20 (by decide)) rfl rfl (Nat.le_of_ble_eq_true rfl) rfl dX8_init_365 (fun H locs hW hS => ?_)
  rw [pu_sw (fun h => absurd h.1 (by decide))] at hW
  refine lv_aload_n hx hb dX8_init_368 rfl (lv_at hl 0 rfl) ?_
  refine lv_bipush (v := 8) hx hb dX8_init_369 (by decide) ?_
  refine bd_newi (N' := 8) hx hb (List.mem_of_getElem? (i := 4) rfl) hts hK hW hS hz (by decide) rfl (by decide) 21 21 (hn 21) (Nat.le_of_ble_eq_true rfl) (Nat.le_of_ble_eq_true rfl) dX8_init_371 (fun q18 H hW hS => ?_)
  refine bd_putF (ci := 7) (C := RX8) (T := TX8) (N := 34) (ty := tyX8 21) (v := .ref q18) (fs2 := [.int 0, .ref q1, .int 1, .int 0, .ref q2, .ref q3, .ref q4, .ref q5, .ref q6, .ref q7, .ref q8, .ref q9, .int 0, .ref q10, .ref q11, .ref q12, .ref q13, .ref q14, .ref q15, .ref q16, .ref q17, .ref q18, .null, .null, .null, .int 0, .null, .null, .null, .null, .null, .int 0, .null, .null]) hx hb hts hin tyX8 tyX8_ok nmX8 hown hK hW hS 20 0 ha ((pu_n (fun h => absurd h.1 (by decide))).trans pu_s) rfl 21 (by decide) (List.mem_of_getElem? (i := 25) rfl) rfl rfl hnm rfl (tyX8_ok 21 (by decide)) rfl rfl (Nat.le_of_ble_eq_true rfl) rfl dX8_init_373 (fun H locs hW hS => ?_)
  rw [pu_sw (fun h => absurd h.1 (by decide))] at hW
  refine lv_aload_n hx hb dX8_init_376 rfl (lv_at hl 0 rfl) ?_
  refine lv_bipush (v := 8) hx hb dX8_init_377 (by decide) ?_
  refine bd_newi (N' := 8) hx hb (List.mem_of_getElem? (i := 4) rfl) hts hK hW hS hz (by decide) rfl (by decide) 21 22 (hn 22) (Nat.le_of_ble_eq_true rfl) (Nat.le_of_ble_eq_true rfl) dX8_init_379 (fun q19 H hW hS => ?_)
  refine bd_putF (ci := 7) (C := RX8) (T := TX8) (N := 34) (ty := tyX8 22) (v := .ref q19) (fs2 := [.int 0, .ref q1, .int 1, .int 0, .ref q2, .ref q3, .ref q4, .ref q5, .ref q6, .ref q7, .ref q8, .ref q9, .int 0, .ref q10, .ref q11, .ref q12, .ref q13, .ref q14, .ref q15, .ref q16, .ref q17, .ref q18, .ref q19, .null, .null, .int 0, .null, .null, .null, .null, .null, .int 0, .null, .null]) hx hb hts hin tyX8 tyX8_ok nmX8 hown hK hW hS 20 0 ha ((pu_n (fun h => absurd h.1 (by decide))).trans pu_s) rfl 22 (by decide) (List.mem_of_getElem? (i := 26) rfl) rfl rfl hnm rfl (tyX8_ok 22 (by decide)) rfl rfl (Nat.le_of_ble_eq_true rfl) rfl dX8_init_381 (fun H locs hW hS => ?_)
  rw [pu_sw (fun h => absurd h.1 (by decide))] at hW
  refine lv_aload_n hx hb dX8_init_384 rfl (lv_at hl 0 rfl) ?_
  refine lv_bipush (v := 8) hx hb dX8_init_385 (by decide) ?_
  refine bd_newi (N' := 8) hx hb (List.mem_of_getElem? (i := 4) rfl) hts hK hW hS hz (by decide) rfl (by decide) 21 23 (hn 23) (Nat.le_of_ble_eq_true rfl) (Nat.le_of_ble_eq_true rfl) dX8_init_387 (fun q20 H hW hS => ?_)
  refine bd_putF (ci := 7) (C := RX8) (T := TX8) (N := 34) (ty := tyX8 23) (v := .ref q20) (fs2 := [.int 0, .ref q1, .int 1, .int 0, .ref q2, .ref q3, .ref q4, .ref q5, .ref q6, .ref q7, .ref q8, .ref q9, .int 0, .ref q10, .ref q11, .ref q12, .ref q13, .ref q14, .ref q15, .ref q16, .ref q17, .ref q18, .ref q19, .ref q20, .null, .int 0, .null, .null, .null, .null, .null, .int 0, .null, .null]) hx hb hts hin tyX8 tyX8_ok nmX8 hown hK hW hS 20 0 ha ((pu_n (fun h => absurd h.1 (by decide))).trans pu_s) rfl 23 (by decide) (List.mem_of_getElem? (i := 27) rfl) rfl rfl hnm rfl (tyX8_ok 23 (by decide)) rfl rfl (Nat.le_of_ble_eq_true rfl) rfl dX8_init_389 (fun H locs hW hS => ?_)
  rw [pu_sw (fun h => absurd h.1 (by decide))] at hW
  refine lv_aload_n hx hb dX8_init_392 rfl (lv_at hl 0 rfl) ?_
  refine lv_bipush (v := 8) hx hb dX8_init_393 (by decide) ?_
  refine bd_newi (N' := 8) hx hb (List.mem_of_getElem? (i := 4) rfl) hts hK hW hS hz (by decide) rfl (by decide) 21 24 (hn 24) (Nat.le_of_ble_eq_true rfl) (Nat.le_of_ble_eq_true rfl) dX8_init_395 (fun q21 H hW hS => ?_)
  refine bd_putF (ci := 7) (C := RX8) (T := TX8) (N := 34) (ty := tyX8 24) (v := .ref q21) (fs2 := [.int 0, .ref q1, .int 1, .int 0, .ref q2, .ref q3, .ref q4, .ref q5, .ref q6, .ref q7, .ref q8, .ref q9, .int 0, .ref q10, .ref q11, .ref q12, .ref q13, .ref q14, .ref q15, .ref q16, .ref q17, .ref q18, .ref q19, .ref q20, .ref q21, .int 0, .null, .null, .null, .null, .null, .int 0, .null, .null]) hx hb hts hin tyX8 tyX8_ok nmX8 hown hK hW hS 20 0 ha ((pu_n (fun h => absurd h.1 (by decide))).trans pu_s) rfl 24 (by decide) (List.mem_of_getElem? (i := 28) rfl) rfl rfl hnm rfl (tyX8_ok 24 (by decide)) rfl rfl (Nat.le_of_ble_eq_true rfl) rfl dX8_init_397 (fun H locs hW hS => ?_)
  rw [pu_sw (fun h => absurd h.1 (by decide))] at hW
  refine lv_aload_n hx hb dX8_init_400 rfl (lv_at hl 0 rfl) ?_
  refine lv_sipush (v := 1024) hx hb dX8_init_401 (by decide) ?_
  refine bd_newi (N' := 1024) hx hb (List.mem_of_getElem? (i := 4) rfl) hts hK hW hS hz (by decide) rfl (by decide) 21 26 (hn 26) (Nat.le_of_ble_eq_true rfl) (Nat.le_of_ble_eq_true rfl) dX8_init_404 (fun q22 H hW hS => ?_)
  refine bd_putF (ci := 7) (C := RX8) (T := TX8) (N := 34) (ty := tyX8 26) (v := .ref q22) (fs2 := [.int 0, .ref q1, .int 1, .int 0, .ref q2, .ref q3, .ref q4, .ref q5, .ref q6, .ref q7, .ref q8, .ref q9, .int 0, .ref q10, .ref q11, .ref q12, .ref q13, .ref q14, .ref q15, .ref q16, .ref q17, .ref q18, .ref q19, .ref q20, .ref q21, .int 0, .ref q22, .null, .null, .null, .null, .int 0, .null, .null]) hx hb hts hin tyX8 tyX8_ok nmX8 hown hK hW hS 20 0 ha ((pu_n (fun h => absurd h.1 (by decide))).trans pu_s) rfl 26 (by decide) (List.mem_of_getElem? (i := 29) rfl) rfl rfl hnm rfl (tyX8_ok 26 (by decide)) rfl rfl (Nat.le_of_ble_eq_true rfl) rfl dX8_init_406 (fun H locs hW hS => ?_)
  rw [pu_sw (fun h => absurd h.1 (by decide))] at hW
  refine lv_aload_n hx hb dX8_init_409 rfl (lv_at hl 0 rfl) ?_
  refine lv_bipush (v := 16) hx hb dX8_init_410 (by decide) ?_
  refine bd_newi (N' := 16) hx hb (List.mem_of_getElem? (i := 4) rfl) hts hK hW hS hz (by decide) rfl (by decide) 21 27 (hn 27) (Nat.le_of_ble_eq_true rfl) (Nat.le_of_ble_eq_true rfl) dX8_init_412 (fun q23 H hW hS => ?_)
  refine bd_putF (ci := 7) (C := RX8) (T := TX8) (N := 34) (ty := tyX8 27) (v := .ref q23) (fs2 := [.int 0, .ref q1, .int 1, .int 0, .ref q2, .ref q3, .ref q4, .ref q5, .ref q6, .ref q7, .ref q8, .ref q9, .int 0, .ref q10, .ref q11, .ref q12, .ref q13, .ref q14, .ref q15, .ref q16, .ref q17, .ref q18, .ref q19, .ref q20, .ref q21, .int 0, .ref q22, .ref q23, .null, .null, .null, .int 0, .null, .null]) hx hb hts hin tyX8 tyX8_ok nmX8 hown hK hW hS 20 0 ha ((pu_n (fun h => absurd h.1 (by decide))).trans pu_s) rfl 27 (by decide) (List.mem_of_getElem? (i := 30) rfl) rfl rfl hnm rfl (tyX8_ok 27 (by decide)) rfl rfl (Nat.le_of_ble_eq_true rfl) rfl dX8_init_414 (fun H locs hW hS => ?_)
  rw [pu_sw (fun h => absurd h.1 (by decide))] at hW
  refine lv_aload_n hx hb dX8_init_417 rfl (lv_at hl 0 rfl) ?_
  refine lv_bipush (v := 16) hx hb dX8_init_418 (by decide) ?_
  refine bd_newi (N' := 16) hx hb (List.mem_of_getElem? (i := 4) rfl) hts hK hW hS hz (by decide) rfl (by decide) 21 28 (hn 28) (Nat.le_of_ble_eq_true rfl) (Nat.le_of_ble_eq_true rfl) dX8_init_420 (fun q24 H hW hS => ?_)
  refine bd_putF (ci := 7) (C := RX8) (T := TX8) (N := 34) (ty := tyX8 28) (v := .ref q24) (fs2 := [.int 0, .ref q1, .int 1, .int 0, .ref q2, .ref q3, .ref q4, .ref q5, .ref q6, .ref q7, .ref q8, .ref q9, .int 0, .ref q10, .ref q11, .ref q12, .ref q13, .ref q14, .ref q15, .ref q16, .ref q17, .ref q18, .ref q19, .ref q20, .ref q21, .int 0, .ref q22, .ref q23, .ref q24, .null, .null, .int 0, .null, .null]) hx hb hts hin tyX8 tyX8_ok nmX8 hown hK hW hS 20 0 ha ((pu_n (fun h => absurd h.1 (by decide))).trans pu_s) rfl 28 (by decide) (List.mem_of_getElem? (i := 31) rfl) rfl rfl hnm rfl (tyX8_ok 28 (by decide)) rfl rfl (Nat.le_of_ble_eq_true rfl) rfl dX8_init_422 (fun H locs hW hS => ?_)
  rw [pu_sw (fun h => absurd h.1 (by decide))] at hW
  refine lv_aload_n hx hb dX8_init_425 rfl (lv_at hl 0 rfl) ?_
  refine lv_bipush (v := 16) hx hb dX8_init_426 (by decide) ?_
  refine bd_newi (N' := 16) hx hb (List.mem_of_getElem? (i := 4) rfl) hts hK hW hS hz (by decide) rfl (by decide) 21 29 (hn 29) (Nat.le_of_ble_eq_true rfl) (Nat.le_of_ble_eq_true rfl) dX8_init_428 (fun q25 H hW hS => ?_)
  refine bd_putF (ci := 7) (C := RX8) (T := TX8) (N := 34) (ty := tyX8 29) (v := .ref q25) (fs2 := [.int 0, .ref q1, .int 1, .int 0, .ref q2, .ref q3, .ref q4, .ref q5, .ref q6, .ref q7, .ref q8, .ref q9, .int 0, .ref q10, .ref q11, .ref q12, .ref q13, .ref q14, .ref q15, .ref q16, .ref q17, .ref q18, .ref q19, .ref q20, .ref q21, .int 0, .ref q22, .ref q23, .ref q24, .ref q25, .null, .int 0, .null, .null]) hx hb hts hin tyX8 tyX8_ok nmX8 hown hK hW hS 20 0 ha ((pu_n (fun h => absurd h.1 (by decide))).trans pu_s) rfl 29 (by decide) (List.mem_of_getElem? (i := 32) rfl) rfl rfl hnm rfl (tyX8_ok 29 (by decide)) rfl rfl (Nat.le_of_ble_eq_true rfl) rfl dX8_init_430 (fun H locs hW hS => ?_)
  rw [pu_sw (fun h => absurd h.1 (by decide))] at hW
  refine lv_aload_n hx hb dX8_init_433 rfl (lv_at hl 0 rfl) ?_
  refine lv_bipush (v := 16) hx hb dX8_init_434 (by decide) ?_
  refine bd_newz (N' := 16) hx hb (List.mem_of_getElem? (i := 11) rfl) hts hK hW hS hz (by decide) rfl (by decide) 21 30 (hn 30) (Nat.le_of_ble_eq_true rfl) (Nat.le_of_ble_eq_true rfl) dX8_init_436 (fun q26 H hW hS => ?_)
  refine bd_putF (ci := 7) (C := RX8) (T := TX8) (N := 34) (ty := tyX8 30) (v := .ref q26) (fs2 := [.int 0, .ref q1, .int 1, .int 0, .ref q2, .ref q3, .ref q4, .ref q5, .ref q6, .ref q7, .ref q8, .ref q9, .int 0, .ref q10, .ref q11, .ref q12, .ref q13, .ref q14, .ref q15, .ref q16, .ref q17, .ref q18, .ref q19, .ref q20, .ref q21, .int 0, .ref q22, .ref q23, .ref q24, .ref q25, .ref q26, .int 0, .null, .null]) hx hb hts hin tyX8 tyX8_ok nmX8 hown hK hW hS 20 0 ha ((pu_n (fun h => absurd h.1 (by decide))).trans pu_s) rfl 30 (by decide) (List.mem_of_getElem? (i := 33) rfl) rfl rfl hnm rfl (tyX8_ok 30 (by decide)) rfl rfl (Nat.le_of_ble_eq_true rfl) rfl dX8_init_438 (fun H locs hW hS => ?_)
  rw [pu_sw (fun h => absurd h.1 (by decide))] at hW
  refine lv_aload_n hx hb dX8_init_441 rfl (lv_at hl 0 rfl) ?_
  refine lv_sipush (v := 1600) hx hb dX8_init_442 (by decide) ?_
  refine bd_newi (N' := 1600) hx hb (List.mem_of_getElem? (i := 4) rfl) hts hK hW hS hz (by decide) rfl (by decide) 21 32 (hn 32) (Nat.le_of_ble_eq_true rfl) (Nat.le_of_ble_eq_true rfl) dX8_init_445 (fun q27 H hW hS => ?_)
  refine bd_putF (ci := 7) (C := RX8) (T := TX8) (N := 34) (ty := tyX8 32) (v := .ref q27) (fs2 := [.int 0, .ref q1, .int 1, .int 0, .ref q2, .ref q3, .ref q4, .ref q5, .ref q6, .ref q7, .ref q8, .ref q9, .int 0, .ref q10, .ref q11, .ref q12, .ref q13, .ref q14, .ref q15, .ref q16, .ref q17, .ref q18, .ref q19, .ref q20, .ref q21, .int 0, .ref q22, .ref q23, .ref q24, .ref q25, .ref q26, .int 0, .ref q27, .null]) hx hb hts hin tyX8 tyX8_ok nmX8 hown hK hW hS 20 0 ha ((pu_n (fun h => absurd h.1 (by decide))).trans pu_s) rfl 32 (by decide) (List.mem_of_getElem? (i := 34) rfl) rfl rfl hnm rfl (tyX8_ok 32 (by decide)) rfl rfl (Nat.le_of_ble_eq_true rfl) rfl dX8_init_447 (fun H locs hW hS => ?_)
  rw [pu_sw (fun h => absurd h.1 (by decide))] at hW
  refine lv_aload_n hx hb dX8_init_450 rfl (lv_at hl 0 rfl) ?_
  refine lv_sipush (v := 400) hx hb dX8_init_451 (by decide) ?_
  refine bd_newl (N' := 400) hx hb (List.mem_of_getElem? (i := 19) rfl) hts hK hW hS hz (by decide) rfl (by decide) 21 33 (hn 33) (Nat.le_of_ble_eq_true rfl) (Nat.le_of_ble_eq_true rfl) dX8_init_454 (fun q28 H hW hS => ?_)
  refine bd_putF (ci := 7) (C := RX8) (T := TX8) (N := 34) (ty := tyX8 33) (v := .ref q28) (fs2 := [.int 0, .ref q1, .int 1, .int 0, .ref q2, .ref q3, .ref q4, .ref q5, .ref q6, .ref q7, .ref q8, .ref q9, .int 0, .ref q10, .ref q11, .ref q12, .ref q13, .ref q14, .ref q15, .ref q16, .ref q17, .ref q18, .ref q19, .ref q20, .ref q21, .int 0, .ref q22, .ref q23, .ref q24, .ref q25, .ref q26, .int 0, .ref q27, .ref q28]) hx hb hts hin tyX8 tyX8_ok nmX8 hown hK hW hS 20 0 ha ((pu_n (fun h => absurd h.1 (by decide))).trans pu_s) rfl 33 (by decide) (List.mem_of_getElem? (i := 35) rfl) rfl rfl hnm rfl (tyX8_ok 33 (by decide)) rfl rfl (Nat.le_of_ble_eq_true rfl) rfl dX8_init_456 (fun H locs hW hS => ?_)
  rw [pu_sw (fun h => absurd h.1 (by decide))] at hW
  have hFF : F_X8_init ad (au (au (au (au (au (au (au (au (au (au (au (au (au (au (au (au (au (au (au (au (au (au (au (au (au (au (au (au ad 21 1 q1) 21 4 q2) 21 5 q3) 21 6 q4) 21 7 q5) 21 8 q6) 21 9 q7) 21 10 q8) 21 11 q9) 21 13 q10) 21 14 q11) 21 15 q12) 21 16 q13) 21 17 q14) 21 18 q15) 21 19 q16) 21 20 q17) 21 21 q18) 21 22 q19) 21 23 q20) 21 24 q21) 21 26 q22) 21 27 q23) 21 28 q24) 21 29 q25) 21 30 q26) 21 32 q27) 21 33 q28) := by
    intro k i h
    repeat rw [au_n (fun q => h q.1)]
  have hP2 : P2_X8_init cA P (au (au (au (au (au (au (au (au (au (au (au (au (au (au (au (au (au (au (au (au (au (au (au (au (au (au (au (au ad 21 1 q1) 21 4 q2) 21 5 q3) 21 6 q4) 21 7 q5) 21 8 q6) 21 9 q7) 21 10 q8) 21 11 q9) 21 13 q10) 21 14 q11) 21 15 q12) 21 16 q13) 21 17 q14) 21 18 q15) 21 19 q16) 21 20 q17) 21 21 q18) 21 22 q19) 21 23 q20) 21 24 q21) 21 26 q22) 21 27 q23) 21 28 q24) 21 29 q25) 21 30 q26) 21 32 q27) 21 33 q28) = P2_X8_init cA P (au (au (au (au (au (au (au (au (au (au (au (au (au (au (au (au (au (au (au (au (au (au (au (au (au (au (au (au ad 21 1 q1) 21 4 q2) 21 5 q3) 21 6 q4) 21 7 q5) 21 8 q6) 21 9 q7) 21 10 q8) 21 11 q9) 21 13 q10) 21 14 q11) 21 15 q12) 21 16 q13) 21 17 q14) 21 18 q15) 21 19 q16) 21 20 q17) 21 21 q18) 21 22 q19) 21 23 q20) 21 24 q21) 21 26 q22) 21 27 q23) 21 28 q24) 21 29 q25) 21 30 q26) 21 32 q27) 21 33 q28) := rfl
  exact bd_ret (ad := (au (au (au (au (au (au (au (au (au (au (au (au (au (au (au (au (au (au (au (au (au (au (au (au (au (au (au (au ad 21 1 q1) 21 4 q2) 21 5 q3) 21 6 q4) 21 7 q5) 21 8 q6) 21 9 q7) 21 10 q8) 21 11 q9) 21 13 q10) 21 14 q11) 21 15 q12) 21 16 q13) 21 17 q14) 21 18 q15) 21 19 q16) 21 20 q17) 21 21 q18) 21 22 q19) 21 23 q20) 21 24 q21) 21 26 q22) 21 27 q23) 21 28 q24) 21 29 q25) 21 30 q26) 21 32 q27) 21 33 q28)) (F := F_X8_init ad) (P2 := P2_X8_init cA P) hx hb hr hlk hK hFF hW hS (Nat.le_of_ble_eq_true rfl) (Nat.le_of_ble_eq_true rfl) dX8_init_459
