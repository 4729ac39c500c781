/-! worlds that grow: a cell more, a cell changed -/
def pu (P : Nat → Nat → Option va_E) (k j : Nat) (e : va_E) : Nat → Nat → Option va_E := fun a b => if a = k ∧ b = j then some e else P a b
def au (ad : Nat → Nat → Nat) (k j q : Nat) : Nat → Nat → Nat := fun a b => if a = k ∧ b = j then q else ad a b
theorem pu_s {P : Nat → Nat → Option va_E} {k j : Nat} {e : va_E} : pu P k j e k j = some e := if_pos ⟨rfl, rfl⟩
theorem pu_n {P : Nat → Nat → Option va_E} {k j a b : Nat} {e : va_E} (h : ¬ (a = k ∧ b = j)) : pu P k j e a b = P a b := if_neg h
theorem au_s {ad : Nat → Nat → Nat} {k j q : Nat} : au ad k j q k j = q := if_pos ⟨rfl, rfl⟩
theorem au_n {ad : Nat → Nat → Nat} {k j a b q : Nat} (h : ¬ (a = k ∧ b = j)) : au ad k j q a b = ad a b := if_neg h
theorem pu_pu {P : Nat → Nat → Option va_E} {k j : Nat} {e e2 : va_E} : pu (pu P k j e) k j e2 = pu P k j e2 := by
  funext a b
  unfold pu
  by_cases h : a = k ∧ b = j
  · rw [if_pos h, if_pos h]
  · rw [if_neg h, if_neg h, if_neg h]
theorem wd_mono {D : va_G} {A : Nat → Prop} {P P2 : Nat → Nat → Option va_E} {ad : Nat → Nat → Nat} {H : Heap} (h : wd D A P ad H) (hm : ∀ a b e, P2 a b = some e → P a b = some e) : wd D A P2 ad H := by
  obtain ⟨LP, f, hP, hD, hr, hj⟩ := h
  exact ⟨LP, f, hP, hD, fun k j e he => hr k j e (hm _ _ _ he), fun k j k' j' e e' h1 h2 => hj k j k' j' e e' (hm _ _ _ h1) (hm _ _ _ h2)⟩
/-- the same cells under other names -/
theorem wd_name {D : va_G} {A : Nat → Prop} {P P2 : Nat → Nat → Option va_E} {ad ad2 : Nat → Nat → Nat} {H : Heap} (h : wd D A P ad H) (g : Nat → Nat → Nat × Nat) (hm : ∀ a b e, P2 a b = some e → P (g a b).1 (g a b).2 = some e ∧ ad2 a b = ad (g a b).1 (g a b).2) (hg : ∀ a b a' b' e e', P2 a b = some e → P2 a' b' = some e' → g a b = g a' b' → a = a' ∧ b = b') : wd D A P2 ad2 H := by
  obtain ⟨LP, f, hP, hD, hr, hj⟩ := h
  refine ⟨LP, f, hP, hD, fun k j e he => ?_, fun k j k' j' e e' h1 h2 h3 => ?_⟩
  · obtain ⟨h1, h2⟩ := hm _ _ _ he
    rw [h2]
    exact hr _ _ _ h1
  · obtain ⟨a1, a2⟩ := hm _ _ _ h1
    obtain ⟨b1, b2⟩ := hm _ _ _ h2
    rw [a2, b2] at h3
    obtain ⟨c1, c2⟩ := hj _ _ _ _ _ _ a1 b1 h3
    exact hg _ _ _ _ _ _ h1 h2 (Prod.ext c1 c2)
theorem wd_push {D : va_G} {A : Nat → Prop} {P : Nat → Nat → Option va_E} {ad : Nat → Nat → Nat} {H : Heap} {LP : List Nat} {f : Nat → va_E} {q k j : Nat} {e : va_E}
    (hr : ∀ (k j : Nat) (e : va_E), P k j = some e → ad k j ∈ LP ∧ f (ad k j) = e) (hi : ∀ (k j k' j' : Nat) (e e' : va_E), P k j = some e → P k' j' = some e' → ad k j = ad k' j' → k = k' ∧ j = j')
    (hP : va_P D vwCl (([] ++ va_pl LP f) ++ [(q, e)]) H) (hD : va_D A (([] ++ va_pl LP f) ++ [(q, e)])) (hn : P k j = none) : wd D A (pu P k j e) (au ad k j q) H := by
  have hq : q ∉ LP := by
    intro h
    obtain ⟨i, hk⟩ := va_pl_get (X := []) (f := f) h
    have hl : i < ([] ++ va_pl LP f).length := (List.getElem?_eq_some_iff.mp hk).1
    have h1 : (([] ++ va_pl LP f) ++ [(q, e)])[i]? = some (q, f q) := by rw [List.getElem?_append_left hl]; exact hk
    have h2 : (([] ++ va_pl LP f) ++ [(q, e)])[([] ++ va_pl LP f).length]? = some (q, e) := by rw [List.getElem?_append_right (Nat.le_refl _)]; simp
    have := hD.1 _ _ _ _ h1 h2 rfl
    omega
  have el : ([] ++ va_pl LP f) ++ [(q, e)] = [] ++ va_pl (LP ++ [q]) (va_up f q e) := by rw [List.nil_append, List.nil_append, va_pl_push hq]
  rw [el] at hP hD
  refine ⟨LP ++ [q], va_up f q e, hP, hD, fun a b e2 h => ?_, fun a b a' b' e2 e3 h h' ha => ?_⟩
  · by_cases hk : a = k ∧ b = j
    · obtain ⟨rfl, rfl⟩ := hk
      rw [pu_s] at h
      rw [au_s, va_up_self]
      exact ⟨by simp, Option.some.inj h⟩
    · rw [pu_n hk] at h
      obtain ⟨h1, h2⟩ := hr _ _ _ h
      rw [au_n hk, va_up_ne _ _ (fun q2 => hq (by rw [← q2]; exact h1))]
      exact ⟨List.mem_append_left _ h1, h2⟩
  · by_cases hk : a = k ∧ b = j
    · by_cases hk' : a' = k ∧ b' = j
      · exact ⟨hk.1.trans hk'.1.symm, hk.2.trans hk'.2.symm⟩
      · obtain ⟨rfl, rfl⟩ := hk
        rw [pu_n hk'] at h'
        rw [au_s, au_n hk'] at ha
        exact absurd ((hr _ _ _ h').1) (by rw [← ha]; exact hq)
    · rw [pu_n hk] at h
      by_cases hk' : a' = k ∧ b' = j
      · obtain ⟨rfl, rfl⟩ := hk'
        rw [au_s, au_n hk] at ha
        exact absurd ((hr _ _ _ h).1) (by rw [ha]; exact hq)
      · rw [pu_n hk'] at h'
        rw [au_n hk, au_n hk'] at ha
        exact hi _ _ _ _ _ _ h h' ha
section BDR
variable {p : Program} {l : Launch} {e : Env} {R : Room} {s : State} {m : MethodId} {args : Array Value} {below : List Frame} {meth : Method} {c : Code} {H : Heap} {locs : List Loc} {cells slots : Nat} {Q : State → Prop}
variable {cc : ByteArray} {pc : Nat} {ls : Array Slot} {rest : List Value} {D : va_G} {b0 : Nat} {cA : Nat → ClassId} {P : Nat → Nat → Option va_E} {ad : Nat → Nat → Nat} {own C ref : String} {T : u_T} {N ci index a : Nat} {Ts : List Cond} {fs : List Value}
theorem bd_new (hx : p.tables.exec = Jvm.exec) (hb : c.code = cc) (hts : ∀ w ∈ Ts, w.before args s = true) (hin : ∀ w ∈ u_ws C T N, w ∈ Ts) (ty : Nat → FieldType) (hty : ∀ k, k < N → parseFieldDescriptor (T k).2.2.1 = some (ty k)) (hown : s.vm.findClass own = some m.cls) (hcl : Cond.classLink own index C ∈ Ts) (hinst : Cond.instantiable C N ∈ Ts) (hini : Cond.initialized C ∈ Ts)
    (hK : va_K D vwCl (wd_tys cA) s) (hW : wd D (wA b0) P ad H) (hS : va_S (wA b0) s.heap H locs) (hz : b0 ≤ s.heap.size) (hc : vwCl[ci]? = some (C, T, N)) (hfs : ∀ j, j < N → defaultValue (ty j) = vp_V fs j) (k j : Nat) (hn : P k j = none) (hcells : cells + 1 ≤ R.cells) (hslots : slots + N ≤ R.slots) (hdg : decode cc pc = .ok (.new index, 3))
    (kk : ∀ (q : Nat) (H1 : Heap), wd D (wA b0) (pu P k j (.inr (ci, fs))) (au ad k j q) H1 → va_S (wA b0) s.heap H1 locs → W p l e R s m args below meth c H1 locs (cells + 1) (slots + N) Q (F0 m (pc + 3) ls (.ref q :: rest))) : W p l e R s m args below meth c H locs cells slots Q (F0 m pc ls rest) := by
  obtain ⟨LP, f, hP, hD, hr, hj⟩ := hW
  exact va_new hx hb hts hin ty hty hown (hts _ hcl) (hts _ hinst) (hts _ hini) hK hP hD hS (fun q h => Nat.le_trans hz h) hc hfs hcells hslots hdg (fun q H1 hP1 hD1 hS1 => kk q H1 (wd_push hr hj hP1 hD1 hn) hS1)
theorem bd_newi (hx : p.tables.exec = Jvm.exec) (hb : c.code = cc) (hac : Cond.arrayClass .int ∈ Ts) (hts : ∀ w ∈ Ts, w.before args s = true) (hK : va_K D vwCl (wd_tys cA) s) (hW : wd D (wA b0) P ad H) (hS : va_S (wA b0) s.heap H locs) (hz : b0 ≤ s.heap.size) {n : Int32} {N' : Nat} (hn0 : ¬ n < 0) (hN : n.toNatClampNeg = N') (hbytes : N' * 4 ≤ 536870912) (k j : Nat) (hn : P k j = none) (hcells : cells + 1 ≤ R.cells) (hslots : slots + N' ≤ R.slots) (hdg : decode cc pc = .ok (.newarray .int, 2))
    (kk : ∀ (q : Nat) (H1 : Heap), wd D (wA b0) (pu P k j (.inl (cA 0, N', .inl (fun _ => 0)))) (au ad k j q) H1 → va_S (wA b0) s.heap H1 locs → W p l e R s m args below meth c H1 locs (cells + 1) (slots + N') Q (F0 m (pc + 2) ls (.ref q :: rest))) : W p l e R s m args below meth c H locs cells slots Q (F0 m pc ls (.int n :: rest)) := by
  obtain ⟨LP, f, hP, hD, hr, hj⟩ := hW
  refine va_newa (a0 := (N', .inl (fun _ => 0))) (atype := .int) (ty := .int) hx hb (hts _ hac) rfl hK hP hD hS (fun q h => Nat.le_trans hz h) (fun _ => rfl) hn0 hN hbytes hcells hslots hdg (fun q cB H1 hK1 hP1 hD1 hS1 => ?_)
  have e1 : cB = cA 0 := Option.some.inj ((va_nm_int (hK1.2 8 (cB, .int) rfl).2).symm.trans (va_nm_int (hK.2 0 (cA 0, .int) rfl).2))
  subst e1
  exact kk q H1 (wd_push hr hj hP1 hD1 hn) hS1
theorem bd_newl (hx : p.tables.exec = Jvm.exec) (hb : c.code = cc) (hac : Cond.arrayClass .long ∈ Ts) (hts : ∀ w ∈ Ts, w.before args s = true) (hK : va_K D vwCl (wd_tys cA) s) (hW : wd D (wA b0) P ad H) (hS : va_S (wA b0) s.heap H locs) (hz : b0 ≤ s.heap.size) {n : Int32} {N' : Nat} (hn0 : ¬ n < 0) (hN : n.toNatClampNeg = N') (hbytes : N' * 8 ≤ 536870912) (k j : Nat) (hn : P k j = none) (hcells : cells + 1 ≤ R.cells) (hslots : slots + N' ≤ R.slots) (hdg : decode cc pc = .ok (.newarray .long, 2))
    (kk : ∀ (q : Nat) (H1 : Heap), wd D (wA b0) (pu P k j (.inl (cA 1, N', .inr (.inl (fun _ => 0))))) (au ad k j q) H1 → va_S (wA b0) s.heap H1 locs → W p l e R s m args below meth c H1 locs (cells + 1) (slots + N') Q (F0 m (pc + 2) ls (.ref q :: rest))) : W p l e R s m args below meth c H locs cells slots Q (F0 m pc ls (.int n :: rest)) := by
  obtain ⟨LP, f, hP, hD, hr, hj⟩ := hW
  refine va_newa (a0 := (N', .inr (.inl (fun _ => 0)))) (atype := .long) (ty := .long) hx hb (hts _ hac) rfl hK hP hD hS (fun q h => Nat.le_trans hz h) (fun _ => rfl) hn0 hN hbytes hcells hslots hdg (fun q cB H1 hK1 hP1 hD1 hS1 => ?_)
  have e1 : cB = cA 1 := Option.some.inj ((va_nm_long (hK1.2 8 (cB, .long) rfl).2).symm.trans (va_nm_long (hK.2 1 (cA 1, .long) rfl).2))
  subst e1
  exact kk q H1 (wd_push hr hj hP1 hD1 hn) hS1
theorem bd_newz (hx : p.tables.exec = Jvm.exec) (hb : c.code = cc) (hac : Cond.arrayClass .boolean ∈ Ts) (hts : ∀ w ∈ Ts, w.before args s = true) (hK : va_K D vwCl (wd_tys cA) s) (hW : wd D (wA b0) P ad H) (hS : va_S (wA b0) s.heap H locs) (hz : b0 ≤ s.heap.size) {n : Int32} {N' : Nat} (hn0 : ¬ n < 0) (hN : n.toNatClampNeg = N') (hbytes : N' * 1 ≤ 536870912) (k j : Nat) (hn : P k j = none) (hcells : cells + 1 ≤ R.cells) (hslots : slots + N' ≤ R.slots) (hdg : decode cc pc = .ok (.newarray .boolean, 2))
    (kk : ∀ (q : Nat) (H1 : Heap), wd D (wA b0) (pu P k j (.inl (cA 2, N', .inl (fun _ => 0)))) (au ad k j q) H1 → va_S (wA b0) s.heap H1 locs → W p l e R s m args below meth c H1 locs (cells + 1) (slots + N') Q (F0 m (pc + 2) ls (.ref q :: rest))) : W p l e R s m args below meth c H locs cells slots Q (F0 m pc ls (.int n :: rest)) := by
  obtain ⟨LP, f, hP, hD, hr, hj⟩ := hW
  refine va_newa (a0 := (N', .inl (fun _ => 0))) (atype := .boolean) (ty := .boolean) hx hb (hts _ hac) rfl hK hP hD hS (fun q h => Nat.le_trans hz h) (fun _ => rfl) hn0 hN hbytes hcells hslots hdg (fun q cB H1 hK1 hP1 hD1 hS1 => ?_)
  have e1 : cB = cA 2 := Option.some.inj ((va_nm_boolean (hK1.2 8 (cB, .boolean) rfl).2).symm.trans (va_nm_boolean (hK.2 2 (cA 2, .boolean) rfl).2))
  subst e1
  exact kk q H1 (wd_push hr hj hP1 hD1 hn) hS1
/-- an array of references: t is its place among the array classes -/
theorem bd_newq (hx : p.tables.exec = Jvm.exec) (hb : c.code = cc) (hown : s.vm.findClass own = some m.cls) (hcl : Cond.classLink own index C ∈ Ts) (hts : ∀ w ∈ Ts, w.before args s = true) (hao : va_AO C s) (hK : va_K D vwCl (wd_tys cA) s) (hW : wd D (wA b0) P ad H) (hS : va_S (wA b0) s.heap H locs) (hz : b0 ≤ s.heap.size) {n : Int32} {N' : Nat} (t : Nat) (ht : (wd_tys cA)[t]? = some (cA t, .object C)) (hn0 : ¬ n < 0) (hN : n.toNatClampNeg = N') (hbytes : N' * 4 ≤ 536870912) (k j : Nat) (hn : P k j = none) (hcells : cells + 1 ≤ R.cells) (hslots : slots + N' ≤ R.slots) (hdg : decode cc pc = .ok (.anewarray index, 3))
    (kk : ∀ (q : Nat) (H1 : Heap), wd D (wA b0) (pu P k j (.inl (cA t, vp_q N' (fun _ => none)))) (au ad k j q) H1 → va_S (wA b0) s.heap H1 locs → W p l e R s m args below meth c H1 locs (cells + 1) (slots + N') Q (F0 m (pc + 3) ls (.ref q :: rest))) : W p l e R s m args below meth c H locs cells slots Q (F0 m pc ls (.int n :: rest)) := by
  obtain ⟨LP, f, hP, hD, hr, hj⟩ := hW
  refine va_newq hx hb hown (hts _ hcl) hao hK hP hD hS (fun q h => Nat.le_trans hz h) hn0 hN hbytes hcells hslots hdg (fun q cB H1 hK1 hP1 hD1 hS1 => ?_)
  have e1 : cB = cA t := Option.some.inj ((va_nmO (hK1.2 8 (cB, .object C) rfl).2 rfl).symm.trans (va_nmO (hK.2 t (cA t, .object C) ht).2 rfl))
  subst e1
  exact kk q H1 (wd_push hr hj hP1 hD1 hn) hS1
theorem bd_put (hx : p.tables.exec = Jvm.exec) (hb : c.code = cc) (hts : ∀ w ∈ Ts, w.before args s = true) (hin : ∀ w ∈ u_ws C T N, w ∈ Ts) (ty0 : Nat → FieldType) (hty : ∀ k, k < N → parseFieldDescriptor (T k).2.2.1 = some (ty0 k)) (hnm : ∀ a, a < N → ∀ b, b < N → a ≠ b → (T a).2.1 ≠ (T b).2.1) (hown : s.vm.findClass own = some m.cls) (hK : va_K D vwCl (wd_tys cA) s) (hW : wd D (wA b0) P ad H) (hS : va_S (wA b0) s.heap H locs) (k j : Nat) (ha : ad k j = a) (he : P k j = some (.inr (ci, fs))) (hc : vwCl[ci]? = some (C, T, N)) (i : Nat) (hi : i < N)
    (hlink : Cond.fieldLink own index ref (T i).2.1 (T i).2.2.1 ∈ Ts) (h1 : (T i).1 = ref) (hfin : (T i).2.2.2 = false) {ty : FieldType} {v : Value} (hd : parseFieldDescriptor (T i).2.2.1 = some ty) (hn : narrow ty v = v) (hfit : fits ty v = true) (hl : i < fs.length) {fs2 : List Value} (hf2 : fs.set i v = fs2) (hdg : decode cc pc = .ok (.putfield index, 3))
    (kk : ∀ (H1 : Heap) (locs1 : List Loc), wd D (wA b0) (pu P k j (.inr (ci, fs2))) ad H1 → va_S (wA b0) s.heap H1 locs1 → W p l e R s m args below meth c H1 locs1 cells slots Q (F0 m (pc + 3) ls rest)) : W p l e R s m args below meth c H locs cells slots Q (F0 m pc ls (v :: .ref a :: rest)) := by
  subst hf2 ha
  exact wd_put (D := D) (P' := pu P k j (.inr (ci, fs.set i v))) hx hb hts hin ty0 hty hnm hown hK hW hS k j he hc i hi (hts _ hlink) (fun _ h9 => by rw [h1] at h9; exact h9) hfin hd hn hfit hl pu_s (fun _ _ h => pu_n h) hdg kk
theorem bd_putF (hx : p.tables.exec = Jvm.exec) (hb : c.code = cc) (hts : ∀ w ∈ Ts, w.before args s = true) (hin : ∀ w ∈ u_ws C T N, w ∈ Ts) (ty0 : Nat → FieldType) (hty : ∀ k, k < N → parseFieldDescriptor (T k).2.2.1 = some (ty0 k)) (hnm : ∀ a, a < N → ∀ b, b < N → a ≠ b → (T a).2.1 ≠ (T b).2.1) (hown : s.vm.findClass own = some m.cls) (hK : va_K D vwCl (wd_tys cA) s) (hW : wd D (wA b0) P ad H) (hS : va_S (wA b0) s.heap H locs) (k j : Nat) (ha : ad k j = a) (he : P k j = some (.inr (ci, fs))) (hc : vwCl[ci]? = some (C, T, N)) (i : Nat) (hi : i < N)
    (hlink : Cond.fieldLink own index ref (T i).2.1 (T i).2.2.1 ∈ Ts) (h1 : (T i).1 = ref) (hfin : (T i).2.2.2 = true) (hin2 : meth.name = "<init>") (hdecl : (T i).1 = own) {ty : FieldType} {v : Value} (hd : parseFieldDescriptor (T i).2.2.1 = some ty) (hn : narrow ty v = v) (hfit : fits ty v = true) (hl : i < fs.length) {fs2 : List Value} (hf2 : fs.set i v = fs2) (hdg : decode cc pc = .ok (.putfield index, 3))
    (kk : ∀ (H1 : Heap) (locs1 : List Loc), wd D (wA b0) (pu P k j (.inr (ci, fs2))) ad H1 → va_S (wA b0) s.heap H1 locs1 → W p l e R s m args below meth c H1 locs1 cells slots Q (F0 m (pc + 3) ls rest)) : W p l e R s m args below meth c H locs cells slots Q (F0 m pc ls (v :: .ref a :: rest)) := by
  subst hf2 ha
  obtain ⟨LP, f, hP, hD, hr, hj⟩ := hW
  obtain ⟨hm, hf⟩ := hr k j _ he
  obtain ⟨q, hq⟩ := va_pl_get (X := []) (f := f) hm
  have hq2 := hq
  rw [hf] at hq2
  refine va_putF (a := ad k j) hx hb hts hin ty0 hty hnm hown hK hP hD hS q hq2 hc i hi (hts _ hlink) (fun _ h9 => by rw [h1] at h9; exact h9) hfin hin2 hdecl hd hn hfit hl hdg (fun H1 locs1 hP1 hD1 hS1 => ?_)
  rw [va_pl_set hD hm hq] at hP1 hD1
  obtain ⟨g1, g2⟩ := wd_re (P' := pu P k j (.inr (ci, fs.set i v))) hr hj he pu_s (fun _ _ h => pu_n h)
  exact kk H1 locs1 ⟨LP, _, hP1, hD1, g1, g2⟩ hS1
theorem bd_get (hx : p.tables.exec = Jvm.exec) (hb : c.code = cc) (hts : ∀ w ∈ Ts, w.before args s = true) (hin : ∀ w ∈ u_ws C T N, w ∈ Ts) (hown : s.vm.findClass own = some m.cls) (hK : va_K D vwCl (wd_tys cA) s) (hW : wd D (wA b0) P ad H) (k j : Nat) (ha : ad k j = a) (he : P k j = some (.inr (ci, fs))) (hc : vwCl[ci]? = some (C, T, N)) (i : Nat) (hi : i < N) (hlink : Cond.fieldLink own index ref (T i).2.1 (T i).2.2.1 ∈ Ts) (h1 : (T i).1 = ref) {v : Value} (hv : fs[i]? = some v) (hdg : decode cc pc = .ok (.getfield index, 3))
    (kk : W p l e R s m args below meth c H locs cells slots Q (F0 m (pc + 3) ls (v :: rest))) : W p l e R s m args below meth c H locs cells slots Q (F0 m pc ls (.ref a :: rest)) := by
  subst ha
  exact va_get (D := D) hx hb hts hin hown hK (wd_one hW k j he) 0 rfl hc i hi (hts _ hlink) (fun _ h9 => by rw [h1] at h9; exact h9) hv hdg kk
theorem bd_iast (hx : p.tables.exec = Jvm.exec) (hb : c.code = cc) (hK : va_K D vwCl (wd_tys cA) s) (hW : wd D (wA b0) P ad H) (hS : va_S (wA b0) s.heap H locs) (k j : Nat) (ha : ad k j = a) {n : Nat} {f : Nat → Int32} (he : P k j = some (.inl (cA 0, n, .inl f))) {i v : Int32} (hin : vp_in i n) (hdg : decode cc pc = .ok (.iastore, 1))
    (kk : ∀ (H1 : Heap) (locs1 : List Loc), wd D (wA b0) (pu P k j (.inl (cA 0, n, .inl (upd f i.toNatClampNeg v)))) ad H1 → va_S (wA b0) s.heap H1 locs1 → W p l e R s m args below meth c H1 locs1 cells slots Q (F0 m (pc + 1) ls rest)) : W p l e R s m args below meth c H locs cells slots Q (F0 m pc ls (.int v :: .int i :: .ref a :: rest)) := by
  subst ha
  exact wd_iast (P' := pu P k j (.inl (cA 0, n, .inl (upd f i.toNatClampNeg v)))) hx hb hK hW hS k j 0 he rfl hin pu_s (fun _ _ h => pu_n h) hdg kk
/-- a reference goes into an array: (k2, j2) is the object -/
theorem bd_aast (hx : p.tables.exec = Jvm.exec) (hb : c.code = cc) (hK : va_K D vwCl (wd_tys cA) s) (hW : wd D (wA b0) P ad H) (hS : va_S (wA b0) s.heap H locs) (k j : Nat) (ha : ad k j = a) {n t : Nat} {f : Nat → Option Nat} (he : P k j = some (.inl (cA t, vp_q n f))) (ht : (wd_tys cA)[t]? = some (cA t, .object C)) {a2 : Nat} (k2 j2 : Nat) (ha2 : ad k2 j2 = a2) (he2 : P k2 j2 = some (.inr (ci, fs))) (hc : vwCl[ci]? = some (C, T, N)) {i : Int32} (hin : vp_in i n) (hdg : decode cc pc = .ok (.aastore, 1))
    (kk : ∀ (H1 : Heap) (locs1 : List Loc), wd D (wA b0) (pu P k j (.inl (cA t, vp_q n (va_up f i.toNatClampNeg (some a2))))) ad H1 → va_S (wA b0) s.heap H1 locs1 → W p l e R s m args below meth c H1 locs1 cells slots Q (F0 m (pc + 1) ls rest)) : W p l e R s m args below meth c H locs cells slots Q (F0 m pc ls (.ref a2 :: .int i :: .ref a :: rest)) := by
  subst ha ha2
  obtain ⟨LP, f0, hP, hD, hr, hj⟩ := hW
  obtain ⟨hm, hf⟩ := hr k j _ he
  obtain ⟨q, hq⟩ := va_pl_get (X := []) (f := f0) hm
  have hq2 := hq
  rw [hf] at hq2
  obtain ⟨hm2, hf2⟩ := hr k2 j2 _ he2
  obtain ⟨q2, hq3⟩ := va_pl_get (X := []) (f := f0) hm2
  rw [hf2] at hq3
  refine va_astq (a := ad k j) hx hb hK hP hD hS q t q2 ci hq2 ht hq3 hc hin hdg (fun H1 locs1 hP1 hD1 hS1 => ?_)
  rw [va_pl_set hD hm hq] at hP1 hD1
  obtain ⟨g1, g2⟩ := wd_re (P' := pu P k j (.inl (cA t, vp_q n (va_up f i.toNatClampNeg (some (ad k2 j2)))))) hr hj he pu_s (fun _ _ h => pu_n h)
  exact kk H1 locs1 ⟨LP, _, hP1, hD1, g1, g2⟩ hS1
end BDR
/-- constructors: a world in, a world out -/
def WB (D : va_G) (b0 : Nat) (cA : Nat → ClassId) (P : Nat → Nat → Option va_E) (ad : Nat → Nat → Nat) (U : State) : Prop := va_K D vwCl (wd_tys cA) U ∧ wd D (wA b0) P ad U.heap ∧ b0 ≤ U.heap.size
def bc (l : Launch) (y : MethodName) (ws : List Cond) (fr lo mc ms : Nat) (D : va_G) (b0 : Nat) (cA : Nat → ClassId) (P : Nat → Nat → Option va_E) (ad : Nat → Nat → Nat) (av : List Value) (F : (Nat → Nat → Nat) → Prop) (P2 : (Nat → Nat → Nat) → Nat → Nat → Option va_E) : Prop :=
  Met l y ws { frames := fr, cells := mc, slots := ms, locals := lo } (va_Pc av (WB D b0 cA P ad)) (va_Qv (fun ad2 : Nat → Nat → Nat => F ad2) (fun ad2 U => va_K D vwCl (wd_tys cA) U ∧ wd D (wA b0) (P2 ad2) ad2 U.heap) (wA b0)) mc ms (wA b0)
theorem WB_blind {D : va_G} {b0 : Nat} {cA : Nat → ClassId} {P : Nat → Nat → Option va_E} {ad : Nat → Nat → Nat} {av : List Value} : FrameBlind (va_Pc av (WB D b0 cA P ad)) := fun a U g mk q => by
  obtain ⟨q0, qK, qW, qz⟩ := q
  exact ⟨q0, va_K.moved (u := U) (U := U.calling g mk a) (Vm.Alike.refl U.vm) qK, qW, qz⟩
section BCO
variable {l : Launch} {y : MethodName} {ws ws' : List Cond} {fr lo mc ms : Nat} {D : va_G} {b0 : Nat} {cA : Nat → ClassId} {P : Nat → Nat → Option va_E} {ad : Nat → Nat → Nat} {av : List Value} {cc : ByteArray} {maxL : Nat} {F : (Nat → Nat → Nat) → Prop} {P2 : (Nat → Nat → Nat) → Nat → Nat → Option va_E}
theorem bc_of (hy : plainName y.cls = true) (hin : y.name = "<init>") (hw : ws = Cond.code y cc maxL none :: ws') (hl : (lg_sl av).length ≤ maxL)
    (body : ∀ (p : Program) (e : Env) (s : State) (m : MethodId) (below : List Frame) (meth : Method) (c : Code), p.tables.exec = Jvm.exec → c.code = cc → c.maxLocals = maxL → meth.sig.returnType = none → meth.locks = false → meth.name = "<init>" → s.vm.findClass y.cls = some m.cls → (∀ w ∈ ws, w.before av.toArray s = true) → va_K D vwCl (wd_tys cA) s → wd D (wA b0) P ad s.heap → b0 ≤ s.heap.size →
      ∀ ls : Array Slot, lv_has ls maxL (lv_args 0 av) → W p l e { frames := fr, cells := mc, slots := ms, locals := lo } s m av.toArray below meth c s.heap [] 0 0 (MQ below (va_Qv (fun ad2 : Nat → Nat → Nat => F ad2) (fun ad2 U => va_K D vwCl (wd_tys cA) U ∧ wd D (wA b0) (P2 ad2) ad2 U.heap) (wA b0)) av.toArray s mc ms (wA b0)) (F0 m 0 ls [])) :
    bc l y ws fr lo mc ms D b0 cA P ad av F P2 := by
  refine Met.ofW (cc := cc) (maxL := maxL) (ret := none) hy hw ?_
  intro p e s m args below meth c s₁ B hml hv
  obtain ⟨rfl, hK, hW, hz⟩ := hv
  have hts := atoms_spec (ws := ws) B.pre
  have hl2 := lv_entry av hl
  rw [lg_entry_eq]
  exact body p e s m below meth c B.exec B.bytes hml B.returns B.notSynchronized ((name_of_methodNamed B.named B.method).1.trans hin) (findClass_of_methodNamed B.named) hts hK hW hz _ hl2
end BCO
section BCR
variable {p : Program} {l : Launch} {e : Env} {R : Room} {s : State} {m : MethodId} {args : Array Value} {below : List Frame} {meth : Method} {c : Code} {H : Heap} {locs : List Loc} {cells slots mc ms : Nat} {Q : State → Prop}
variable {cc : ByteArray} {pc : Nat} {ls : Array Slot} {rest st : List Value} {D : va_G} {b0 : Nat} {cA : Nat → ClassId} {ad : Nat → Nat → Nat} {P : Nat → Nat → Option va_E} {Ts : List Cond} {index nL : Nat} {F : (Nat → Nat → Nat) → Prop} {P2 : (Nat → Nat → Nat) → Nat → Nat → Option va_E}
theorem bd_ret (hx : p.tables.exec = Jvm.exec) (hb : c.code = cc) (hr : meth.sig.returnType = none) (hlk : meth.locks = false) (hK : va_K D vwCl (wd_tys cA) s) (hF : F ad) (hW : wd D (wA b0) (P2 ad) ad H) (hS : va_S (wA b0) s.heap H locs) (hc : cells ≤ mc) (hs : slots ≤ ms) (hdg : decode cc pc = .ok (.return_, 1)) :
    W p l e R s m args below meth c H locs cells slots (MQ below (va_Qv (fun ad2 : Nat → Nat → Nat => F ad2) (fun ad2 U => va_K D vwCl (wd_tys cA) U ∧ wd D (wA b0) (P2 ad2) ad2 U.heap) (wA b0)) args s mc ms (wA b0)) (F0 m pc ls []) :=
  W.widen (k := mc) (n := ms) hc hs (W.vret hx hb hr (fun t ht hw => ⟨⟨ad, rfl, hF, va_K.moved hw.alike hK, by rw [ht]; exact hW⟩, hS.F ht⟩) hS.2.2 hdg hlk)
variable {own : String} {y : MethodName} {ws ws' : List Cond} {fr lo maxL n mc0 ms0 : Nat} {bytes : ByteArray} {As : List Value} {a : Nat}
/-- a constructor of another class is called -/
theorem bd_ini (S : CallFix p m c cc nL s args Ts own) (hM : bc l y ws fr lo mc0 ms0 D b0 cA P ad (.ref a :: As) F P2) (hG : GoodIn Ts ws) (hw : ws = Cond.code y bytes maxL none :: ws') (hini : Cond.initialized y.cls ∈ Ts) (hlk : Cond.methodLink own index y ∈ Ts) (him : Cond.instanceMethod y ∈ Ts) (hy : y.name = "<init>") (hd : y.cls ≠ "java/lang/invoke/MethodHandle" ∧ y.cls ≠ "java/lang/invoke/VarHandle" ∧ (parseMethodDescriptor y.desc).map (fun d => d.parameters.length) = some n) (hn : As.length = n) (hR : fr + 1 ≤ R.frames ∧ 8 + (maxL + 11) + lo ≤ R.locals) (hf : cells + mc0 ≤ R.cells ∧ slots + ms0 ≤ R.slots)
    (hK : va_K D vwCl (wd_tys cA) s) (hW : wd D (wA b0) P ad H) (hS : va_S (wA b0) s.heap H locs) (hz : b0 ≤ s.heap.size) (hsz : ls.size = nL) (hst : st = As.reverse ++ .ref a :: rest) (hrm : (rest.map fun v => v.category).sum ≤ 8) (hdg : decode cc pc = .ok (.invokespecial index, 3))
    (kk : ∀ (ad2 : Nat → Nat → Nat) (H1 : Heap) (locs1 : List Loc), F ad2 → wd D (wA b0) (P2 ad2) ad2 H1 → va_S (wA b0) s.heap H1 locs1 → W p l e R s m args below meth c H1 locs1 (cells + mc0) (slots + ms0) Q (F0 m (pc + 3) ls rest)) : W p l e R s m args below meth c H locs cells slots Q (F0 m pc ls st) := by
  refine va_callv (va_runI (As := As) (rest := rest) S hM (cwI n S.2.2.2.2 hG hw rfl rfl (S.2.2.2.2 _ hini) (S.2.2.2.2 _ hlk) (S.2.2.2.2 _ him) hy hd hR) ⟨WB_blind, fun U hU hw => ⟨rfl, va_K.moved hw.alike hK, by rw [hU]; exact hW, by rw [hU]; exact Nat.le_trans hz hS.1⟩⟩ rfl hn hsz hst (lv_room hrm) hdg hf) hS (fun q _ h => h) (fun q h => h) (fun u t H1 locs1 ht hvm hp hB _ _ hS1 => ?_)
  exact kk u H1 locs1 hp (by rw [← ht]; exact hB.2) hS1
/-- the same, of a nest mate's private one -/
theorem bd_iniN {host : String} (S : CallFix p m c cc nL s args Ts own) (hM : bc l y ws fr lo mc0 ms0 D b0 cA P ad (.ref a :: As) F P2) (hG : GoodIn Ts ws) (hw : ws = Cond.code y bytes maxL none :: ws') (hini : Cond.initialized y.cls ∈ Ts) (hlk : va_Nw (.methodLinkNest own index y host) s) (him : Cond.instanceMethod y ∈ Ts) (hy : y.name = "<init>") (hd : y.cls ≠ "java/lang/invoke/MethodHandle" ∧ y.cls ≠ "java/lang/invoke/VarHandle" ∧ (parseMethodDescriptor y.desc).map (fun d => d.parameters.length) = some n) (hn : As.length = n) (hR : fr + 1 ≤ R.frames ∧ 8 + (maxL + 11) + lo ≤ R.locals) (hf : cells + mc0 ≤ R.cells ∧ slots + ms0 ≤ R.slots)
    (hK : va_K D vwCl (wd_tys cA) s) (hW : wd D (wA b0) P ad H) (hS : va_S (wA b0) s.heap H locs) (hz : b0 ≤ s.heap.size) (hsz : ls.size = nL) (hst : st = As.reverse ++ .ref a :: rest) (hrm : (rest.map fun v => v.category).sum ≤ 8) (hdg : decode cc pc = .ok (.invokespecial index, 3))
    (kk : ∀ (ad2 : Nat → Nat → Nat) (H1 : Heap) (locs1 : List Loc), F ad2 → wd D (wA b0) (P2 ad2) ad2 H1 → va_S (wA b0) s.heap H1 locs1 → W p l e R s m args below meth c H1 locs1 (cells + mc0) (slots + ms0) Q (F0 m (pc + 3) ls rest)) : W p l e R s m args below meth c H locs cells slots Q (F0 m pc ls st) := by
  refine va_callv (va_runIN (As := As) (rest := rest) S hM ⟨va_cnB n S.2.2.2.2 hG hw rfl rfl hlk (S.2.2.2.2 _ hini) hd hR, hy, S.2.2.2.2 _ him⟩ ⟨WB_blind, fun U hU hw => ⟨rfl, va_K.moved hw.alike hK, by rw [hU]; exact hW, by rw [hU]; exact Nat.le_trans hz hS.1⟩⟩ rfl hn hsz hst (lv_room hrm) hdg hf) hS (fun q _ h => h) (fun q h => h) (fun u t H1 locs1 ht hvm hp hB _ _ hS1 => ?_)
  exact kk u H1 locs1 hp (by rw [← ht]; exact hB.2) hS1
end BCR
