/-! the state of the reference, and worlds whose cells are named by a kind and a number -/
abbrev qM : Type := (Nat → Nat → Int32) × (Nat → Nat → Int64)
/-- number f of the reference (place i of it, where it is an array) becomes v -/
def mq_i (m : qM) (f i : Nat) (v : Int32) : qM := (fun a => if a = f then upd (m.1 f) i v else m.1 a, m.2)
def mq_l (m : qM) (f i : Nat) (v : Int64) : qM := (m.1, fun a => if a = f then vp_updL (m.2 f) i v else m.2 a)
/-- a world: cells at addresses ad kind number -/
def wd (D : va_G) (A : Nat → Prop) (P : Nat → Nat → Option va_E) (ad : Nat → Nat → Nat) (H : Heap) : Prop :=
  ∃ (LP : List Nat) (f : Nat → va_E), va_P D vwCl ([] ++ va_pl LP f) H ∧ va_D A ([] ++ va_pl LP f) ∧ (∀ (k j : Nat) (e : va_E), P k j = some e → ad k j ∈ LP ∧ f (ad k j) = e) ∧
    (∀ (k j k' j' : Nat) (e e' : va_E), P k j = some e → P k' j' = some e' → ad k j = ad k' j' → k = k' ∧ j = j')
theorem wd_one {D : va_G} {A : Nat → Prop} {P : Nat → Nat → Option va_E} {ad : Nat → Nat → Nat} {H : Heap} (h : wd D A P ad H) (k j : Nat) {e : va_E} (hp : P k j = some e) : va_P D vwCl [(ad k j, e)] H := by
  obtain ⟨LP, f, hP, hD, hr, hi⟩ := h
  obtain ⟨hm, he⟩ := hr k j e hp
  obtain ⟨q, hq⟩ := va_pl_get (X := []) (f := f) hm
  intro n x hx
  have hn : n = 0 := by
    have := (List.getElem?_eq_some_iff.mp hx).1
    simp at this
    exact this
  subst hn
  have hx' : (ad k j, e) = x := by simpa using hx
  rw [← hx', ← he]
  exact hP q _ hq
theorem wd_re {P P' : Nat → Nat → Option va_E} {ad : Nat → Nat → Nat} {LP : List Nat} {f : Nat → va_E} {k j : Nat} {e0 e1 : va_E}
    (hr : ∀ (k j : Nat) (e : va_E), P k j = some e → ad k j ∈ LP ∧ f (ad k j) = e) (hi : ∀ (k j k' j' : Nat) (e e' : va_E), P k j = some e → P k' j' = some e' → ad k j = ad k' j' → k = k' ∧ j = j')
    (h0 : P k j = some e0) (h1 : P' k j = some e1) (h2 : ∀ a b, ¬ (a = k ∧ b = j) → P' a b = P a b) :
    (∀ (a b : Nat) (e : va_E), P' a b = some e → ad a b ∈ LP ∧ va_up f (ad k j) e1 (ad a b) = e) ∧ (∀ (a b a' b' : Nat) (e e' : va_E), P' a b = some e → P' a' b' = some e' → ad a b = ad a' b' → a = a' ∧ b = b') := by
  have hs : ∀ a b e, P' a b = some e → ∃ e2, P a b = some e2 := by
    intro a b e h
    by_cases q : a = k ∧ b = j
    · obtain ⟨rfl, rfl⟩ := q; exact ⟨_, h0⟩
    · rw [h2 a b q] at h; exact ⟨_, h⟩
  refine ⟨fun a b e h => ?_, fun a b a' b' e e' h h' ha => ?_⟩
  · by_cases q : a = k ∧ b = j
    · obtain ⟨rfl, rfl⟩ := q
      rw [h1] at h
      exact ⟨(hr _ _ _ h0).1, by rw [va_up_self]; exact Option.some.inj h⟩
    · rw [h2 a b q] at h
      refine ⟨(hr _ _ _ h).1, ?_⟩
      rw [va_up_ne _ _ (fun q2 => q (hi _ _ _ _ _ _ h h0 q2))]
      exact (hr _ _ _ h).2
  · obtain ⟨e2, g⟩ := hs _ _ _ h
    obtain ⟨e3, g'⟩ := hs _ _ _ h'
    exact hi _ _ _ _ _ _ g g' ha
section WDR
variable {p : Program} {l : Launch} {e : Env} {R : Room} {s : State} {m : MethodId} {args : Array Value} {below : List Frame} {meth : Method} {c : Code} {H : Heap} {locs : List Loc} {cells slots : Nat} {Q : State → Prop}
variable {cc : ByteArray} {pc : Nat} {ls : Array Slot} {rest : List Value} {D : va_G} {A : Nat → Prop} {tys : List (ClassId × FieldType)} {H0 : Heap} {P P' : Nat → Nat → Option va_E} {ad : Nat → Nat → Nat}
theorem wd_put (hexec : p.tables.exec = Jvm.exec) (hb : c.code = cc) {own ref C : String} {T : u_T} {N ci index : Nat} {Ts : List Cond} (hts : ∀ w ∈ Ts, w.before args s = true) (hin : ∀ w ∈ u_ws C T N, w ∈ Ts) (ty0 : Nat → FieldType) (hty : ∀ k, k < N → parseFieldDescriptor (T k).2.2.1 = some (ty0 k)) (hnm : ∀ a, a < N → ∀ b, b < N → a ≠ b → (T a).2.1 ≠ (T b).2.1) (hown : s.vm.findClass own = some m.cls) (hK : va_K D vwCl tys s) (hW : wd D A P ad H) (hS0 : va_S A H0 H locs) (k j : Nat) {fs : List Value} (he : P k j = some (.inr (ci, fs))) (hc : vwCl[ci]? = some (C, T, N)) (i : Nat) (hi : i < N)
    (hlink : (Cond.fieldLink own index ref (T i).2.1 (T i).2.2.1).before args s = true) (hsame : ∀ x, s.fieldFound? (T i).1 (T i).2.1 (T i).2.2.1 = some x → s.fieldFound? ref (T i).2.1 (T i).2.2.1 = some x) (hfin : (T i).2.2.2 = false) {ty : FieldType} {v : Value} (hd : parseFieldDescriptor (T i).2.2.1 = some ty) (hn : narrow ty v = v) (hfit : fits ty v = true) (hl : i < fs.length)
    (h1 : P' k j = some (.inr (ci, fs.set i v))) (h2 : ∀ a b, ¬ (a = k ∧ b = j) → P' a b = P a b) (hdg : decode cc pc = .ok (.putfield index, 3))
    (kk : ∀ (H1 : Heap) (locs1 : List Loc), wd D A P' ad H1 → va_S A H0 H1 locs1 → W p l e R s m args below meth c H1 locs1 cells slots Q (F0 m (pc + 3) ls rest)) : W p l e R s m args below meth c H locs cells slots Q (F0 m pc ls (v :: .ref (ad k j) :: rest)) := by
  obtain ⟨LP, f, hP, hD, hr, hj⟩ := hW
  obtain ⟨hm, hf⟩ := hr k j _ he
  obtain ⟨q, hq⟩ := va_pl_get (X := []) (f := f) hm
  have hq2 := hq
  rw [hf] at hq2
  refine va_put (a := ad k j) hexec hb hts hin ty0 hty hnm hown hK hP hD hS0 q hq2 hc i hi hlink hsame hfin hd hn hfit hl hdg (fun H1 locs1 hP1 hD1 hS1 => ?_)
  rw [va_pl_set hD hm hq] at hP1 hD1
  obtain ⟨g1, g2⟩ := wd_re hr hj he h1 h2
  exact kk H1 locs1 ⟨LP, _, hP1, hD1, g1, g2⟩ hS1
theorem wd_iast (hexec : p.tables.exec = Jvm.exec) (hb : c.code = cc) (hK : va_K D vwCl tys s) (hW : wd D A P ad H) (hS : va_S A H0 H locs) (k j t0 : Nat) {cA : ClassId} {n : Nat} {f : Nat → Int32} (ha : P k j = some (.inl (cA, n, .inl f))) (ht : tys[t0]? = some (cA, .int)) {i x : Int32} (hin : vp_in i n)
    (h1 : P' k j = some (.inl (cA, n, .inl (upd f i.toNatClampNeg x)))) (h2 : ∀ a b, ¬ (a = k ∧ b = j) → P' a b = P a b) (hdg : decode cc pc = .ok (.iastore, 1))
    (kk : ∀ (H1 : Heap) (locs1 : List Loc), wd D A P' ad H1 → va_S A H0 H1 locs1 → W p l e R s m args below meth c H1 locs1 cells slots Q (F0 m (pc + 1) ls rest)) : W p l e R s m args below meth c H locs cells slots Q (F0 m pc ls (.int x :: .int i :: .ref (ad k j) :: rest)) := by
  obtain ⟨LP, f0, hP, hD, hr, hj⟩ := hW
  obtain ⟨hm, hf⟩ := hr k j _ ha
  obtain ⟨q, hq⟩ := va_pl_get (X := []) (f := f0) hm
  have hq2 := hq
  rw [hf] at hq2
  refine va_iast (a := ad k j) hexec hb hK hP hD hS q t0 hq2 ht hin hdg (fun H1 locs1 hP1 hD1 hS1 => ?_)
  rw [va_pl_set hD hm hq] at hP1 hD1
  obtain ⟨g1, g2⟩ := wd_re hr hj ha h1 h2
  exact kk H1 locs1 ⟨LP, _, hP1, hD1, g1, g2⟩ hS1
theorem wd_zast (hexec : p.tables.exec = Jvm.exec) (hb : c.code = cc) (hK : va_K D vwCl tys s) (hW : wd D A P ad H) (hS : va_S A H0 H locs) (k j t0 : Nat) {cA : ClassId} {n : Nat} {f : Nat → Int32} (ha : P k j = some (.inl (cA, n, .inl f))) (ht : tys[t0]? = some (cA, .boolean)) {i x : Int32} (hx : vp_nar .boolean x = x) (hin : vp_in i n)
    (h1 : P' k j = some (.inl (cA, n, .inl (upd f i.toNatClampNeg x)))) (h2 : ∀ a b, ¬ (a = k ∧ b = j) → P' a b = P a b) (hdg : decode cc pc = .ok (.bastore, 1))
    (kk : ∀ (H1 : Heap) (locs1 : List Loc), wd D A P' ad H1 → va_S A H0 H1 locs1 → W p l e R s m args below meth c H1 locs1 cells slots Q (F0 m (pc + 1) ls rest)) : W p l e R s m args below meth c H locs cells slots Q (F0 m pc ls (.int x :: .int i :: .ref (ad k j) :: rest)) := by
  obtain ⟨LP, f0, hP, hD, hr, hj⟩ := hW
  obtain ⟨hm, hf⟩ := hr k j _ ha
  obtain ⟨q, hq⟩ := va_pl_get (X := []) (f := f0) hm
  have hq2 := hq
  rw [hf] at hq2
  refine va_zast (a := ad k j) hexec hb hK hP hD hS q t0 hq2 ht hin hdg (fun H1 locs1 hP1 hD1 hS1 => ?_)
  rw [hx, va_pl_set hD hm hq] at hP1 hD1
  obtain ⟨g1, g2⟩ := wd_re hr hj ha h1 h2
  exact kk H1 locs1 ⟨LP, _, hP1, hD1, g1, g2⟩ hS1
theorem wd_last (hexec : p.tables.exec = Jvm.exec) (hb : c.code = cc) (hK : va_K D vwCl tys s) (hW : wd D A P ad H) (hS : va_S A H0 H locs) (k j t0 : Nat) {cA : ClassId} {n : Nat} {f : Nat → Int64} (ha : P k j = some (.inl (cA, n, .inr (.inl f)))) (ht : tys[t0]? = some (cA, .long)) {i : Int32} {x : Int64} (hin : vp_in i n)
    (h1 : P' k j = some (.inl (cA, n, .inr (.inl (vp_updL f i.toNatClampNeg x))))) (h2 : ∀ a b, ¬ (a = k ∧ b = j) → P' a b = P a b) (hdg : decode cc pc = .ok (.lastore, 1))
    (kk : ∀ (H1 : Heap) (locs1 : List Loc), wd D A P' ad H1 → va_S A H0 H1 locs1 → W p l e R s m args below meth c H1 locs1 cells slots Q (F0 m (pc + 1) ls rest)) : W p l e R s m args below meth c H locs cells slots Q (F0 m pc ls (.long x :: .int i :: .ref (ad k j) :: rest)) := by
  obtain ⟨LP, f0, hP, hD, hr, hj⟩ := hW
  obtain ⟨hm, hf⟩ := hr k j _ ha
  obtain ⟨q, hq⟩ := va_pl_get (X := []) (f := f0) hm
  have hq2 := hq
  rw [hf] at hq2
  refine va_last (a := ad k j) hexec hb hK hP hD hS q t0 hq2 ht hin hdg (fun H1 locs1 hP1 hD1 hS1 => ?_)
  rw [va_pl_set hD hm hq] at hP1 hD1
  obtain ⟨g1, g2⟩ := wd_re hr hj ha h1 h2
  exact kk H1 locs1 ⟨LP, _, hP1, hD1, g1, g2⟩ hS1
end WDR
/-- the array classes that the worlds hold -/
def wd_tys (cA : Nat → ClassId) : List (ClassId × FieldType) := [(cA 0, .int), (cA 1, .long), (cA 2, .boolean), (cA 3, .object "RecordsOffice$Schedule"), (cA 4, .object "RecordsOffice$Folder"), (cA 5, .object "RecordsOffice$Hold"), (cA 6, .object "RecordsOffice$Filed"), (cA 7, .object "RecordsOffice$DueList")]
/-- the reference's arrays: 1 of ints, 2 of booleans, 3 of longs; how long -/
def wm_kind : Nat → Nat × Nat := fun f => match f with
  | 1 => (1, 8) | 4 => (1, 8) | 5 => (1, 8) | 6 => (1, 48) | 7 => (1, 48) | 8 => (2, 48) | 9 => (1, 16) | 10 => (1, 16) | 11 => (1, 16) | 13 => (1, 64) | 14 => (1, 64) | 15 => (1, 64) | 16 => (3, 64) | 17 => (1, 192) | 18 => (2, 64) | 19 => (2, 8)
  | 20 => (1, 8) | 21 => (1, 8) | 22 => (1, 8) | 23 => (1, 8) | 24 => (1, 8) | 26 => (1, 1024) | 27 => (1, 16) | 28 => (1, 16) | 29 => (1, 16) | 30 => (2, 16) | 32 => (1, 1600) | 33 => (3, 400) | _ => (0, 0)
def wm_arr (cA : Nat → ClassId) (m : qM) (f : Nat) : Option va_E := match wm_kind f with
  | (1, n) => some (.inl (cA 0, n, .inl (m.1 f)))
  | (2, n) => some (.inl (cA 2, n, .inl (m.1 f)))
  | (3, n) => some (.inl (cA 1, n, .inr (.inl (m.2 f))))
  | _ => none
def wm_fs (ad : Nat → Nat → Nat) (m : qM) : List Value := [.int (m.1 0 0), .ref (ad 21 1), .int (m.1 2 0), .int (m.1 3 0), .ref (ad 21 4), .ref (ad 21 5), .ref (ad 21 6), .ref (ad 21 7), .ref (ad 21 8), .ref (ad 21 9), .ref (ad 21 10), .ref (ad 21 11), .int (m.1 12 0), .ref (ad 21 13), .ref (ad 21 14), .ref (ad 21 15), .ref (ad 21 16), .ref (ad 21 17), .ref (ad 21 18), .ref (ad 21 19), .ref (ad 21 20), .ref (ad 21 21), .ref (ad 21 22), .ref (ad 21 23), .ref (ad 21 24), .int (m.1 25 0), .ref (ad 21 26), .ref (ad 21 27), .ref (ad 21 28), .ref (ad 21 29), .ref (ad 21 30), .int (m.1 31 0), .ref (ad 21 32), .ref (ad 21 33)]
theorem ws_0 (ad : Nat → Nat → Nat) (q : qM) (v : Int32) : (wm_fs ad q).set 0 (.int v) = wm_fs ad (mq_i q 0 0 v) := rfl
theorem ws_2 (ad : Nat → Nat → Nat) (q : qM) (v : Int32) : (wm_fs ad q).set 2 (.int v) = wm_fs ad (mq_i q 2 0 v) := rfl
theorem ws_3 (ad : Nat → Nat → Nat) (q : qM) (v : Int32) : (wm_fs ad q).set 3 (.int v) = wm_fs ad (mq_i q 3 0 v) := rfl
theorem ws_12 (ad : Nat → Nat → Nat) (q : qM) (v : Int32) : (wm_fs ad q).set 12 (.int v) = wm_fs ad (mq_i q 12 0 v) := rfl
theorem ws_25 (ad : Nat → Nat → Nat) (q : qM) (v : Int32) : (wm_fs ad q).set 25 (.int v) = wm_fs ad (mq_i q 25 0 v) := rfl
theorem ws_31 (ad : Nat → Nat → Nat) (q : qM) (v : Int32) : (wm_fs ad q).set 31 (.int v) = wm_fs ad (mq_i q 31 0 v) := rfl
def PW (Pc : Nat → Nat → Option va_E) (cA : Nat → ClassId) (ad : Nat → Nat → Nat) (m : qM) : Nat → Nat → Option va_E := fun k j => if k = 20 then (if j = 0 then some (.inr (7, wm_fs ad m)) else none) else if k = 21 then wm_arr cA m j else Pc k j
theorem PW_obj {Pc : Nat → Nat → Option va_E} {cA : Nat → ClassId} {ad : Nat → Nat → Nat} {m : qM} : PW Pc cA ad m 20 0 = some (.inr (7, wm_fs ad m)) := rfl
theorem PW_int {Pc : Nat → Nat → Option va_E} {cA : Nat → ClassId} {ad : Nat → Nat → Nat} {m : qM} (f n : Nat) (h : wm_kind f = (1, n)) : PW Pc cA ad m 21 f = some (.inl (cA 0, n, .inl (m.1 f))) := by
  show wm_arr cA m f = _
  unfold wm_arr; rw [h]; rfl
theorem PW_boo {Pc : Nat → Nat → Option va_E} {cA : Nat → ClassId} {ad : Nat → Nat → Nat} {m : qM} (f n : Nat) (h : wm_kind f = (2, n)) : PW Pc cA ad m 21 f = some (.inl (cA 2, n, .inl (m.1 f))) := by
  show wm_arr cA m f = _
  unfold wm_arr; rw [h]; rfl
theorem PW_lon {Pc : Nat → Nat → Option va_E} {cA : Nat → ClassId} {ad : Nat → Nat → Nat} {m : qM} (f n : Nat) (h : wm_kind f = (3, n)) : PW Pc cA ad m 21 f = some (.inl (cA 1, n, .inr (.inl (m.2 f)))) := by
  show wm_arr cA m f = _
  unfold wm_arr; rw [h]; rfl
theorem mq_i_self (m : qM) (f i : Nat) (v : Int32) : (mq_i m f i v).1 f = upd (m.1 f) i v := by simp [mq_i]
theorem mq_i_ne (m : qM) {f g i : Nat} (v : Int32) (h : g ≠ f) : (mq_i m f i v).1 g = m.1 g := by simp [mq_i, h]
theorem mq_same (m : qM) (f i : Nat) (v : Int32) : (mq_i m f i v).1 f i = v := by simp [mq_i, upd]
theorem mq_same_l (m : qM) (f i : Nat) (v : Int64) : (mq_l m f i v).2 f i = v := by simp [mq_l, vp_updL]
theorem mq_ne {m : qM} {f i g j : Nat} {v : Int32} (h : g ≠ f) : (mq_i m f i v).1 g j = m.1 g j := by simp [mq_i, h]
theorem mq_nel {m : qM} {f i g j : Nat} {v : Int64} : (mq_l m f i v).1 g j = m.1 g j := rfl
theorem ml_ne {m : qM} {f i g j : Nat} {v : Int64} (h : g ≠ f) : (mq_l m f i v).2 g j = m.2 g j := by simp [mq_l, h]
theorem ml_nei {m : qM} {f i g j : Nat} {v : Int32} : (mq_i m f i v).2 g j = m.2 g j := rfl
theorem mq_i_2 (m : qM) (f i : Nat) (v : Int32) : (mq_i m f i v).2 = m.2 := rfl
theorem mq_l_self (m : qM) (f i : Nat) (v : Int64) : (mq_l m f i v).2 f = vp_updL (m.2 f) i v := by simp [mq_l]
theorem mq_l_ne (m : qM) {f g i : Nat} (v : Int64) (h : g ≠ f) : (mq_l m f i v).2 g = m.2 g := by simp [mq_l, h]
theorem mq_l_1 (m : qM) (f i : Nat) (v : Int64) : (mq_l m f i v).1 = m.1 := rfl
/-- an array's place is written: no other cell changes -/
theorem PW_i2 {Pc : Nat → Nat → Option va_E} {cA : Nat → ClassId} {ad : Nat → Nat → Nat} {m : qM} {f i : Nat} {v : Int32} (hf : ¬ (f = 0 ∨ f = 2 ∨ f = 3 ∨ f = 12 ∨ f = 25 ∨ f = 31)) : ∀ a b, ¬ (a = 21 ∧ b = f) → PW Pc cA ad (mq_i m f i v) a b = PW Pc cA ad m a b := by
  intro a b h
  unfold PW
  by_cases h1 : a = 20
  · have e : ∀ g, (g = 0 ∨ g = 2 ∨ g = 3 ∨ g = 12 ∨ g = 25 ∨ g = 31) → (mq_i m f i v).1 g = m.1 g := fun g hg => mq_i_ne m v (fun q => hf (q ▸ hg))
    rw [if_pos h1, if_pos h1]
    unfold wm_fs
    rw [e 0 (by simp), e 2 (by simp), e 3 (by simp), e 12 (by simp), e 25 (by simp), e 31 (by simp)]
  · rw [if_neg h1, if_neg h1]
    by_cases h2 : a = 21
    · rw [if_pos h2, if_pos h2]
      have hb : b ≠ f := fun q => h ⟨h2, q⟩
      unfold wm_arr
      rw [mq_i_ne m v hb]; rfl
    · rw [if_neg h2, if_neg h2]
theorem PW_l2 {Pc : Nat → Nat → Option va_E} {cA : Nat → ClassId} {ad : Nat → Nat → Nat} {m : qM} {f i : Nat} {v : Int64} : ∀ a b, ¬ (a = 21 ∧ b = f) → PW Pc cA ad (mq_l m f i v) a b = PW Pc cA ad m a b := by
  intro a b h
  unfold PW
  by_cases h1 : a = 20
  · rw [if_pos h1, if_pos h1]; rfl
  · rw [if_neg h1, if_neg h1]
    by_cases h2 : a = 21
    · rw [if_pos h2, if_pos h2]
      have hb : b ≠ f := fun q => h ⟨h2, q⟩
      unfold wm_arr
      rw [mq_l_ne m v hb]; rfl
    · rw [if_neg h2, if_neg h2]
/-- a number of the object is written -/
theorem PW_s2 {Pc : Nat → Nat → Option va_E} {cA : Nat → ClassId} {ad : Nat → Nat → Nat} {m : qM} {f i : Nat} {v : Int32} (hf : (wm_kind f).1 = 0) : ∀ a b, ¬ (a = 20 ∧ b = 0) → PW Pc cA ad (mq_i m f i v) a b = PW Pc cA ad m a b := by
  intro a b h
  unfold PW
  by_cases h1 : a = 20
  · rw [if_pos h1, if_pos h1, if_neg (fun q => h ⟨h1, q⟩), if_neg (fun q => h ⟨h1, q⟩)]
  · rw [if_neg h1, if_neg h1]
    by_cases h2 : a = 21
    · rw [if_pos h2, if_pos h2]
      unfold wm_arr
      by_cases hb : b = f
      · subst hb
        generalize hk : wm_kind b = k
        rw [hk] at hf
        obtain ⟨k1, k2⟩ := k
        simp at hf
        subst hf
        rfl
      · rw [mq_i_ne m v hb]; rfl
    · rw [if_neg h2, if_neg h2]
def wA (b0 : Nat) : Nat → Prop := fun q => b0 ≤ q
def WP (D : va_G) (b0 : Nat) (Pc : Nat → Nat → Option va_E) (cA : Nat → ClassId) (ad : Nat → Nat → Nat) (m : qM) (U : State) : Prop := va_K D vwCl (wd_tys cA) U ∧ wd D (wA b0) (PW Pc cA ad m) ad U.heap
