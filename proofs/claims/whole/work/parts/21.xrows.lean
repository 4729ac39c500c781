/-! laid by wip/whole/tools/xrows.py: contracts of methods that may throw -/
def xn (k : Int32) : String := if k = 1 then "java/lang/IndexOutOfBoundsException" else if k = 2 then "java/lang/IllegalArgumentException" else "java/lang/IllegalStateException"
def xnn : List String := ["java/lang/RuntimeException", "java/lang/Exception"]
def xs : List (Nat × String) := [(62, "no such rights"), (81, "not the class's event, or before its latest version"), (91, "the class has all its versions"), (102, "no such month"), (107, "a record was filed"), (111, "no such folder"), (114, "the folder is there, or its class has no version"), (128, "the folder is closed"), (136, "the person left before"), (142, "no such size"), (144, "the folder is closed, or all records are there"), (152, "the last day is before the first one"), (158, "the hold is placed"), (164, "the hold is not placed"), (195, "nothing such is told of a record"), (197, "the record is destroyed"), (203, "no such key or place"), (218, "all lists are there"), (224, "no record is to be on the list"), (235, "no such place on a list"), (251, "the officer drew the list up, or approved it already"), (262, "the record is not on the list"), (267, "too few approved the list"), (289, "nothing such is counted"), (320, "no such class"), (322, "no such hold"), (324, "no such officer"), (326, "no such act"), (328, "no such record"), (330, "no such list"), (332, "no such term"), (335, "no such day"), (337, "a day before that of the office"), (339, "no such key"), (341, "an act has no such number"), (343, "no room in the book"), (345, "the officer has not the right"), (347, "the list is not open")]
/-- what a throw rests on, and nobody writes: two statics of Throwable, the texts, words of the classes -/
def KX (A : Nat → Prop) (U : State) : Prop := vx_Zq Bundle.tN "UNASSIGNED_STACK" Bundle.steD A U U.heap ∧ vx_Zq Bundle.tN "SUPPRESSED_SENTINEL" Bundle.listD A U U.heap ∧ (∀ x ∈ xs, ∃ sa, vk_R RX7 x.1 x.2 sa U) ∧ va_Nw (.castable "java/lang/IndexOutOfBoundsException" "java/lang/IndexOutOfBoundsException") U ∧ va_Nw (.castable "java/lang/IllegalArgumentException" "java/lang/IllegalArgumentException") U ∧ va_Nw (.castable "java/lang/IllegalStateException" "java/lang/IllegalStateException") U ∧ va_Nw (.declares (Bundle.initS "java/lang/RuntimeException")) U ∧ va_Nw (.declares (Bundle.initS "java/lang/Exception")) U ∧ va_Nw (.declares (Bundle.initS Bundle.tN)) U
theorem KX.at {A : Nat → Prop} {s U : State} {H : Heap} {locs : List Loc} (h : KX A s) (hS : va_S A s.heap H locs) (hw : s.WarmedH U.vm) (hH : U.heap = H) : KX A U := by
  obtain ⟨h1, h2, h3, h4, h5, h6, h7, h8, h9⟩ := h
  refine ⟨?_, ?_, fun x hx => ?_, va_Nw.warmC hw h4, va_Nw.warmC hw h5, va_Nw.warmC hw h6, va_Nw.warmD hw h7, va_Nw.warmD hw h8, va_Nw.warmD hw h9⟩
  · rw [hH]; exact vx_Zq.moved hw.alike (h1.kept hS.2.1)
  · rw [hH]; exact vx_Zq.moved hw.alike (h2.kept hS.2.1)
  · obtain ⟨sa, hr⟩ := h3 x hx
    exact ⟨sa, vk_R.warm hw hr⟩
theorem KX.blind {A : Nat → Prop} {U : State} {g : JFrame} {mk : MethodId} {a : Array Value} (h : KX A U) : KX A (U.calling g mk a) := by
  obtain ⟨h1, h2, h3, h4, h5, h6, h7, h8, h9⟩ := h
  refine ⟨vx_Zq.moved (u := U) (U := U.calling g mk a) (Vm.Alike.refl U.vm) h1, vx_Zq.moved (u := U) (U := U.calling g mk a) (Vm.Alike.refl U.vm) h2, fun x hx => ?_, va_Nw.same rfl rfl h4, va_Nw.same rfl rfl h5, va_Nw.same rfl rfl h6, va_Nw.same rfl rfl h7, va_Nw.same rfl rfl h8, va_Nw.same rfl rfl h9⟩
  obtain ⟨sa, hr⟩ := h3 x hx
  exact ⟨sa, vk_R.same (u := U) rfl hr⟩
def WX (D : va_G) (b0 : Nat) (cA : Nat → ClassId) (ad : Nat → Nat → Nat) (m : qM) (c : qC) (U : State) : Prop := WC D b0 cA ad m c U ∧ KX (wA b0) U ∧ b0 ≤ U.heap.size
theorem WX_blind {D : va_G} {b0 : Nat} {cA : Nat → ClassId} {ad : Nat → Nat → Nat} {m : qM} {c : qC} {av : List Value} : FrameBlind (va_Pc av (WX D b0 cA ad m c)) := fun a U g mk q => by
  obtain ⟨q0, ⟨⟨qK, qW⟩, qD⟩, qX, qz⟩ := q
  exact ⟨q0, ⟨⟨va_K.moved (u := U) (U := U.calling g mk a) (Vm.Alike.refl U.vm) qK, qW⟩, qD.blind⟩, qX.blind, qz⟩
abbrev xQX (D : va_G) (b0 : Nat) (cA : Nat → ClassId) (ad : Nat → Nat → Nat) (m : qM) (c : qC) (k : Int32) : String → State → State → Prop := vx_X (fun _ : Unit => True) (fun nm _ t => (nm = xn k ∧ ¬ k = 0) ∧ WE D b0 cA ad m c t) (wA b0)
def xc_i (l : Launch) (y : MethodName) (ws : List Cond) (fr lo mc ms : Nat) (D : va_G) (b0 : Nat) (cA : Nat → ClassId) (ad : Nat → Nat → Nat) (m : qM) (c : qC) (av : List Value) (E : Int32 × Int32 × qC) : Prop :=
  vx_Met l y ws { frames := fr, cells := mc, slots := ms, locals := lo } (va_Pc av (WX D b0 cA ad m c)) (va_Qi (fun r (_ : Unit) => E.1 = 0 ∧ r = E.2.1) (fun _ U => WE D b0 cA ad m E.2.2 U) (wA b0)) (xQX D b0 cA ad m c E.1) mc ms (wA b0)
def xc_l (l : Launch) (y : MethodName) (ws : List Cond) (fr lo mc ms : Nat) (D : va_G) (b0 : Nat) (cA : Nat → ClassId) (ad : Nat → Nat → Nat) (m : qM) (c : qC) (av : List Value) (E : Int32 × Int64 × qC) : Prop :=
  vx_Met l y ws { frames := fr, cells := mc, slots := ms, locals := lo } (va_Pc av (WX D b0 cA ad m c)) (va_Ql (fun r (_ : Unit) => E.1 = 0 ∧ r = E.2.1) (fun _ U => WE D b0 cA ad m E.2.2 U) (wA b0)) (xQX D b0 cA ad m c E.1) mc ms (wA b0)
def xc_v (l : Launch) (y : MethodName) (ws : List Cond) (fr lo mc ms : Nat) (D : va_G) (b0 : Nat) (cA : Nat → ClassId) (ad : Nat → Nat → Nat) (m : qM) (c : qC) (av : List Value) (E : Int32 × qC) : Prop :=
  vx_Met l y ws { frames := fr, cells := mc, slots := ms, locals := lo } (va_Pc av (WX D b0 cA ad m c)) (va_Qv (fun (_ : Unit) => E.1 = 0) (fun _ U => WE D b0 cA ad m E.2 U) (wA b0)) (xQX D b0 cA ad m c E.1) mc ms (wA b0)
/-- an answer that is the object at a -/
def xc_r (l : Launch) (y : MethodName) (ws : List Cond) (fr lo mc ms : Nat) (D : va_G) (b0 : Nat) (cA : Nat → ClassId) (ad : Nat → Nat → Nat) (m : qM) (c : qC) (av : List Value) (a : Nat) (E : Int32) : Prop :=
  vx_Met l y ws { frames := fr, cells := mc, slots := ms, locals := lo } (va_Pc av (WX D b0 cA ad m c)) (va_Qr (fun (_ : Unit) => E = 0) (fun _ b U => b = a ∧ WE D b0 cA ad m c U) (wA b0)) (xQX D b0 cA ad m c E) mc ms (wA b0)
section XCO
variable {l : Launch} {y : MethodName} {ws ws' : List Cond} {fr lo mc ms : Nat} {D : va_G} {b0 : Nat} {cA : Nat → ClassId} {ad : Nat → Nat → Nat} {q : qM} {z : qC} {av : List Value} {cc : ByteArray} {maxL : Nat} {ret : Option FieldType} {Qc : Array Value → State → Outcome → State → Prop} {XC : String → State → State → Prop}
theorem xc_of (hy : plainName y.cls = true) (hw : ws = Cond.code y cc maxL ret :: ws') (hl : (lg_sl av).length ≤ maxL)
    (body : ∀ (p : Program) (e : Env) (s : State) (m : MethodId) (below : List Frame) (meth : Method) (c : Code), p.tables.exec = Jvm.exec → c.code = cc → c.maxLocals = maxL → meth.sig.returnType = ret → meth.locks = false → s.vm.findClass y.cls = some m.cls → (∀ w ∈ ws, w.before av.toArray s = true) → va_K D vwCl (wd_tys cA) s → wd D (wA b0) (PO cA ad z q) ad s.heap → KD (wA b0) s → KX (wA b0) s → b0 ≤ s.heap.size → (∀ x ∈ c.exceptionTable.toList, False) →
      ∀ ls : Array Slot, lv_has ls maxL (lv_args 0 av) → W p l e { frames := fr, cells := mc, slots := ms, locals := lo } s m av.toArray below meth c s.heap [] 0 0 (vx_MQ below Qc XC av.toArray s mc ms (wA b0)) (F0 m 0 ls [])) :
    vx_Met l y ws { frames := fr, cells := mc, slots := ms, locals := lo } (va_Pc av (WX D b0 cA ad q z)) Qc XC mc ms (wA b0) := by
  refine vx_ofW (cc := cc) (maxL := maxL) (ret := ret) hy hw ?_
  intro p e s m args below meth c s₁ B hml hxt hv
  obtain ⟨rfl, ⟨⟨hK, hW⟩, hKD⟩, hKX, hz⟩ := hv
  have hts := atoms_spec (ws := ws) B.pre
  have hl2 := lv_entry av hl
  rw [lg_entry_eq]
  exact body p e s m below meth c B.exec B.bytes hml B.returns B.notSynchronized (findClass_of_methodNamed B.named) hts hK hW hKD hKX hz hxt _ hl2
end XCO
section XCR
variable {p : Program} {l : Launch} {e : Env} {R : Room} {s : State} {m : MethodId} {args : Array Value} {below : List Frame} {meth : Method} {c : Code} {H : Heap} {locs : List Loc} {cells slots mc ms : Nat} {Q : State → Prop}
variable {cc : ByteArray} {pc : Nat} {ls : Array Slot} {rest st : List Value} {D : va_G} {b0 : Nat} {cA : Nat → ClassId} {ad : Nat → Nat → Nat} {q : qM} {z z0 z2 : qC} {Ts : List Cond} {index nL : Nat} {XC : String → State → State → Prop}
theorem ox_iret {E : Int32 × Int32 × qC} {v : Int32} (hx : p.tables.exec = Jvm.exec) (hb : c.code = cc) (hr : meth.sig.returnType = some .int) (hlk : meth.locks = false) (hK : va_K D vwCl (wd_tys cA) s) (hW : wd D (wA b0) (PO cA ad z q) ad H) (hS : va_S (wA b0) s.heap H locs) (hc : cells ≤ mc) (hs : slots ≤ ms) (hE : (0, v, z) = E) (hdg : decode cc pc = .ok (.ireturn, 1)) :
    W p l e R s m args below meth c H locs cells slots (vx_MQ below (va_Qi (fun r (_ : Unit) => E.1 = 0 ∧ r = E.2.1) (fun _ U => WE D b0 cA ad q E.2.2 U) (wA b0)) XC args s mc ms (wA b0)) (F0 m pc ls [.int v]) := by
  subst hE
  exact vx_ret (W.widen (k := mc) (n := ms) hc hs (W.iret hx hb hr (fun t ht hw => ⟨⟨v, (), rfl, ⟨rfl, rfl⟩, va_K.moved hw.alike hK, by rw [ht]; exact hW⟩, hS.F ht⟩) hS.2.2 hdg hlk))
theorem ox_lret {E : Int32 × Int64 × qC} {v : Int64} (hx : p.tables.exec = Jvm.exec) (hb : c.code = cc) (hr : meth.sig.returnType = some .long) (hlk : meth.locks = false) (hK : va_K D vwCl (wd_tys cA) s) (hW : wd D (wA b0) (PO cA ad z q) ad H) (hS : va_S (wA b0) s.heap H locs) (hc : cells ≤ mc) (hs : slots ≤ ms) (hE : (0, v, z) = E) (hdg : decode cc pc = .ok (.lreturn, 1)) :
    W p l e R s m args below meth c H locs cells slots (vx_MQ below (va_Ql (fun r (_ : Unit) => E.1 = 0 ∧ r = E.2.1) (fun _ U => WE D b0 cA ad q E.2.2 U) (wA b0)) XC args s mc ms (wA b0)) (F0 m pc ls [.long v]) := by
  subst hE
  exact vx_ret (W.widen (k := mc) (n := ms) hc hs (W.lret hx hb hr (fun t ht hw => ⟨⟨v, (), rfl, ⟨rfl, rfl⟩, va_K.moved hw.alike hK, by rw [ht]; exact hW⟩, hS.F ht⟩) hS.2.2 hdg hlk))
theorem ox_vret {E : Int32 × qC} (hx : p.tables.exec = Jvm.exec) (hb : c.code = cc) (hr : meth.sig.returnType = none) (hlk : meth.locks = false) (hK : va_K D vwCl (wd_tys cA) s) (hW : wd D (wA b0) (PO cA ad z q) ad H) (hS : va_S (wA b0) s.heap H locs) (hc : cells ≤ mc) (hs : slots ≤ ms) (hE : (0, z) = E) (hdg : decode cc pc = .ok (.return_, 1)) :
    W p l e R s m args below meth c H locs cells slots (vx_MQ below (va_Qv (fun (_ : Unit) => E.1 = 0) (fun _ U => WE D b0 cA ad q E.2 U) (wA b0)) XC args s mc ms (wA b0)) (F0 m pc ls []) := by
  subst hE
  exact vx_ret (W.widen (k := mc) (n := ms) hc hs (W.vret hx hb hr (fun t ht hw => ⟨⟨(), rfl, rfl, va_K.moved hw.alike hK, by rw [ht]; exact hW⟩, hS.F ht⟩) hS.2.2 hdg hlk))
/-- a throw out of this method -/
theorem ox_throwS {Qc : Array Value → State → Outcome → State → Prop} {k : Int32} {cls text : String} {ik is ic : Nat} (hx : p.tables.exec = Jvm.exec) (hb : c.code = cc) (hlt : l.stackTraces = false) (hown : s.vm.findClass RX7 = some m.cls) (hk : (Cond.classLink RX7 ik cls).before args s = true) (hini : (Cond.initialized cls).before args s = true) (hat : ∀ w ∈ vx_atS RX7 ic cls xnn, w.before args s = true)
    (hfit : Bundle.fit cls = true) (hgood : ∀ w ∈ Cond.classLink RX7 ik cls :: Cond.initialized cls :: vx_atS RX7 ic cls xnn, vx_ot w = true) (hK : va_K D vwCl (wd_tys cA) s) (hW : wd D (wA b0) (PO cA ad z q) ad H) (hS : va_S (wA b0) s.heap H locs) (hKX : KX (wA b0) s) (hstr : (is, text) ∈ xs) (hsz : ls.size = c.maxLocals) (hxt : ∀ x ∈ c.exceptionTable.toList, False)
    (hn : cls = xn k ∧ ¬ k = 0) (hF : 5 < R.frames) (hL : (rest.map fun v => v.category).sum + 82 ≤ R.locals) (hc : cells + 1 ≤ R.cells) (hs : slots + 6 ≤ R.slots) (hlk : meth.locks = false) (hc2 : cells + 1 ≤ mc) (hs2 : slots + 6 ≤ ms)
    (d0 : decode cc pc = .ok (.new ik, 3)) (d3 : decode cc (pc + 3) = .ok (.dup, 1)) (d4 : decode cc (pc + 4) = .ok (.ldc is, 2)) (d6 : decode cc (pc + 6) = .ok (.invokespecial ic, 3)) (d9 : decode cc (pc + 9) = .ok (.athrow, 1)) :
    W p l e R s m args below meth c H locs cells slots (vx_MQ below Qc (xQX D b0 cA ad q z k) args s mc ms (wA b0)) (F0 m pc ls rest) := by
  obtain ⟨sa, hr⟩ := hKX.2.2.1 _ hstr
  refine vx_throwS (names := xnn) hx hb hlt hown hfit (by decide +kernel) hk hini hr hat hgood hKX.1 hKX.2.1 hS hsz d0 d3 d4 d6 d9 (fun x h => absurd (hxt x h) id) hF hL hc hs hlk ?_ hS.2.2 hc2 hs2
  intro t hvm hz ho
  obtain ⟨LP, f, hP, hD, hr1, hr2⟩ := hW
  refine ⟨(), trivial, ⟨hn, va_K.moved hvm hK, ⟨LP, f, hP.kept (fun k x hx => ho x.1 ((hP k x hx).lt)), hD, hr1, hr2⟩⟩, ?_⟩
  exact ⟨Nat.le_trans hS.1 hz, fun x h1 h2 => (ho x (Nat.lt_of_lt_of_le h1 hS.1)).trans (hS.2.1 x h1 h2)⟩
theorem ox_throwW {Qc : Array Value → State → Outcome → State → Prop} {k : Int32} {cls text : String} {ik is ic : Nat} (hx : p.tables.exec = Jvm.exec) (hb : c.code = cc) (hlt : l.stackTraces = false) (hown : s.vm.findClass RX7 = some m.cls) (hk : (Cond.classLink RX7 ik cls).before args s = true) (hini : (Cond.initialized cls).before args s = true) (hat : ∀ w ∈ vx_atS RX7 ic cls xnn, w.before args s = true)
    (hfit : Bundle.fit cls = true) (hgood : ∀ w ∈ Cond.classLink RX7 ik cls :: Cond.initialized cls :: vx_atS RX7 ic cls xnn, vx_ot w = true) (hK : va_K D vwCl (wd_tys cA) s) (hW : wd D (wA b0) (PO cA ad z q) ad H) (hS : va_S (wA b0) s.heap H locs) (hKX : KX (wA b0) s) (hstr : (is, text) ∈ xs) (hsz : ls.size = c.maxLocals) (hxt : ∀ x ∈ c.exceptionTable.toList, False)
    (hn : cls = xn k ∧ ¬ k = 0) (hF : 5 < R.frames) (hL : (rest.map fun v => v.category).sum + 82 ≤ R.locals) (hc : cells + 1 ≤ R.cells) (hs : slots + 6 ≤ R.slots) (hlk : meth.locks = false) (hc2 : cells + 1 ≤ mc) (hs2 : slots + 6 ≤ ms)
    (d0 : decode cc pc = .ok (.new ik, 3)) (d3 : decode cc (pc + 3) = .ok (.dup, 1)) (d4 : decode cc (pc + 4) = .ok (.ldc_w is, 3)) (d7 : decode cc (pc + 7) = .ok (.invokespecial ic, 3)) (d10 : decode cc (pc + 10) = .ok (.athrow, 1)) :
    W p l e R s m args below meth c H locs cells slots (vx_MQ below Qc (xQX D b0 cA ad q z k) args s mc ms (wA b0)) (F0 m pc ls rest) := by
  obtain ⟨sa, hr⟩ := hKX.2.2.1 _ hstr
  refine vx_throwSW (names := xnn) hx hb hlt hown hfit (by decide +kernel) hk hini hr hat hgood hKX.1 hKX.2.1 hS hsz d0 d3 d4 d7 d10 (fun x h => absurd (hxt x h) id) hF hL hc hs hlk ?_ hS.2.2 hc2 hs2
  intro t hvm hz ho
  obtain ⟨LP, f, hP, hD, hr1, hr2⟩ := hW
  refine ⟨(), trivial, ⟨hn, va_K.moved hvm hK, ⟨LP, f, hP.kept (fun k x hx => ho x.1 ((hP k x hx).lt)), hD, hr1, hr2⟩⟩, ?_⟩
  exact ⟨Nat.le_trans hS.1 hz, fun x h1 h2 => (ho x (Nat.lt_of_lt_of_le h1 hS.1)).trans (hS.2.1 x h1 h2)⟩
/-- a callee's throw goes on to the caller -/
theorem ox_out {Qc : Array Value → State → Outcome → State → Prop} {k k2 : Int32} {ce : Cell} {q9 : Addr} (hxt : ∀ x ∈ c.exceptionTable.toList, False) (hlk : meth.locks = false) (hK : va_K D vwCl (wd_tys cA) s) (hE : k2 = k) (hk : ¬ k = 0) (hW : wd D (wA b0) (PO cA ad z q) ad H) (hS : va_S (wA b0) s.heap H locs) (hcell : H[q9]? = some ce) (hv : ce.vm = .none) (hcl : s.vm.findClass (xn k) = some ce.cls) (hc : cells ≤ mc) (hs : slots ≤ ms) :
    vx_W p l e R s m args below meth c H locs cells slots (vx_MQ below Qc (xQX D b0 cA ad q z k2) args s mc ms (wA b0)) (F0 m pc ls rest) q9 := by
  subst hE
  exact vx_out (fun x h => absurd (hxt x h) id) hlk hcell hv hcl (fun t ht hvm => ⟨(), trivial, ⟨⟨rfl, hk⟩, va_K.moved hvm hK, by rw [ht]; exact hW⟩, hS.F ht⟩) hS.2.2 hc hs
variable {own ref C : String} {T : u_T} {N ci : Nat} {fs : List Value}
theorem ox_preV {As : List Value} {k j : Nat} (hK : va_K D vwCl (wd_tys cA) s) (hW : wd D (wA b0) (PO cA ad z q) ad H) (hS : va_S (wA b0) s.heap H locs) (hKD : KD (wA b0) s) (hKX : KX (wA b0) s) (hz : b0 ≤ s.heap.size) (he : PO cA ad z q k j = some (.inr (ci, fs))) (hc : vwCl[ci]? = some (C, T, N)) : PreV s H C (ad k j) (va_Pc (.ref (ad k j) :: As) (WX D b0 cA ad q z)) As :=
  ⟨WX_blind, va_recv hK (wd_one hW k j he) (q := (C, T, N)) (q0 := 0) hc rfl, fun U hU hw => ⟨rfl, ⟨⟨va_K.moved hw.alike hK, by rw [hU]; exact hW⟩, hKD.at hS hw.alike hU⟩, hKX.at hS hw hU, by rw [hU]; exact Nat.le_trans hz hS.1⟩⟩
theorem ox_preS {As : List Value} (hK : va_K D vwCl (wd_tys cA) s) (hW : wd D (wA b0) (PO cA ad z q) ad H) (hS : va_S (wA b0) s.heap H locs) (hKD : KD (wA b0) s) (hKX : KX (wA b0) s) (hz : b0 ≤ s.heap.size) : PreS s H (va_Pc As (WX D b0 cA ad q z)) As :=
  ⟨WX_blind, fun U hU hw => ⟨rfl, ⟨⟨va_K.moved hw.alike hK, by rw [hU]; exact hW⟩, hKD.at hS hw.alike hU⟩, hKX.at hS hw hU, by rw [hU]; exact Nat.le_trans hz hS.1⟩⟩
variable {y : MethodName} {ws ws' : List Cond} {fr lo maxL n mc0 ms0 : Nat} {bytes : ByteArray} {ret : Option FieldType} {As : List Value} {k0 : Int32}

theorem ox_callVi {r : Int32} {k j : Nat} (S : CallFix p m c cc nL s args Ts own) (hM : xc_i l y ws fr lo mc0 ms0 D b0 cA ad q z (.ref (ad k j) :: As) (k0, r, z2)) (he : PO cA ad z q k j = some (.inr (ci, fs))) (hc : vwCl[ci]? = some (C, T, N)) (hT : GoodIn Ts (wsV own index C y ws)) (hw : ws = Cond.code y bytes maxL ret :: ws') (hd : y.cls = C ∧ y.cls ≠ "java/lang/invoke/MethodHandle" ∧ y.cls ≠ "java/lang/invoke/VarHandle" ∧ (parseMethodDescriptor y.desc).map (fun d => d.parameters.length) = some n) (hn : As.length = n) (hR : fr + 1 ≤ R.frames ∧ 8 + (maxL + 11) + lo ≤ R.locals) (hf : cells + mc0 ≤ R.cells ∧ slots + ms0 ≤ R.slots)
    (hK : va_K D vwCl (wd_tys cA) s) (hW : wd D (wA b0) (PO cA ad z q) ad H) (hS : va_S (wA b0) s.heap H locs) (hKD : KD (wA b0) s) (hKX : KX (wA b0) s) (hz : b0 ≤ s.heap.size) (hsz : ls.size = nL) (hst : st = As.reverse ++ .ref (ad k j) :: rest) (hrm : (rest.map fun v => v.category).sum ≤ 8) (hdg : decode cc pc = .ok (.invokevirtual index, 3))
    (kx : ¬ k0 = 0 → ∀ (H1 : Heap) (locs1 : List Loc) (ce : Cell) (q9 : Addr), wd D (wA b0) (PO cA ad z q) ad H1 → va_S (wA b0) s.heap H1 locs1 → H1[q9]? = some ce → ce.vm = .none → s.vm.findClass (xn k0) = some ce.cls → vx_W p l e R s m args below meth c H1 locs1 (cells + mc0) (slots + ms0) Q (F0 m pc ls rest) q9)
    (kk : k0 = 0 → ∀ (H1 : Heap) (locs1 : List Loc), wd D (wA b0) (PO cA ad z2 q) ad H1 → va_S (wA b0) s.heap H1 locs1 → W p l e R s m args below meth c H1 locs1 (cells + mc0) (slots + ms0) Q (F0 m (pc + 3) ls (.int r :: rest))) : W p l e R s m args below meth c H locs cells slots Q (F0 m pc ls st) := by
  refine vx_calli (vx_runV (As := As) (rest := rest) S hM (cwV n S.2.2.2.2 hT hw rfl rfl hd hR) (ox_preV hK hW hS hKD hKX hz he hc) rfl hn hsz hst (lv_room hrm) hdg hf) hS (fun q _ h => h) (fun q h => h) (fun q _ h => h) (fun nm ce q9 u t H1 locs1 ht hvm hpx hB _ _ hS1 h1 h2 h3 => ?_) (fun r2 u t H1 locs1 ht hvm hp hB _ _ hS1 => by
    obtain ⟨hp1, hp2⟩ := hp
    subst hp2
    exact kk hp1 H1 locs1 (by rw [← ht]; exact hB.2) hS1)
  obtain ⟨⟨hb1, hb2⟩, hb3⟩ := hB
  subst hb1
  exact kx hb2 H1 locs1 ce q9 (by rw [← ht]; exact hb3.2) hS1 h1 h2 h3
theorem ox_callSi {r : Int32} (S : CallFix p m c cc nL s args Ts own) (hM : xc_i l y ws fr lo mc0 ms0 D b0 cA ad q z As (k0, r, z2)) (hT : GoodIn Ts (va_wsS own index y ws)) (hw : ws = Cond.code y bytes maxL ret :: ws') (hd : y.cls ≠ "java/lang/invoke/MethodHandle" ∧ y.cls ≠ "java/lang/invoke/VarHandle" ∧ (parseMethodDescriptor y.desc).map (fun d => d.parameters.length) = some n) (hn : As.length = n) (hR : fr + 1 ≤ R.frames ∧ 8 + (maxL + 11) + lo ≤ R.locals) (hf : cells + mc0 ≤ R.cells ∧ slots + ms0 ≤ R.slots)
    (hK : va_K D vwCl (wd_tys cA) s) (hW : wd D (wA b0) (PO cA ad z q) ad H) (hS : va_S (wA b0) s.heap H locs) (hKD : KD (wA b0) s) (hKX : KX (wA b0) s) (hz : b0 ≤ s.heap.size) (hsz : ls.size = nL) (hst : st = As.reverse ++ rest) (hrm : (rest.map fun v => v.category).sum ≤ 8) (hdg : decode cc pc = .ok (.invokestatic index, 3))
    (kx : ¬ k0 = 0 → ∀ (H1 : Heap) (locs1 : List Loc) (ce : Cell) (q9 : Addr), wd D (wA b0) (PO cA ad z q) ad H1 → va_S (wA b0) s.heap H1 locs1 → H1[q9]? = some ce → ce.vm = .none → s.vm.findClass (xn k0) = some ce.cls → vx_W p l e R s m args below meth c H1 locs1 (cells + mc0) (slots + ms0) Q (F0 m pc ls rest) q9)
    (kk : k0 = 0 → ∀ (H1 : Heap) (locs1 : List Loc), wd D (wA b0) (PO cA ad z2 q) ad H1 → va_S (wA b0) s.heap H1 locs1 → W p l e R s m args below meth c H1 locs1 (cells + mc0) (slots + ms0) Q (F0 m (pc + 3) ls (.int r :: rest))) : W p l e R s m args below meth c H locs cells slots Q (F0 m pc ls st) := by
  refine vx_calli (vx_runS (As := As) (rest := rest) S hM (va_cwS n S.2.2.2.2 hT hw rfl rfl hd hR) (ox_preS hK hW hS hKD hKX hz) rfl hn hsz hst (lv_room hrm) hdg hf) hS (fun q _ h => h) (fun q h => h) (fun q _ h => h) (fun nm ce q9 u t H1 locs1 ht hvm hpx hB _ _ hS1 h1 h2 h3 => ?_) (fun r2 u t H1 locs1 ht hvm hp hB _ _ hS1 => by
    obtain ⟨hp1, hp2⟩ := hp
    subst hp2
    exact kk hp1 H1 locs1 (by rw [← ht]; exact hB.2) hS1)
  obtain ⟨⟨hb1, hb2⟩, hb3⟩ := hB
  subst hb1
  exact kx hb2 H1 locs1 ce q9 (by rw [← ht]; exact hb3.2) hS1 h1 h2 h3
theorem ox_callVl {r : Int64} {k j : Nat} (S : CallFix p m c cc nL s args Ts own) (hM : xc_l l y ws fr lo mc0 ms0 D b0 cA ad q z (.ref (ad k j) :: As) (k0, r, z2)) (he : PO cA ad z q k j = some (.inr (ci, fs))) (hc : vwCl[ci]? = some (C, T, N)) (hT : GoodIn Ts (wsV own index C y ws)) (hw : ws = Cond.code y bytes maxL ret :: ws') (hd : y.cls = C ∧ y.cls ≠ "java/lang/invoke/MethodHandle" ∧ y.cls ≠ "java/lang/invoke/VarHandle" ∧ (parseMethodDescriptor y.desc).map (fun d => d.parameters.length) = some n) (hn : As.length = n) (hR : fr + 1 ≤ R.frames ∧ 8 + (maxL + 11) + lo ≤ R.locals) (hf : cells + mc0 ≤ R.cells ∧ slots + ms0 ≤ R.slots)
    (hK : va_K D vwCl (wd_tys cA) s) (hW : wd D (wA b0) (PO cA ad z q) ad H) (hS : va_S (wA b0) s.heap H locs) (hKD : KD (wA b0) s) (hKX : KX (wA b0) s) (hz : b0 ≤ s.heap.size) (hsz : ls.size = nL) (hst : st = As.reverse ++ .ref (ad k j) :: rest) (hrm : (rest.map fun v => v.category).sum ≤ 8) (hdg : decode cc pc = .ok (.invokevirtual index, 3))
    (kx : ¬ k0 = 0 → ∀ (H1 : Heap) (locs1 : List Loc) (ce : Cell) (q9 : Addr), wd D (wA b0) (PO cA ad z q) ad H1 → va_S (wA b0) s.heap H1 locs1 → H1[q9]? = some ce → ce.vm = .none → s.vm.findClass (xn k0) = some ce.cls → vx_W p l e R s m args below meth c H1 locs1 (cells + mc0) (slots + ms0) Q (F0 m pc ls rest) q9)
    (kk : k0 = 0 → ∀ (H1 : Heap) (locs1 : List Loc), wd D (wA b0) (PO cA ad z2 q) ad H1 → va_S (wA b0) s.heap H1 locs1 → W p l e R s m args below meth c H1 locs1 (cells + mc0) (slots + ms0) Q (F0 m (pc + 3) ls (.long r :: rest))) : W p l e R s m args below meth c H locs cells slots Q (F0 m pc ls st) := by
  refine vx_calll (vx_runV (As := As) (rest := rest) S hM (cwV n S.2.2.2.2 hT hw rfl rfl hd hR) (ox_preV hK hW hS hKD hKX hz he hc) rfl hn hsz hst (lv_room hrm) hdg hf) hS (fun q _ h => h) (fun q h => h) (fun q _ h => h) (fun nm ce q9 u t H1 locs1 ht hvm hpx hB _ _ hS1 h1 h2 h3 => ?_) (fun r2 u t H1 locs1 ht hvm hp hB _ _ hS1 => by
    obtain ⟨hp1, hp2⟩ := hp
    subst hp2
    exact kk hp1 H1 locs1 (by rw [← ht]; exact hB.2) hS1)
  obtain ⟨⟨hb1, hb2⟩, hb3⟩ := hB
  subst hb1
  exact kx hb2 H1 locs1 ce q9 (by rw [← ht]; exact hb3.2) hS1 h1 h2 h3
theorem ox_callSl {r : Int64} (S : CallFix p m c cc nL s args Ts own) (hM : xc_l l y ws fr lo mc0 ms0 D b0 cA ad q z As (k0, r, z2)) (hT : GoodIn Ts (va_wsS own index y ws)) (hw : ws = Cond.code y bytes maxL ret :: ws') (hd : y.cls ≠ "java/lang/invoke/MethodHandle" ∧ y.cls ≠ "java/lang/invoke/VarHandle" ∧ (parseMethodDescriptor y.desc).map (fun d => d.parameters.length) = some n) (hn : As.length = n) (hR : fr + 1 ≤ R.frames ∧ 8 + (maxL + 11) + lo ≤ R.locals) (hf : cells + mc0 ≤ R.cells ∧ slots + ms0 ≤ R.slots)
    (hK : va_K D vwCl (wd_tys cA) s) (hW : wd D (wA b0) (PO cA ad z q) ad H) (hS : va_S (wA b0) s.heap H locs) (hKD : KD (wA b0) s) (hKX : KX (wA b0) s) (hz : b0 ≤ s.heap.size) (hsz : ls.size = nL) (hst : st = As.reverse ++ rest) (hrm : (rest.map fun v => v.category).sum ≤ 8) (hdg : decode cc pc = .ok (.invokestatic index, 3))
    (kx : ¬ k0 = 0 → ∀ (H1 : Heap) (locs1 : List Loc) (ce : Cell) (q9 : Addr), wd D (wA b0) (PO cA ad z q) ad H1 → va_S (wA b0) s.heap H1 locs1 → H1[q9]? = some ce → ce.vm = .none → s.vm.findClass (xn k0) = some ce.cls → vx_W p l e R s m args below meth c H1 locs1 (cells + mc0) (slots + ms0) Q (F0 m pc ls rest) q9)
    (kk : k0 = 0 → ∀ (H1 : Heap) (locs1 : List Loc), wd D (wA b0) (PO cA ad z2 q) ad H1 → va_S (wA b0) s.heap H1 locs1 → W p l e R s m args below meth c H1 locs1 (cells + mc0) (slots + ms0) Q (F0 m (pc + 3) ls (.long r :: rest))) : W p l e R s m args below meth c H locs cells slots Q (F0 m pc ls st) := by
  refine vx_calll (vx_runS (As := As) (rest := rest) S hM (va_cwS n S.2.2.2.2 hT hw rfl rfl hd hR) (ox_preS hK hW hS hKD hKX hz) rfl hn hsz hst (lv_room hrm) hdg hf) hS (fun q _ h => h) (fun q h => h) (fun q _ h => h) (fun nm ce q9 u t H1 locs1 ht hvm hpx hB _ _ hS1 h1 h2 h3 => ?_) (fun r2 u t H1 locs1 ht hvm hp hB _ _ hS1 => by
    obtain ⟨hp1, hp2⟩ := hp
    subst hp2
    exact kk hp1 H1 locs1 (by rw [← ht]; exact hB.2) hS1)
  obtain ⟨⟨hb1, hb2⟩, hb3⟩ := hB
  subst hb1
  exact kx hb2 H1 locs1 ce q9 (by rw [← ht]; exact hb3.2) hS1 h1 h2 h3
theorem ox_callVv {k j : Nat} (S : CallFix p m c cc nL s args Ts own) (hM : xc_v l y ws fr lo mc0 ms0 D b0 cA ad q z (.ref (ad k j) :: As) (k0, z2)) (he : PO cA ad z q k j = some (.inr (ci, fs))) (hc : vwCl[ci]? = some (C, T, N)) (hT : GoodIn Ts (wsV own index C y ws)) (hw : ws = Cond.code y bytes maxL ret :: ws') (hd : y.cls = C ∧ y.cls ≠ "java/lang/invoke/MethodHandle" ∧ y.cls ≠ "java/lang/invoke/VarHandle" ∧ (parseMethodDescriptor y.desc).map (fun d => d.parameters.length) = some n) (hn : As.length = n) (hR : fr + 1 ≤ R.frames ∧ 8 + (maxL + 11) + lo ≤ R.locals) (hf : cells + mc0 ≤ R.cells ∧ slots + ms0 ≤ R.slots)
    (hK : va_K D vwCl (wd_tys cA) s) (hW : wd D (wA b0) (PO cA ad z q) ad H) (hS : va_S (wA b0) s.heap H locs) (hKD : KD (wA b0) s) (hKX : KX (wA b0) s) (hz : b0 ≤ s.heap.size) (hsz : ls.size = nL) (hst : st = As.reverse ++ .ref (ad k j) :: rest) (hrm : (rest.map fun v => v.category).sum ≤ 8) (hdg : decode cc pc = .ok (.invokevirtual index, 3))
    (kx : ¬ k0 = 0 → ∀ (H1 : Heap) (locs1 : List Loc) (ce : Cell) (q9 : Addr), wd D (wA b0) (PO cA ad z q) ad H1 → va_S (wA b0) s.heap H1 locs1 → H1[q9]? = some ce → ce.vm = .none → s.vm.findClass (xn k0) = some ce.cls → vx_W p l e R s m args below meth c H1 locs1 (cells + mc0) (slots + ms0) Q (F0 m pc ls rest) q9)
    (kk : k0 = 0 → ∀ (H1 : Heap) (locs1 : List Loc), wd D (wA b0) (PO cA ad z2 q) ad H1 → va_S (wA b0) s.heap H1 locs1 → W p l e R s m args below meth c H1 locs1 (cells + mc0) (slots + ms0) Q (F0 m (pc + 3) ls (rest))) : W p l e R s m args below meth c H locs cells slots Q (F0 m pc ls st) := by
  refine vx_callv (vx_runV (As := As) (rest := rest) S hM (cwV n S.2.2.2.2 hT hw rfl rfl hd hR) (ox_preV hK hW hS hKD hKX hz he hc) rfl hn hsz hst (lv_room hrm) hdg hf) hS (fun q _ h => h) (fun q h => h) (fun q _ h => h) (fun nm ce q9 u t H1 locs1 ht hvm hpx hB _ _ hS1 h1 h2 h3 => ?_) (fun u t H1 locs1 ht hvm hp hB _ _ hS1 => kk hp H1 locs1 (by rw [← ht]; exact hB.2) hS1)
  obtain ⟨⟨hb1, hb2⟩, hb3⟩ := hB
  subst hb1
  exact kx hb2 H1 locs1 ce q9 (by rw [← ht]; exact hb3.2) hS1 h1 h2 h3
theorem ox_callSv (S : CallFix p m c cc nL s args Ts own) (hM : xc_v l y ws fr lo mc0 ms0 D b0 cA ad q z As (k0, z2)) (hT : GoodIn Ts (va_wsS own index y ws)) (hw : ws = Cond.code y bytes maxL ret :: ws') (hd : y.cls ≠ "java/lang/invoke/MethodHandle" ∧ y.cls ≠ "java/lang/invoke/VarHandle" ∧ (parseMethodDescriptor y.desc).map (fun d => d.parameters.length) = some n) (hn : As.length = n) (hR : fr + 1 ≤ R.frames ∧ 8 + (maxL + 11) + lo ≤ R.locals) (hf : cells + mc0 ≤ R.cells ∧ slots + ms0 ≤ R.slots)
    (hK : va_K D vwCl (wd_tys cA) s) (hW : wd D (wA b0) (PO cA ad z q) ad H) (hS : va_S (wA b0) s.heap H locs) (hKD : KD (wA b0) s) (hKX : KX (wA b0) s) (hz : b0 ≤ s.heap.size) (hsz : ls.size = nL) (hst : st = As.reverse ++ rest) (hrm : (rest.map fun v => v.category).sum ≤ 8) (hdg : decode cc pc = .ok (.invokestatic index, 3))
    (kx : ¬ k0 = 0 → ∀ (H1 : Heap) (locs1 : List Loc) (ce : Cell) (q9 : Addr), wd D (wA b0) (PO cA ad z q) ad H1 → va_S (wA b0) s.heap H1 locs1 → H1[q9]? = some ce → ce.vm = .none → s.vm.findClass (xn k0) = some ce.cls → vx_W p l e R s m args below meth c H1 locs1 (cells + mc0) (slots + ms0) Q (F0 m pc ls rest) q9)
    (kk : k0 = 0 → ∀ (H1 : Heap) (locs1 : List Loc), wd D (wA b0) (PO cA ad z2 q) ad H1 → va_S (wA b0) s.heap H1 locs1 → W p l e R s m args below meth c H1 locs1 (cells + mc0) (slots + ms0) Q (F0 m (pc + 3) ls (rest))) : W p l e R s m args below meth c H locs cells slots Q (F0 m pc ls st) := by
  refine vx_callv (vx_runS (As := As) (rest := rest) S hM (va_cwS n S.2.2.2.2 hT hw rfl rfl hd hR) (ox_preS hK hW hS hKD hKX hz) rfl hn hsz hst (lv_room hrm) hdg hf) hS (fun q _ h => h) (fun q h => h) (fun q _ h => h) (fun nm ce q9 u t H1 locs1 ht hvm hpx hB _ _ hS1 h1 h2 h3 => ?_) (fun u t H1 locs1 ht hvm hp hB _ _ hS1 => kk hp H1 locs1 (by rw [← ht]; exact hB.2) hS1)
  obtain ⟨⟨hb1, hb2⟩, hb3⟩ := hB
  subst hb1
  exact kx hb2 H1 locs1 ce q9 (by rw [← ht]; exact hb3.2) hS1 h1 h2 h3
/-- a call that answers a cell, or throws -/
theorem xx_callr {S SX : Type} {post : S → Prop} {px : SX → Prop} {B : S → Nat → State → Prop} {BX : String → SX → State → Prop} {A0 A1 AX : Nat → Prop} {H0 : Heap} {st0 : List Value} {free : Addr → Prop} {a : Array Value} (hr : vx_Run p l e R s m args below meth c H locs cells slots mc ms (F0 m pc ls st0) rest (va_Qr post B A1 a) (vx_X px BX AX) free) (hS : va_S A0 H0 H locs) (hA : ∀ q, q < H.size → A1 q → A0 q) (hf : ∀ q, free q → A0 q) (hAX : ∀ q, q < H.size → AX q → A0 q)
    (kx : ∀ (E : String) (ce : Cell) (q9 : Addr) (u : SX) (t : State) (H1 : Heap) (locs1 : List Loc), t.heap = H1 → s.vm.Alike t.vm → px u → BX E u t → H.size ≤ H1.size → (∀ q : Nat, q < H.size → ¬ AX q → H1[q]? = H[q]?) → va_S A0 H0 H1 locs1 → H1[q9]? = some ce → ce.vm = .none → s.vm.findClass E = some ce.cls → vx_W p l e R s m args below meth c H1 locs1 (cells + mc) (slots + ms) Q (F0 m pc ls rest) q9)
    (kk : ∀ (u : S) (a9 : Nat) (t : State) (H1 : Heap) (locs1 : List Loc), t.heap = H1 → s.vm.Alike t.vm → post u → B u a9 t → H.size ≤ H1.size → (∀ q : Nat, q < H.size → ¬ A1 q → H1[q]? = H[q]?) → va_S A0 H0 H1 locs1 → W p l e R s m args below meth c H1 locs1 (cells + mc) (slots + ms) Q (F0 m (pc + 3) ls (.ref a9 :: rest))) : W p l e R s m args below meth c H locs cells slots Q (F0 m pc ls st0) := by
  intro T hT X
  rcases hr T hT X with ⟨v, st₀, t, T', L, h0, X', hL, e1, e2, ⟨⟨u, a9, hv, hp, hb⟩, hF⟩, st⟩ | ⟨q, st₀, t, T', L, E, ce, h0, X', hL, e1, e2, ⟨u, hp, hb, hF⟩, hce, hcv, hcl, st⟩
  · cases hv
    obtain ⟨k1, k2, k3⟩ := vx_keep h0 e1 hS hA hf hL hF
    obtain ⟨t2, a1, b1⟩ := kk u a9 t T'.heap (locs ++ L) e1.symm (by rw [← e2]; exact X'.warmed.alike) hp hb k1 k2 k3 T' rfl X'
    exact ⟨t2, st t2 a1, b1⟩
  · obtain ⟨k1, k2, k3⟩ := vx_keep h0 e1 hS hAX hf hL hF
    obtain ⟨t2, a1, b1⟩ := kx E ce q u t T'.heap (locs ++ L) e1.symm (by rw [← e2]; exact X'.warmed.alike) hp hb k1 k2 k3 (by rw [e1]; exact hce) hcv hcl T' rfl X'
    exact ⟨t2, st.trans a1, b1⟩
theorem ox_aret {E : Int32} {v : Nat} {rt : String} (hx : p.tables.exec = Jvm.exec) (hb : c.code = cc) (hr : meth.sig.returnType = some (.object rt)) (hlk : meth.locks = false) (hK : va_K D vwCl (wd_tys cA) s) (hW : wd D (wA b0) (PO cA ad z q) ad H) (hS : va_S (wA b0) s.heap H locs) (hc : cells ≤ mc) (hs : slots ≤ ms) (hE : 0 = E) (hdg : decode cc pc = .ok (.areturn, 1)) :
    W p l e R s m args below meth c H locs cells slots (vx_MQ below (va_Qr (fun (_ : Unit) => E = 0) (fun _ b U => b = v ∧ WE D b0 cA ad q z U) (wA b0)) XC args s mc ms (wA b0)) (F0 m pc ls [.ref v]) := by
  subst hE
  exact vx_ret (W.widen (k := mc) (n := ms) hc hs (W.aret hx hb hr (Or.inl ⟨_, rfl⟩) (Or.inr ⟨_, rfl⟩) (fun t ht hw => ⟨⟨(), v, rfl, rfl, rfl, va_K.moved hw.alike hK, by rw [ht]; exact hW⟩, hS.F ht⟩) hS.2.2 hdg hlk))
theorem ox_callVr {a : Nat} {k j : Nat} (S : CallFix p m c cc nL s args Ts own) (hM : xc_r l y ws fr lo mc0 ms0 D b0 cA ad q z (.ref (ad k j) :: As) a k0) (he : PO cA ad z q k j = some (.inr (ci, fs))) (hc : vwCl[ci]? = some (C, T, N)) (hT : GoodIn Ts (wsV own index C y ws)) (hw : ws = Cond.code y bytes maxL ret :: ws') (hd : y.cls = C ∧ y.cls ≠ "java/lang/invoke/MethodHandle" ∧ y.cls ≠ "java/lang/invoke/VarHandle" ∧ (parseMethodDescriptor y.desc).map (fun d => d.parameters.length) = some n) (hn : As.length = n) (hR : fr + 1 ≤ R.frames ∧ 8 + (maxL + 11) + lo ≤ R.locals) (hf : cells + mc0 ≤ R.cells ∧ slots + ms0 ≤ R.slots)
    (hK : va_K D vwCl (wd_tys cA) s) (hW : wd D (wA b0) (PO cA ad z q) ad H) (hS : va_S (wA b0) s.heap H locs) (hKD : KD (wA b0) s) (hKX : KX (wA b0) s) (hz : b0 ≤ s.heap.size) (hsz : ls.size = nL) (hst : st = As.reverse ++ .ref (ad k j) :: rest) (hrm : (rest.map fun v => v.category).sum ≤ 8) (hdg : decode cc pc = .ok (.invokevirtual index, 3))
    (kx : ¬ k0 = 0 → ∀ (H1 : Heap) (locs1 : List Loc) (ce : Cell) (q9 : Addr), wd D (wA b0) (PO cA ad z q) ad H1 → va_S (wA b0) s.heap H1 locs1 → H1[q9]? = some ce → ce.vm = .none → s.vm.findClass (xn k0) = some ce.cls → vx_W p l e R s m args below meth c H1 locs1 (cells + mc0) (slots + ms0) Q (F0 m pc ls rest) q9)
    (kk : k0 = 0 → ∀ (H1 : Heap) (locs1 : List Loc), wd D (wA b0) (PO cA ad z q) ad H1 → va_S (wA b0) s.heap H1 locs1 → W p l e R s m args below meth c H1 locs1 (cells + mc0) (slots + ms0) Q (F0 m (pc + 3) ls (.ref a :: rest))) : W p l e R s m args below meth c H locs cells slots Q (F0 m pc ls st) := by
  refine xx_callr (vx_runV (As := As) (rest := rest) S hM (cwV n S.2.2.2.2 hT hw rfl rfl hd hR) (ox_preV hK hW hS hKD hKX hz he hc) rfl hn hsz hst (lv_room hrm) hdg hf) hS (fun q _ h => h) (fun q h => h) (fun q _ h => h) (fun nm ce q9 u t H1 locs1 ht hvm hpx hB _ _ hS1 h1 h2 h3 => ?_) (fun u a2 t H1 locs1 ht hvm hp hB _ _ hS1 => by
    obtain ⟨hb1, hb2⟩ := hB
    subst hb1
    exact kk hp H1 locs1 (by rw [← ht]; exact hb2.2) hS1)
  obtain ⟨⟨hb1, hb2⟩, hb3⟩ := hB
  subst hb1
  exact kx hb2 H1 locs1 ce q9 (by rw [← ht]; exact hb3.2) hS1 h1 h2 h3
end XCR
theorem xat_1 {args : Array Value} {s : State} {A : Nat → Prop} (h : ∀ w ∈ (vx_atS RX7 113 "java/lang/IndexOutOfBoundsException" ["java/lang/RuntimeException", "java/lang/Exception"]).filter goodWord, w.before args s = true) (hKX : KX A s) : ∀ w ∈ vx_atS RX7 113 "java/lang/IndexOutOfBoundsException" xnn, w.before args s = true := vx_hat (B := [.castable "java/lang/IndexOutOfBoundsException" "java/lang/IndexOutOfBoundsException", .declares (Bundle.initS "java/lang/RuntimeException"), .declares (Bundle.initS "java/lang/Exception"), .declares (Bundle.initS Bundle.tN)]) h (by decide +kernel) (vx_c (va_Nw.use rfl hKX.2.2.2.1) (vx_c (va_Nw.use rfl hKX.2.2.2.2.2.2.1) (vx_c (va_Nw.use rfl hKX.2.2.2.2.2.2.2.1) (vx_c (va_Nw.use rfl hKX.2.2.2.2.2.2.2.2) vx_n))))
theorem xat_2 {args : Array Value} {s : State} {A : Nat → Prop} (h : ∀ w ∈ (vx_atS RX7 64 "java/lang/IllegalArgumentException" ["java/lang/RuntimeException", "java/lang/Exception"]).filter goodWord, w.before args s = true) (hKX : KX A s) : ∀ w ∈ vx_atS RX7 64 "java/lang/IllegalArgumentException" xnn, w.before args s = true := vx_hat (B := [.castable "java/lang/IllegalArgumentException" "java/lang/IllegalArgumentException", .declares (Bundle.initS "java/lang/RuntimeException"), .declares (Bundle.initS "java/lang/Exception"), .declares (Bundle.initS Bundle.tN)]) h (by decide +kernel) (vx_c (va_Nw.use rfl hKX.2.2.2.2.1) (vx_c (va_Nw.use rfl hKX.2.2.2.2.2.2.1) (vx_c (va_Nw.use rfl hKX.2.2.2.2.2.2.2.1) (vx_c (va_Nw.use rfl hKX.2.2.2.2.2.2.2.2) vx_n))))
theorem xat_3 {args : Array Value} {s : State} {A : Nat → Prop} (h : ∀ w ∈ (vx_atS RX7 93 "java/lang/IllegalStateException" ["java/lang/RuntimeException", "java/lang/Exception"]).filter goodWord, w.before args s = true) (hKX : KX A s) : ∀ w ∈ vx_atS RX7 93 "java/lang/IllegalStateException" xnn, w.before args s = true := vx_hat (B := [.castable "java/lang/IllegalStateException" "java/lang/IllegalStateException", .declares (Bundle.initS "java/lang/RuntimeException"), .declares (Bundle.initS "java/lang/Exception"), .declares (Bundle.initS Bundle.tN)]) h (by decide +kernel) (vx_c (va_Nw.use rfl hKX.2.2.2.2.2.1) (vx_c (va_Nw.use rfl hKX.2.2.2.2.2.2.1) (vx_c (va_Nw.use rfl hKX.2.2.2.2.2.2.2.1) (vx_c (va_Nw.use rfl hKX.2.2.2.2.2.2.2.2) vx_n))))
