/-! contracts of the reference's methods: what a method answers, and the state behind it, are E.1 and E.2 -/
def mc_i (l : Launch) (y : MethodName) (ws : List Cond) (fr lo : Nat) (D : va_G) (b0 : Nat) (Pc : Nat → Nat → Option va_E) (cA : Nat → ClassId) (ad : Nat → Nat → Nat) (m : qM) (av : List Value) (E : Int32 × qM) : Prop :=
  Met l y ws { frames := fr, cells := 0, slots := 0, locals := lo } (va_Pc av (WP D b0 Pc cA ad m)) (va_Qi (fun r (_ : Unit) => r = E.1) (fun _ U => WP D b0 Pc cA ad E.2 U) (wA b0)) 0 0 (wA b0)
def mc_l (l : Launch) (y : MethodName) (ws : List Cond) (fr lo : Nat) (D : va_G) (b0 : Nat) (Pc : Nat → Nat → Option va_E) (cA : Nat → ClassId) (ad : Nat → Nat → Nat) (m : qM) (av : List Value) (E : Int64 × qM) : Prop :=
  Met l y ws { frames := fr, cells := 0, slots := 0, locals := lo } (va_Pc av (WP D b0 Pc cA ad m)) (va_Ql (fun r (_ : Unit) => r = E.1) (fun _ U => WP D b0 Pc cA ad E.2 U) (wA b0)) 0 0 (wA b0)
def mc_v (l : Launch) (y : MethodName) (ws : List Cond) (fr lo : Nat) (D : va_G) (b0 : Nat) (Pc : Nat → Nat → Option va_E) (cA : Nat → ClassId) (ad : Nat → Nat → Nat) (m : qM) (av : List Value) (E : qM) : Prop :=
  Met l y ws { frames := fr, cells := 0, slots := 0, locals := lo } (va_Pc av (WP D b0 Pc cA ad m)) (va_Qv (fun (_ : Unit) => True) (fun _ U => WP D b0 Pc cA ad E U) (wA b0)) 0 0 (wA b0)
theorem WP_blind {D : va_G} {b0 : Nat} {Pc : Nat → Nat → Option va_E} {cA : Nat → ClassId} {ad : Nat → Nat → Nat} {m : qM} {av : List Value} : FrameBlind (va_Pc av (WP D b0 Pc cA ad m)) := fun a U g mk q => by
  obtain ⟨q0, qK, qW⟩ := q
  exact ⟨q0, va_K.moved (u := U) (U := U.calling g mk a) (Vm.Alike.refl U.vm) qK, qW⟩
section MCO
variable {l : Launch} {y : MethodName} {ws ws' : List Cond} {fr lo : Nat} {D : va_G} {b0 : Nat} {Pc : Nat → Nat → Option va_E} {cA : Nat → ClassId} {ad : Nat → Nat → Nat} {q : qM} {av : List Value} {cc : ByteArray} {maxL : Nat} {ret : Option FieldType} {Qc : Array Value → State → Outcome → State → Prop}
/-- how a contract's proof begins -/
theorem mc_of (hy : plainName y.cls = true) (hw : ws = Cond.code y cc maxL ret :: ws') (hl : (lg_sl av).length ≤ maxL)
    (body : ∀ (p : Program) (e : Env) (s : State) (m : MethodId) (below : List Frame) (meth : Method) (c : Code), p.tables.exec = Jvm.exec → c.code = cc → c.maxLocals = maxL → meth.sig.returnType = ret → meth.locks = false → s.vm.findClass y.cls = some m.cls → (∀ w ∈ ws, w.before av.toArray s = true) → va_K D vwCl (wd_tys cA) s → wd D (wA b0) (PW Pc cA ad q) ad s.heap →
      ∀ ls : Array Slot, lv_has ls maxL (lv_args 0 av) → W p l e { frames := fr, cells := 0, slots := 0, locals := lo } s m av.toArray below meth c s.heap [] 0 0 (MQ below Qc av.toArray s 0 0 (wA b0)) (F0 m 0 ls [])) :
    Met l y ws { frames := fr, cells := 0, slots := 0, locals := lo } (va_Pc av (WP D b0 Pc cA ad q)) Qc 0 0 (wA b0) := by
  refine Met.ofW (cc := cc) (maxL := maxL) (ret := ret) hy hw ?_
  intro p e s m args below meth c s₁ B hml hv
  obtain ⟨rfl, hK, hW⟩ := hv
  have hts := atoms_spec (ws := ws) B.pre
  have hl2 := lv_entry av hl
  rw [lg_entry_eq]
  exact body p e s m below meth c B.exec B.bytes hml B.returns B.notSynchronized (findClass_of_methodNamed B.named) hts hK hW _ hl2
end MCO
section MCR
variable {p : Program} {l : Launch} {e : Env} {R : Room} {s : State} {m : MethodId} {args : Array Value} {below : List Frame} {meth : Method} {c : Code} {H : Heap} {locs : List Loc} {cells slots : Nat} {Q : State → Prop}
variable {cc : ByteArray} {pc : Nat} {ls : Array Slot} {rest st : List Value} {D : va_G} {b0 : Nat} {Pc : Nat → Nat → Option va_E} {cA : Nat → ClassId} {ad : Nat → Nat → Nat} {q q' : qM} {Ts : List Cond} {index nL : Nat}
/-- the ends -/
theorem mm_iret {E : Int32 × qM} {v : Int32} (hx : p.tables.exec = Jvm.exec) (hb : c.code = cc) (hr : meth.sig.returnType = some .int) (hlk : meth.locks = false) (hK : va_K D vwCl (wd_tys cA) s) (hW : wd D (wA b0) (PW Pc cA ad q) ad H) (hS : va_S (wA b0) s.heap H locs) (hE : (v, q) = E) (hdg : decode cc pc = .ok (.ireturn, 1)) :
    W p l e R s m args below meth c H locs 0 0 (MQ below (va_Qi (fun r (_ : Unit) => r = E.1) (fun _ U => WP D b0 Pc cA ad E.2 U) (wA b0)) args s 0 0 (wA b0)) (F0 m pc ls [.int v]) := by
  subst hE
  exact W.iret hx hb hr (fun t ht hw => ⟨⟨v, (), rfl, rfl, va_K.moved hw.alike hK, by rw [ht]; exact hW⟩, hS.F ht⟩) hS.2.2 hdg hlk
theorem mm_zret {E : Int32 × qM} {v : Int32} (hx : p.tables.exec = Jvm.exec) (hb : c.code = cc) (hr : meth.sig.returnType = some .boolean) (hlk : meth.locks = false) (hK : va_K D vwCl (wd_tys cA) s) (hW : wd D (wA b0) (PW Pc cA ad q) ad H) (hS : va_S (wA b0) s.heap H locs) (hn : narrow .boolean (.int v) = .int v) (hE : (v, q) = E) (hdg : decode cc pc = .ok (.ireturn, 1)) :
    W p l e R s m args below meth c H locs 0 0 (MQ below (va_Qi (fun r (_ : Unit) => r = E.1) (fun _ U => WP D b0 Pc cA ad E.2 U) (wA b0)) args s 0 0 (wA b0)) (F0 m pc ls [.int v]) := by
  subst hE
  exact W.zret hx hb hr hn (fun t ht hw => ⟨⟨v, (), rfl, rfl, va_K.moved hw.alike hK, by rw [ht]; exact hW⟩, hS.F ht⟩) hS.2.2 hdg hlk
theorem mm_lret {E : Int64 × qM} {v : Int64} (hx : p.tables.exec = Jvm.exec) (hb : c.code = cc) (hr : meth.sig.returnType = some .long) (hlk : meth.locks = false) (hK : va_K D vwCl (wd_tys cA) s) (hW : wd D (wA b0) (PW Pc cA ad q) ad H) (hS : va_S (wA b0) s.heap H locs) (hE : (v, q) = E) (hdg : decode cc pc = .ok (.lreturn, 1)) :
    W p l e R s m args below meth c H locs 0 0 (MQ below (va_Ql (fun r (_ : Unit) => r = E.1) (fun _ U => WP D b0 Pc cA ad E.2 U) (wA b0)) args s 0 0 (wA b0)) (F0 m pc ls [.long v]) := by
  subst hE
  exact W.lret hx hb hr (fun t ht hw => ⟨⟨v, (), rfl, rfl, va_K.moved hw.alike hK, by rw [ht]; exact hW⟩, hS.F ht⟩) hS.2.2 hdg hlk
theorem mm_vret {E : qM} (hx : p.tables.exec = Jvm.exec) (hb : c.code = cc) (hr : meth.sig.returnType = none) (hlk : meth.locks = false) (hK : va_K D vwCl (wd_tys cA) s) (hW : wd D (wA b0) (PW Pc cA ad q) ad H) (hS : va_S (wA b0) s.heap H locs) (hE : q = E) (hdg : decode cc pc = .ok (.return_, 1)) :
    W p l e R s m args below meth c H locs 0 0 (MQ below (va_Qv (fun (_ : Unit) => True) (fun _ U => WP D b0 Pc cA ad E U) (wA b0)) args s 0 0 (wA b0)) (F0 m pc ls []) := by
  subst hE
  exact W.vret hx hb hr (fun t ht hw => ⟨⟨(), rfl, trivial, va_K.moved hw.alike hK, by rw [ht]; exact hW⟩, hS.F ht⟩) hS.2.2 hdg hlk
/-- the object's fields -/
theorem mm_get (hx : p.tables.exec = Jvm.exec) (hb : c.code = cc) (hts : ∀ w ∈ Ts, w.before args s = true) (hin : ∀ w ∈ wsX80, w ∈ Ts) (hown : s.vm.findClass RX8 = some m.cls) (hK : va_K D vwCl (wd_tys cA) s) (hW : wd D (wA b0) (PW Pc cA ad q) ad H) (f : Nat) (hf : f < 34) (hlink : (Cond.fieldLink RX8 index RX8 (TX8 f).2.1 (TX8 f).2.2.1) ∈ Ts) (h1 : (TX8 f).1 = RX8) {v : Value} (hv : (wm_fs ad q)[f]? = some v) (hdg : decode cc pc = .ok (.getfield index, 3))
    (kk : W p l e R s m args below meth c H locs cells slots Q (F0 m (pc + 3) ls (v :: rest))) : W p l e R s m args below meth c H locs cells slots Q (F0 m pc ls (.ref (ad 20 0) :: rest)) :=
  va_get (D := D) (ci := 7) (C := RX8) (T := TX8) (N := 34) hx hb hts hin hown hK (wd_one hW 20 0 PW_obj) 0 rfl rfl f hf (hts _ hlink) (fun _ h9 => by rw [h1] at h9; exact h9) hv hdg kk
theorem mm_gets (hx : p.tables.exec = Jvm.exec) (hb : c.code = cc) (hts : ∀ w ∈ Ts, w.before args s = true) (hin : ∀ w ∈ wsX80, w ∈ Ts) (hown : s.vm.findClass RX8 = some m.cls) (hK : va_K D vwCl (wd_tys cA) s) (hW : wd D (wA b0) (PW Pc cA ad q) ad H) (f : Nat) (hf : f < 34) (hlink : (Cond.fieldLink RX8 index RX8 (TX8 f).2.1 (TX8 f).2.2.1) ∈ Ts) (h1 : (TX8 f).1 = RX8) {v : Int32} (hf2 : (wm_fs ad q)[f]? = some (.int (q.1 f 0))) (hv : q.1 f 0 = v) (hdg : decode cc pc = .ok (.getfield index, 3))
    (kk : W p l e R s m args below meth c H locs cells slots Q (F0 m (pc + 3) ls (.int v :: rest))) : W p l e R s m args below meth c H locs cells slots Q (F0 m pc ls (.ref (ad 20 0) :: rest)) :=
  va_get (D := D) (ci := 7) (C := RX8) (T := TX8) (N := 34) hx hb hts hin hown hK (wd_one hW 20 0 PW_obj) 0 rfl rfl f hf (hts _ hlink) (fun _ h9 => by rw [h1] at h9; exact h9) hf2 hdg (by rw [hv]; exact kk)
theorem mm_put (hx : p.tables.exec = Jvm.exec) (hb : c.code = cc) (hts : ∀ w ∈ Ts, w.before args s = true) (hin : ∀ w ∈ wsX80, w ∈ Ts) (hown : s.vm.findClass RX8 = some m.cls) (hK : va_K D vwCl (wd_tys cA) s) (hW : wd D (wA b0) (PW Pc cA ad q) ad H) (hS : va_S (wA b0) s.heap H locs) (f : Nat) (hf : f < 34) (hlink : (Cond.fieldLink RX8 index RX8 (TX8 f).2.1 (TX8 f).2.2.1) ∈ Ts) (h1 : (TX8 f).1 = RX8) (hfin : (TX8 f).2.2.2 = false) (hd : parseFieldDescriptor (TX8 f).2.2.1 = some .int) (hk : (wm_kind f).1 = 0) {v : Int32} (hv : (wm_fs ad q).set f (.int v) = wm_fs ad (mq_i q f 0 v)) (hdg : decode cc pc = .ok (.putfield index, 3))
    (kk : ∀ (H1 : Heap) (locs1 : List Loc), wd D (wA b0) (PW Pc cA ad (mq_i q f 0 v)) ad H1 → va_S (wA b0) s.heap H1 locs1 → W p l e R s m args below meth c H1 locs1 cells slots Q (F0 m (pc + 3) ls rest)) : W p l e R s m args below meth c H locs cells slots Q (F0 m pc ls (.int v :: .ref (ad 20 0) :: rest)) :=
  wd_put (D := D) (ci := 7) (C := RX8) (T := TX8) (N := 34) hx hb hts hin tyX8 tyX8_ok nmX8 hown hK hW hS 20 0 PW_obj rfl f hf (hts _ hlink) (fun _ h9 => by rw [h1] at h9; exact h9) hfin hd rfl rfl (Nat.lt_of_lt_of_eq hf rfl) (by rw [PW_obj, hv]) (PW_s2 hk) hdg kk
/-- the arrays -/
theorem mm_iald (hx : p.tables.exec = Jvm.exec) (hb : c.code = cc) (hK : va_K D vwCl (wd_tys cA) s) (hW : wd D (wA b0) (PW Pc cA ad q) ad H) (f n : Nat) (hf : wm_kind f = (1, n)) {i : Int32} {v : Int32} (hin : vp_in i n) (hv : q.1 f i.toNatClampNeg = v) (hdg : decode cc pc = .ok (.iaload, 1))
    (kk : W p l e R s m args below meth c H locs cells slots Q (F0 m (pc + 1) ls (.int v :: rest))) : W p l e R s m args below meth c H locs cells slots Q (F0 m pc ls (.int i :: .ref (ad 21 f) :: rest)) :=
  va_iald hx hb hK (wd_one hW 21 f (PW_int f n hf)) 0 0 rfl rfl hin hdg (by rw [hv]; exact kk)
theorem mm_zald (hx : p.tables.exec = Jvm.exec) (hb : c.code = cc) (hK : va_K D vwCl (wd_tys cA) s) (hW : wd D (wA b0) (PW Pc cA ad q) ad H) (f n : Nat) (hf : wm_kind f = (2, n)) {i : Int32} {v : Int32} (hin : vp_in i n) (hv : q.1 f i.toNatClampNeg = v) (hdg : decode cc pc = .ok (.baload, 1))
    (kk : W p l e R s m args below meth c H locs cells slots Q (F0 m (pc + 1) ls (.int v :: rest))) : W p l e R s m args below meth c H locs cells slots Q (F0 m pc ls (.int i :: .ref (ad 21 f) :: rest)) :=
  va_zald hx hb hK (wd_one hW 21 f (PW_boo f n hf)) 0 2 rfl rfl hin hdg (by rw [hv]; exact kk)
theorem mm_lald (hx : p.tables.exec = Jvm.exec) (hb : c.code = cc) (hK : va_K D vwCl (wd_tys cA) s) (hW : wd D (wA b0) (PW Pc cA ad q) ad H) (f n : Nat) (hf : wm_kind f = (3, n)) {i : Int32} {v : Int64} (hin : vp_in i n) (hv : q.2 f i.toNatClampNeg = v) (hdg : decode cc pc = .ok (.laload, 1))
    (kk : W p l e R s m args below meth c H locs cells slots Q (F0 m (pc + 1) ls (.long v :: rest))) : W p l e R s m args below meth c H locs cells slots Q (F0 m pc ls (.int i :: .ref (ad 21 f) :: rest)) :=
  va_lald hx hb hK (wd_one hW 21 f (PW_lon f n hf)) 0 1 rfl rfl hin hdg (by rw [hv]; exact kk)
theorem mm_ns {f n k : Nat} (h : wm_kind f = (k + 1, n)) : ¬ (f = 0 ∨ f = 2 ∨ f = 3 ∨ f = 12 ∨ f = 25 ∨ f = 31) := by
  intro q
  rcases q with rfl | rfl | rfl | rfl | rfl | rfl <;> · simp [wm_kind] at h
theorem mm_iast (hx : p.tables.exec = Jvm.exec) (hb : c.code = cc) (hK : va_K D vwCl (wd_tys cA) s) (hW : wd D (wA b0) (PW Pc cA ad q) ad H) (hS : va_S (wA b0) s.heap H locs) (f n : Nat) (hf : wm_kind f = (1, n)) {i v : Int32} (hin : vp_in i n) (hdg : decode cc pc = .ok (.iastore, 1))
    (kk : ∀ (H1 : Heap) (locs1 : List Loc), wd D (wA b0) (PW Pc cA ad (mq_i q f i.toNatClampNeg v)) ad H1 → va_S (wA b0) s.heap H1 locs1 → W p l e R s m args below meth c H1 locs1 cells slots Q (F0 m (pc + 1) ls rest)) : W p l e R s m args below meth c H locs cells slots Q (F0 m pc ls (.int v :: .int i :: .ref (ad 21 f) :: rest)) :=
  wd_iast hx hb hK hW hS 21 f 0 (PW_int f n hf) rfl hin (by rw [PW_int f n hf, mq_i_self]) (PW_i2 (mm_ns hf)) hdg kk
theorem mm_zast (hx : p.tables.exec = Jvm.exec) (hb : c.code = cc) (hK : va_K D vwCl (wd_tys cA) s) (hW : wd D (wA b0) (PW Pc cA ad q) ad H) (hS : va_S (wA b0) s.heap H locs) (f n : Nat) (hf : wm_kind f = (2, n)) {i v : Int32} (hv : vp_nar .boolean v = v) (hin : vp_in i n) (hdg : decode cc pc = .ok (.bastore, 1))
    (kk : ∀ (H1 : Heap) (locs1 : List Loc), wd D (wA b0) (PW Pc cA ad (mq_i q f i.toNatClampNeg v)) ad H1 → va_S (wA b0) s.heap H1 locs1 → W p l e R s m args below meth c H1 locs1 cells slots Q (F0 m (pc + 1) ls rest)) : W p l e R s m args below meth c H locs cells slots Q (F0 m pc ls (.int v :: .int i :: .ref (ad 21 f) :: rest)) :=
  wd_zast hx hb hK hW hS 21 f 2 (PW_boo f n hf) rfl hv hin (by rw [PW_boo f n hf, mq_i_self]) (PW_i2 (mm_ns hf)) hdg kk
theorem mm_last (hx : p.tables.exec = Jvm.exec) (hb : c.code = cc) (hK : va_K D vwCl (wd_tys cA) s) (hW : wd D (wA b0) (PW Pc cA ad q) ad H) (hS : va_S (wA b0) s.heap H locs) (f n : Nat) (hf : wm_kind f = (3, n)) {i : Int32} {v : Int64} (hin : vp_in i n) (hdg : decode cc pc = .ok (.lastore, 1))
    (kk : ∀ (H1 : Heap) (locs1 : List Loc), wd D (wA b0) (PW Pc cA ad (mq_l q f i.toNatClampNeg v)) ad H1 → va_S (wA b0) s.heap H1 locs1 → W p l e R s m args below meth c H1 locs1 cells slots Q (F0 m (pc + 1) ls rest)) : W p l e R s m args below meth c H locs cells slots Q (F0 m pc ls (.long v :: .int i :: .ref (ad 21 f) :: rest)) :=
  wd_last hx hb hK hW hS 21 f 1 (PW_lon f n hf) rfl hin (by rw [PW_lon f n hf, mq_l_self]) PW_l2 hdg kk
/-- calls of the reference's methods -/
theorem mm_recv (hK : va_K D vwCl (wd_tys cA) s) (hW : wd D (wA b0) (PW Pc cA ad q) ad H) : ∃ cellB : Cell, H[ad 20 0]? = some cellB ∧ cellB.vm.isStatics = false ∧ s.vm.findClass RX8 = some cellB.cls :=
  va_recv hK (wd_one hW 20 0 PW_obj) (ci := 7) (q := (RX8, TX8, 34)) (q0 := 0) rfl rfl
theorem mm_preV {As : List Value} (hK : va_K D vwCl (wd_tys cA) s) (hW : wd D (wA b0) (PW Pc cA ad q) ad H) : PreV s H RX8 (ad 20 0) (va_Pc (.ref (ad 20 0) :: As) (WP D b0 Pc cA ad q)) As :=
  ⟨WP_blind, mm_recv hK hW, fun U hU hw => ⟨rfl, va_K.moved hw.alike hK, by rw [hU]; exact hW⟩⟩
theorem mm_preS {As : List Value} (hK : va_K D vwCl (wd_tys cA) s) (hW : wd D (wA b0) (PW Pc cA ad q) ad H) : PreS s H (va_Pc As (WP D b0 Pc cA ad q)) As :=
  ⟨WP_blind, fun U hU hw => ⟨rfl, va_K.moved hw.alike hK, by rw [hU]; exact hW⟩⟩
variable {y : MethodName} {ws ws' : List Cond} {fr lo maxL n : Nat} {bytes : ByteArray} {ret : Option FieldType} {As : List Value} {own : String}
theorem mm_callVi {r : Int32} {q2 : qM} (S : CallFix p m c cc nL s args Ts own) (hM : mc_i l y ws fr lo D b0 Pc cA ad q (.ref (ad 20 0) :: As) (r, q2)) (hT : GoodIn Ts (wsV own index RX8 y ws)) (hw : ws = Cond.code y bytes maxL ret :: ws') (hd : y.cls = RX8 ∧ y.cls ≠ "java/lang/invoke/MethodHandle" ∧ y.cls ≠ "java/lang/invoke/VarHandle" ∧ (parseMethodDescriptor y.desc).map (fun d => d.parameters.length) = some n) (hn : As.length = n) (hR : fr + 1 ≤ R.frames ∧ 8 + (maxL + 11) + lo ≤ R.locals) (hf : cells ≤ R.cells ∧ slots ≤ R.slots)
    (hK : va_K D vwCl (wd_tys cA) s) (hW : wd D (wA b0) (PW Pc cA ad q) ad H) (hS : va_S (wA b0) s.heap H locs) (hsz : ls.size = nL) (hst : st = As.reverse ++ .ref (ad 20 0) :: rest) (hrm : (rest.map fun v => v.category).sum ≤ 8) (hdg : decode cc pc = .ok (.invokevirtual index, 3))
    (kk : ∀ (H1 : Heap) (locs1 : List Loc), wd D (wA b0) (PW Pc cA ad q2) ad H1 → va_S (wA b0) s.heap H1 locs1 → W p l e R s m args below meth c H1 locs1 cells slots Q (F0 m (pc + 3) ls (.int r :: rest))) : W p l e R s m args below meth c H locs cells slots Q (F0 m pc ls st) := by
  refine va_calli (va_runV (As := As) (rest := rest) S hM (cwV n S.2.2.2.2 hT hw rfl rfl hd hR) (mm_preV hK hW) rfl hn hsz hst (lv_room hrm) hdg hf) hS (fun q _ h => h) (fun q h => h) (fun r2 u t H1 locs1 ht hvm hp hB _ _ hS1 => ?_)
  subst hp
  exact kk H1 locs1 (by rw [← ht]; exact hB.2) hS1
theorem mm_callVl {r : Int64} {q2 : qM} (S : CallFix p m c cc nL s args Ts own) (hM : mc_l l y ws fr lo D b0 Pc cA ad q (.ref (ad 20 0) :: As) (r, q2)) (hT : GoodIn Ts (wsV own index RX8 y ws)) (hw : ws = Cond.code y bytes maxL ret :: ws') (hd : y.cls = RX8 ∧ y.cls ≠ "java/lang/invoke/MethodHandle" ∧ y.cls ≠ "java/lang/invoke/VarHandle" ∧ (parseMethodDescriptor y.desc).map (fun d => d.parameters.length) = some n) (hn : As.length = n) (hR : fr + 1 ≤ R.frames ∧ 8 + (maxL + 11) + lo ≤ R.locals) (hf : cells ≤ R.cells ∧ slots ≤ R.slots)
    (hK : va_K D vwCl (wd_tys cA) s) (hW : wd D (wA b0) (PW Pc cA ad q) ad H) (hS : va_S (wA b0) s.heap H locs) (hsz : ls.size = nL) (hst : st = As.reverse ++ .ref (ad 20 0) :: rest) (hrm : (rest.map fun v => v.category).sum ≤ 8) (hdg : decode cc pc = .ok (.invokevirtual index, 3))
    (kk : ∀ (H1 : Heap) (locs1 : List Loc), wd D (wA b0) (PW Pc cA ad q2) ad H1 → va_S (wA b0) s.heap H1 locs1 → W p l e R s m args below meth c H1 locs1 cells slots Q (F0 m (pc + 3) ls (.long r :: rest))) : W p l e R s m args below meth c H locs cells slots Q (F0 m pc ls st) := by
  refine va_calll (va_runV (As := As) (rest := rest) S hM (cwV n S.2.2.2.2 hT hw rfl rfl hd hR) (mm_preV hK hW) rfl hn hsz hst (lv_room hrm) hdg hf) hS (fun q _ h => h) (fun q h => h) (fun r2 u t H1 locs1 ht hvm hp hB _ _ hS1 => ?_)
  subst hp
  exact kk H1 locs1 (by rw [← ht]; exact hB.2) hS1
theorem mm_callVv {q2 : qM} (S : CallFix p m c cc nL s args Ts own) (hM : mc_v l y ws fr lo D b0 Pc cA ad q (.ref (ad 20 0) :: As) q2) (hT : GoodIn Ts (wsV own index RX8 y ws)) (hw : ws = Cond.code y bytes maxL ret :: ws') (hd : y.cls = RX8 ∧ y.cls ≠ "java/lang/invoke/MethodHandle" ∧ y.cls ≠ "java/lang/invoke/VarHandle" ∧ (parseMethodDescriptor y.desc).map (fun d => d.parameters.length) = some n) (hn : As.length = n) (hR : fr + 1 ≤ R.frames ∧ 8 + (maxL + 11) + lo ≤ R.locals) (hf : cells ≤ R.cells ∧ slots ≤ R.slots)
    (hK : va_K D vwCl (wd_tys cA) s) (hW : wd D (wA b0) (PW Pc cA ad q) ad H) (hS : va_S (wA b0) s.heap H locs) (hsz : ls.size = nL) (hst : st = As.reverse ++ .ref (ad 20 0) :: rest) (hrm : (rest.map fun v => v.category).sum ≤ 8) (hdg : decode cc pc = .ok (.invokevirtual index, 3))
    (kk : ∀ (H1 : Heap) (locs1 : List Loc), wd D (wA b0) (PW Pc cA ad q2) ad H1 → va_S (wA b0) s.heap H1 locs1 → W p l e R s m args below meth c H1 locs1 cells slots Q (F0 m (pc + 3) ls rest)) : W p l e R s m args below meth c H locs cells slots Q (F0 m pc ls st) := by
  refine va_callv (va_runV (As := As) (rest := rest) S hM (cwV n S.2.2.2.2 hT hw rfl rfl hd hR) (mm_preV hK hW) rfl hn hsz hst (lv_room hrm) hdg hf) hS (fun q _ h => h) (fun q h => h) (fun u t H1 locs1 ht hvm hp hB _ _ hS1 => ?_)
  exact kk H1 locs1 (by rw [← ht]; exact hB.2) hS1
theorem mm_callSi {r : Int32} {q2 : qM} (S : CallFix p m c cc nL s args Ts own) (hM : mc_i l y ws fr lo D b0 Pc cA ad q As (r, q2)) (hT : GoodIn Ts (va_wsS own index y ws)) (hw : ws = Cond.code y bytes maxL ret :: ws') (hd : y.cls ≠ "java/lang/invoke/MethodHandle" ∧ y.cls ≠ "java/lang/invoke/VarHandle" ∧ (parseMethodDescriptor y.desc).map (fun d => d.parameters.length) = some n) (hn : As.length = n) (hR : fr + 1 ≤ R.frames ∧ 8 + (maxL + 11) + lo ≤ R.locals) (hf : cells ≤ R.cells ∧ slots ≤ R.slots)
    (hK : va_K D vwCl (wd_tys cA) s) (hW : wd D (wA b0) (PW Pc cA ad q) ad H) (hS : va_S (wA b0) s.heap H locs) (hsz : ls.size = nL) (hst : st = As.reverse ++ rest) (hrm : (rest.map fun v => v.category).sum ≤ 8) (hdg : decode cc pc = .ok (.invokestatic index, 3))
    (kk : ∀ (H1 : Heap) (locs1 : List Loc), wd D (wA b0) (PW Pc cA ad q2) ad H1 → va_S (wA b0) s.heap H1 locs1 → W p l e R s m args below meth c H1 locs1 cells slots Q (F0 m (pc + 3) ls (.int r :: rest))) : W p l e R s m args below meth c H locs cells slots Q (F0 m pc ls st) := by
  refine va_calli (va_runS (As := As) (rest := rest) S hM (va_cwS n S.2.2.2.2 hT hw rfl rfl hd hR) (mm_preS hK hW) rfl hn hsz hst (lv_room hrm) hdg hf) hS (fun q _ h => h) (fun q h => h) (fun r2 u t H1 locs1 ht hvm hp hB _ _ hS1 => ?_)
  subst hp
  exact kk H1 locs1 (by rw [← ht]; exact hB.2) hS1
theorem mm_callSl {r : Int64} {q2 : qM} (S : CallFix p m c cc nL s args Ts own) (hM : mc_l l y ws fr lo D b0 Pc cA ad q As (r, q2)) (hT : GoodIn Ts (va_wsS own index y ws)) (hw : ws = Cond.code y bytes maxL ret :: ws') (hd : y.cls ≠ "java/lang/invoke/MethodHandle" ∧ y.cls ≠ "java/lang/invoke/VarHandle" ∧ (parseMethodDescriptor y.desc).map (fun d => d.parameters.length) = some n) (hn : As.length = n) (hR : fr + 1 ≤ R.frames ∧ 8 + (maxL + 11) + lo ≤ R.locals) (hf : cells ≤ R.cells ∧ slots ≤ R.slots)
    (hK : va_K D vwCl (wd_tys cA) s) (hW : wd D (wA b0) (PW Pc cA ad q) ad H) (hS : va_S (wA b0) s.heap H locs) (hsz : ls.size = nL) (hst : st = As.reverse ++ rest) (hrm : (rest.map fun v => v.category).sum ≤ 8) (hdg : decode cc pc = .ok (.invokestatic index, 3))
    (kk : ∀ (H1 : Heap) (locs1 : List Loc), wd D (wA b0) (PW Pc cA ad q2) ad H1 → va_S (wA b0) s.heap H1 locs1 → W p l e R s m args below meth c H1 locs1 cells slots Q (F0 m (pc + 3) ls (.long r :: rest))) : W p l e R s m args below meth c H locs cells slots Q (F0 m pc ls st) := by
  refine va_calll (va_runS (As := As) (rest := rest) S hM (va_cwS n S.2.2.2.2 hT hw rfl rfl hd hR) (mm_preS hK hW) rfl hn hsz hst (lv_room hrm) hdg hf) hS (fun q _ h => h) (fun q h => h) (fun r2 u t H1 locs1 ht hvm hp hB _ _ hS1 => ?_)
  subst hp
  exact kk H1 locs1 (by rw [← ht]; exact hB.2) hS1
end MCR
