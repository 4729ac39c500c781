/-! laid by wip/whole/tools/lawrap.py: the law's methods that make one call and say what it threw -/
def KN (U : State) : Prop := va_Nc "java/lang/IllegalArgumentException" "java/lang/IndexOutOfBoundsException" U ∧ va_Nc "java/lang/IllegalStateException" "java/lang/IndexOutOfBoundsException" U ∧ va_Nc "java/lang/IllegalStateException" "java/lang/IllegalArgumentException" U
theorem KN.moved {u U : State} (hvm : u.vm.Alike U.vm) (h : KN u) : KN U := ⟨va_Nc.moved hvm h.1, va_Nc.moved hvm h.2.1, va_Nc.moved hvm h.2.2⟩
def WY (D : va_G) (b0 : Nat) (cA : Nat → ClassId) (ad : Nat → Nat → Nat) (m : qM) (c : qC) (U : State) : Prop := WX D b0 cA ad m c U ∧ KN U
theorem WY_blind {D : va_G} {b0 : Nat} {cA : Nat → ClassId} {ad : Nat → Nat → Nat} {m : qM} {c : qC} {av : List Value} : FrameBlind (va_Pc av (WY D b0 cA ad m c)) := fun a U g mk q => by
  obtain ⟨q0, ⟨⟨⟨qK, qW⟩, qD⟩, qX, qz⟩, qN⟩ := q
  exact ⟨q0, ⟨⟨⟨va_K.moved (u := U) (U := U.calling g mk a) (Vm.Alike.refl U.vm) qK, qW⟩, qD.blind⟩, qX.blind, qz⟩, qN.moved (U := U.calling g mk a) (Vm.Alike.refl U.vm)⟩
def zV (k : Int32) (z2 q : qC) : qC := if k = 0 then z2 else q
def zL (k : Int32) (r : Int64) (z2 q : qC) : qC := if k = 0 then cq_l z2 22 0 0 r else q
/-- a wrapper answers k, and leaves the state st -/
def wc_ (l : Launch) (y : MethodName) (ws : List Cond) (D : va_G) (b0 : Nat) (cA : Nat → ClassId) (ad : Nat → Nat → Nat) (m : qM) (c : qC) (av : List Value) (k : Int32) (st : qC) : Prop :=
  Met l y ws { frames := 9, cells := 8, slots := 50, locals := 200 } (va_Pc av (WY D b0 cA ad m c)) (va_Qi (fun r (u : Nat → Nat → Nat) => r = k ∧ adk ad u) (fun u U => WE D b0 cA u m st U) (wA b0)) 8 50 (wA b0)
section LWO
variable {l : Launch} {y : MethodName} {ws ws' : List Cond} {D : va_G} {b0 : Nat} {cA : Nat → ClassId} {ad : Nat → Nat → Nat} {q : qM} {z : qC} {av : List Value} {cc : ByteArray} {maxL : Nat} {ret : Option FieldType} {Qc : Array Value → State → Outcome → State → Prop} {hh : List (Nat × Nat × Nat × Nat)}
theorem lr_of (hy : plainName y.cls = true) (hw : ws = Cond.codeWith y cc maxL ret hh :: ws') (hl : (lg_sl av).length ≤ maxL)
    (body : ∀ (p : Program) (e : Env) (s : State) (m : MethodId) (below : List Frame) (meth : Method) (c : Code), p.tables.exec = Jvm.exec → c.code = cc → c.maxLocals = maxL → meth.sig.returnType = ret → meth.locks = false → s.vm.findClass y.cls = some m.cls → (∀ w ∈ ws, w.before av.toArray s = true) → va_K D vwCl (wd_tys cA) s → wd D (wA b0) (PO cA ad z q) ad s.heap → KD (wA b0) s → KX (wA b0) s → KN s → b0 ≤ s.heap.size → c.exceptionTable.toList = tableOf hh →
      ∀ ls : Array Slot, lv_has ls maxL (lv_args 0 av) → W p l e { frames := 9, cells := 8, slots := 50, locals := 200 } s m av.toArray below meth c s.heap [] 0 0 (MQ below Qc av.toArray s 8 50 (wA b0)) (F0 m 0 ls [])) :
    Met l y ws { frames := 9, cells := 8, slots := 50, locals := 200 } (va_Pc av (WY D b0 cA ad q z)) Qc 8 50 (wA b0) := by
  refine va_MetW (cc := cc) (maxL := maxL) (ret := ret) (hh := hh) hy hw ?_
  intro p e s m args below meth c s₁ B hml hv
  obtain ⟨rfl, ⟨⟨⟨hK, hW⟩, hKD⟩, hKX, hz⟩, hKN⟩ := hv
  have hts := atoms_spec (ws := ws) B.pre
  have hl2 := lv_entry av hl
  have hxt := vx_table (x := y) B (hts _ (by rw [hw]; exact List.mem_cons_self))
  rw [lg_entry_eq]
  exact body p e s m below meth c B.exec B.bytes hml B.returns B.notSynchronized (findClass_of_methodNamed B.named) hts hK hW hKD hKX hKN hz hxt _ hl2
end LWO
section LWR
variable {p : Program} {l : Launch} {e : Env} {R : Room} {s : State} {m : MethodId} {args : Array Value} {below : List Frame} {meth : Method} {c : Code} {H : Heap} {locs : List Loc} {cells slots : Nat} {Q : State → Prop}
variable {cc : ByteArray} {pc : Nat} {ls : Array Slot} {rest st : List Value} {D : va_G} {b0 : Nat} {cA : Nat → ClassId} {ad ad0 : Nat → Nat → Nat} {q : qM} {z z2 : qC} {Ts : List Cond} {index nL : Nat}
theorem lr_ret {k v : Int32} {zz : qC} (hx : p.tables.exec = Jvm.exec) (hb : c.code = cc) (hr : meth.sig.returnType = some .int) (hlk : meth.locks = false) (hK : va_K D vwCl (wd_tys cA) s) (hW : wd D (wA b0) (PO cA ad z q) ad H) (hak : adk ad0 ad) (hS : va_S (wA b0) s.heap H locs) (hc : cells ≤ 8) (hs : slots ≤ 50) (hE : v = k) (hst : z = zz) (hdg : decode cc pc = .ok (.ireturn, 1)) :
    W p l e R s m args below meth c H locs cells slots (MQ below (va_Qi (fun r (u : Nat → Nat → Nat) => r = k ∧ adk ad0 u) (fun u U => WE D b0 cA u q zz U) (wA b0)) args s 8 50 (wA b0)) (F0 m pc ls [.int v]) := by
  subst hE
  subst hst
  exact W.widen (k := 8) (n := 50) hc hs (W.iret hx hb hr (fun t ht hw => ⟨⟨v, ad, rfl, ⟨rfl, hak⟩, va_K.moved hw.alike hK, by rw [ht]; exact hW⟩, hS.F ht⟩) hS.2.2 hdg hlk)
theorem lr_e0 : Int32.toNatClampNeg 0 = 0 := by decide
theorem lr_last {a : Nat} {v : Int64} (ha : a = ad 22 0) (hx : p.tables.exec = Jvm.exec) (hb : c.code = cc) (hK : va_K D vwCl (wd_tys cA) s) (hW : wd D (wA b0) (PO cA ad z q) ad H) (hS : va_S (wA b0) s.heap H locs) (hdg : decode cc pc = .ok (.lastore, 1))
    (kk : ∀ (H1 : Heap) (locs1 : List Loc), wd D (wA b0) (PO cA ad (cq_l z 22 0 0 v) q) ad H1 → va_S (wA b0) s.heap H1 locs1 → W p l e R s m args below meth c H1 locs1 cells slots Q (F0 m (pc + 1) ls rest)) : W p l e R s m args below meth c H locs cells slots Q (F0 m pc ls (.long v :: .int 0 :: .ref a :: rest)) := by
  subst ha
  refine ow_last hx hb hK hW hS 22 0 (PO_k22) (i := 0) (show ¬ ((0 : Int32) < 0 ∨ 1 ≤ (0 : Int32).toNatClampNeg) by decide) (PO_w22) hdg (fun H1 locs1 h1 h2 => kk H1 locs1 ?_ h2)
  rw [lr_e0] at h1
  exact h1
variable {own : String} {y : MethodName} {ws ws' : List Cond} {fr lo mc0 ms0 n maxL ci N : Nat} {ret : Option FieldType} {bytes : ByteArray} {C : String} {T : u_T} {fs As : List Value} {k0 : Int32}
theorem od_callVv {k j : Nat} (S : CallFix p m c cc nL s args Ts own) (hM : xd_v l y ws fr lo mc0 ms0 D b0 cA ad q z (.ref (ad k j) :: As) (k0, z2)) (he : PO cA ad z q k j = some (.inr (ci, fs))) (hc : vwCl[ci]? = some (C, T, N)) (hT : GoodIn Ts (wsV own index C y ws)) (hw : ws = Cond.code y bytes maxL ret :: ws') (hd : y.cls = C ∧ y.cls ≠ "java/lang/invoke/MethodHandle" ∧ y.cls ≠ "java/lang/invoke/VarHandle" ∧ (parseMethodDescriptor y.desc).map (fun d => d.parameters.length) = some n) (hn : As.length = n) (hR : fr + 1 ≤ R.frames ∧ 8 + (maxL + 11) + lo ≤ R.locals) (hf : cells + mc0 ≤ R.cells ∧ slots + ms0 ≤ R.slots)
    (hK : va_K D vwCl (wd_tys cA) s) (hW : wd D (wA b0) (PO cA ad z q) ad H) (hS : va_S (wA b0) s.heap H locs) (hKD : KD (wA b0) s) (hKX : KX (wA b0) s) (hz : b0 ≤ s.heap.size) (hsz : ls.size = nL) (hst : st = As.reverse ++ .ref (ad k j) :: rest) (hrm : (rest.map fun v => v.category).sum ≤ 8) (hdg : decode cc pc = .ok (.invokevirtual index, 3))
    (kx : ¬ k0 = 0 → ∀ (H1 : Heap) (locs1 : List Loc) (ce : Cell) (q9 : Addr), wd D (wA b0) (PO cA ad z q) ad H1 → va_S (wA b0) s.heap H1 locs1 → H1[q9]? = some ce → ce.vm = .none → s.vm.findClass (xn k0) = some ce.cls → vx_W p l e R s m args below meth c H1 locs1 (cells + mc0) (slots + ms0) Q (F0 m pc ls rest) q9)
    (kk : k0 = 0 → ∀ (u : Nat → Nat → Nat) (H1 : Heap) (locs1 : List Loc), adk ad u → wd D (wA b0) (PO cA u z2 q) u H1 → va_S (wA b0) s.heap H1 locs1 → W p l e R s m args below meth c H1 locs1 (cells + mc0) (slots + ms0) Q (F0 m (pc + 3) ls (rest))) : W p l e R s m args below meth c H locs cells slots Q (F0 m pc ls st) := by
  refine vx_callv (vx_runV (As := As) (rest := rest) S hM (cwV n S.2.2.2.2 hT hw rfl rfl hd hR) (ox_preV hK hW hS hKD hKX hz he hc) rfl hn hsz hst (lv_room hrm) hdg hf) hS (fun q _ h => h) (fun q h => h) (fun q _ h => h) (fun nm ce q9 u t H1 locs1 ht hvm hpx hB _ _ hS1 h1 h2 h3 => ?_) (fun u t H1 locs1 ht hvm hp hB _ _ hS1 => kk hp.1 u H1 locs1 hp.2 (by rw [← ht]; exact hB.2) hS1)
  obtain ⟨⟨hb1, hb2⟩, hb3⟩ := hB
  subst hb1
  exact kx hb2 H1 locs1 ce q9 (by rw [← ht]; exact hb3.2) hS1 h1 h2 h3
theorem od_callVi {r : Int32} {k j : Nat} (S : CallFix p m c cc nL s args Ts own) (hM : xd_i l y ws fr lo mc0 ms0 D b0 cA ad q z (.ref (ad k j) :: As) (k0, r, z2)) (he : PO cA ad z q k j = some (.inr (ci, fs))) (hc : vwCl[ci]? = some (C, T, N)) (hT : GoodIn Ts (wsV own index C y ws)) (hw : ws = Cond.code y bytes maxL ret :: ws') (hd : y.cls = C ∧ y.cls ≠ "java/lang/invoke/MethodHandle" ∧ y.cls ≠ "java/lang/invoke/VarHandle" ∧ (parseMethodDescriptor y.desc).map (fun d => d.parameters.length) = some n) (hn : As.length = n) (hR : fr + 1 ≤ R.frames ∧ 8 + (maxL + 11) + lo ≤ R.locals) (hf : cells + mc0 ≤ R.cells ∧ slots + ms0 ≤ R.slots)
    (hK : va_K D vwCl (wd_tys cA) s) (hW : wd D (wA b0) (PO cA ad z q) ad H) (hS : va_S (wA b0) s.heap H locs) (hKD : KD (wA b0) s) (hKX : KX (wA b0) s) (hz : b0 ≤ s.heap.size) (hsz : ls.size = nL) (hst : st = As.reverse ++ .ref (ad k j) :: rest) (hrm : (rest.map fun v => v.category).sum ≤ 8) (hdg : decode cc pc = .ok (.invokevirtual index, 3))
    (kx : ¬ k0 = 0 → ∀ (H1 : Heap) (locs1 : List Loc) (ce : Cell) (q9 : Addr), wd D (wA b0) (PO cA ad z q) ad H1 → va_S (wA b0) s.heap H1 locs1 → H1[q9]? = some ce → ce.vm = .none → s.vm.findClass (xn k0) = some ce.cls → vx_W p l e R s m args below meth c H1 locs1 (cells + mc0) (slots + ms0) Q (F0 m pc ls rest) q9)
    (kk : k0 = 0 → ∀ (u : Nat → Nat → Nat) (H1 : Heap) (locs1 : List Loc), adk ad u → wd D (wA b0) (PO cA u z2 q) u H1 → va_S (wA b0) s.heap H1 locs1 → W p l e R s m args below meth c H1 locs1 (cells + mc0) (slots + ms0) Q (F0 m (pc + 3) ls (.int r :: rest))) : W p l e R s m args below meth c H locs cells slots Q (F0 m pc ls st) := by
  refine vx_calli (vx_runV (As := As) (rest := rest) S hM (cwV n S.2.2.2.2 hT hw rfl rfl hd hR) (ox_preV hK hW hS hKD hKX hz he hc) rfl hn hsz hst (lv_room hrm) hdg hf) hS (fun q _ h => h) (fun q h => h) (fun q _ h => h) (fun nm ce q9 u t H1 locs1 ht hvm hpx hB _ _ hS1 h1 h2 h3 => ?_) (fun r2 u t H1 locs1 ht hvm hp hB _ _ hS1 => by
    obtain ⟨⟨hp1, hp2⟩, hp3⟩ := hp
    subst hp2
    exact kk hp1 u H1 locs1 hp3 (by rw [← ht]; exact hB.2) hS1)
  obtain ⟨⟨hb1, hb2⟩, hb3⟩ := hB
  subst hb1
  exact kx hb2 H1 locs1 ce q9 (by rw [← ht]; exact hb3.2) hS1 h1 h2 h3
end LWR
theorem nd_needClass {v : Int32} (h : ¬ m_X7_needClass v = 0) : m_X7_needClass v = 1 := by
  revert h
  unfold m_X7_needClass
  repeat' split
  all_goals first | exact fun h => absurd rfl h | exact fun _ => rfl
theorem nd_needHold {v : Int32} (h : ¬ m_X7_needHold v = 0) : m_X7_needHold v = 1 := by
  revert h
  unfold m_X7_needHold
  repeat' split
  all_goals first | exact fun h => absurd rfl h | exact fun _ => rfl
theorem nd_needOfficer {v : Int32} (h : ¬ m_X7_needOfficer v = 0) : m_X7_needOfficer v = 1 := by
  revert h
  unfold m_X7_needOfficer
  repeat' split
  all_goals first | exact fun h => absurd rfl h | exact fun _ => rfl
theorem nd_needDay {v : Int32} (h : ¬ m_X7_needDay v = 0) : m_X7_needDay v = 2 := by
  revert h
  unfold m_X7_needDay
  repeat' split
  all_goals first | exact fun h => absurd rfl h | exact fun _ => rfl
theorem nd_needKeyOrNone {v : Int32} (h : ¬ m_X7_needKeyOrNone v = 0) : m_X7_needKeyOrNone v = 2 := by
  revert h
  unfold m_X7_needKeyOrNone
  repeat' split
  all_goals first | exact fun h => absurd rfl h | exact fun _ => rfl
theorem nd_needNumberOfAct {v : Int32} (h : ¬ m_X7_needNumberOfAct v = 0) : m_X7_needNumberOfAct v = 2 := by
  revert h
  unfold m_X7_needNumberOfAct
  repeat' split
  all_goals first | exact fun h => absurd rfl h | exact fun _ => rfl
theorem nd_needTerm {a : Int32} {b : Int32} (h : ¬ m_X7_needTerm a b = 0) : m_X7_needTerm a b = 2 := by
  revert h
  unfold m_X7_needTerm
  repeat' split
  all_goals first | exact fun h => absurd rfl h | exact fun _ => rfl
theorem nd_needAct {q : qC} {v : Int32} (h : ¬ m_X7_needAct q v = 0) : m_X7_needAct q v = 1 := by
  revert h
  unfold m_X7_needAct
  repeat' split
  all_goals first | exact fun h => absurd rfl h | exact fun _ => rfl
theorem nd_needRoom {q : qC} {v : Int32} (h : ¬ m_X7_needRoom q v = 0) : m_X7_needRoom q v = 3 := by
  revert h
  unfold m_X7_needRoom
  repeat' split
  all_goals first | exact fun h => absurd rfl h | exact fun _ => rfl
theorem nd_needDayOfAct {q : qC} {v : Int32} (h : ¬ m_X7_needDayOfAct q v = 0) : m_X7_needDayOfAct q v = 2 := by
  unfold m_X7_needDayOfAct at h ⊢
  by_cases g : m_X7_needDay v = 0
  · rw [if_pos g] at h ⊢
    by_cases g2 : q.1 0 0 9 ≤ v
    · rw [if_pos g2] at h; exact absurd rfl h
    · rw [if_neg g2]
  · rw [if_neg g]; exact nd_needDay g
theorem nd_needRight {q : qC} {a : Int32} {b : Int32} (h : ¬ m_X7_needRight q a b = 0) : m_X7_needRight q a b = 3 := by
  revert h
  unfold m_X7_needRight
  repeat' split
  all_goals first | exact fun h => absurd rfl h | exact fun _ => rfl
theorem nd_needOpen {q : qC} {j : Nat} (h : ¬ m_X7_needOpen q j = 0) : m_X7_needOpen q j = 3 := by
  revert h
  unfold m_X7_needOpen
  repeat' split
  all_goals first | exact fun h => absurd rfl h | exact fun _ => rfl
theorem nd_folderAt {q : qC} {v : Int32} (h : ¬ m_X7_folderAt q v = 0) : m_X7_folderAt q v = 1 := by
  revert h
  unfold m_X7_folderAt
  repeat' split
  all_goals first | exact fun h => absurd rfl h | exact fun _ => rfl
theorem nd_recordAt {q : qC} {v : Int32} (h : ¬ m_X7_recordAt q v = 0) : m_X7_recordAt q v = 1 := by
  revert h
  unfold m_X7_recordAt
  repeat' split
  all_goals first | exact fun h => absurd rfl h | exact fun _ => rfl
theorem nd_listAt {q : qC} {v : Int32} (h : ¬ m_X7_listAt q v = 0) : m_X7_listAt q v = 1 := by
  revert h
  unfold m_X7_listAt
  repeat' split
  all_goals first | exact fun h => absurd rfl h | exact fun _ => rfl
def cP1 {α : Type} (S : List Int32) (x : Int32 × α) : Prop := x.1 ∈ S
theorem it_p {α : Type} {S : List Int32} {c : Prop} [Decidable c] {a b : Int32 × α} (h1 : c → cP1 S a) (h2 : ¬ c → cP1 S b) : cP1 S (if c then a else b) := by
  by_cases h : c
  · rw [if_pos h]; exact h1 h
  · rw [if_neg h]; exact h2 h
theorem it_l {α : Type} {S : List Int32} {k : Int32} {x : α} (h : k ∈ S) : cP1 S (k, x) := h
theorem it_e {α : Type} {S : List Int32} {k v : Int32} {x : α} (h : k = v) (h2 : v ∈ S) : cP1 S (k, x) := by rw [h]; exact h2
theorem mem_2 {α : Type} {a b : Int32} {x : Int32 × α} (h : cP1 [a, b] x) : x.1 = a ∨ x.1 = b := by unfold cP1 at h; simpa using h
theorem mem_3 {α : Type} {a b c : Int32} {x : Int32 × α} (h : cP1 [a, b, c] x) : x.1 = a ∨ x.1 = b ∨ x.1 = c := by unfold cP1 at h; simpa using h
theorem mem_4 {α : Type} {a b c d : Int32} {x : Int32 × α} (h : cP1 [a, b, c, d] x) : x.1 = a ∨ x.1 = b ∨ x.1 = c ∨ x.1 = d := by unfold cP1 at h; simpa using h
set_option maxHeartbeats 4000000 in
theorem cd_officer (q : qC) (o : Int32) (rights : Int32) : (m_X7_officer q o rights).1 = 0 ∨ (m_X7_officer q o rights).1 = 1 ∨ (m_X7_officer q o rights).1 = 2 := by
  have key : cP1 [0, 1, 2] (m_X7_officer q o rights) := by
    unfold m_X7_officer
    repeat' (refine it_p (fun h => ?_) (fun h => ?_))
    · exact it_l (by decide)
    · exact it_l (by decide)
    · exact it_l (by decide)
    · exact it_e (nd_needOfficer h) (by decide)
  exact mem_3 key
set_option maxHeartbeats 4000000 in
set_option maxRecDepth 100000 in
theorem c_L_officer (l : Launch) (hlt : l.stackTraces = false) (D : va_G) (b0 : Nat) (cA : Nat → ClassId) (ad : Nat → Nat → Nat) (mq : qM) (q : qC) (o : Int32) (rights : Int32) : wc_ l yL_officer wsL_officer D b0 cA ad mq q [.ref (ad 0 0), .int o, .int rights] ((m_X7_officer q o rights).1) (zV ((m_X7_officer q o rights).1) ((m_X7_officer q o rights).2) q) := by
  refine lr_of (by decide) rfl (Nat.le_of_ble_eq_true rfl) ?_
  intro p e s m below meth c hx hb hml hr hlk hown hts hK hW hKD hKX hKN hz hxt ls hl
  have hown : s.vm.findClass RL = some m.cls := hown
  have hS : va_S (wA b0) s.heap s.heap [] := va_S.rf
  have hl : lv_has ls 4 [(0, .ref (ad 0 0)), (1, .int o), (2, .int rights)] := hl
  refine lv_aload_n hx hb dL_officer_0 rfl (lv_at hl 0 rfl) ?_
  refine lv_iload_n hx hb dL_officer_1 rfl (lv_at hl 1 rfl) ?_
  refine lv_iload_n hx hb dL_officer_2 rfl (lv_at hl 2 rfl) ?_
  refine ox_callVv (C := RX7) (T := TX7) (N := 11) (ci := 6) (k := 0) (j := 0) (n := 2) (As := [.int o, .int rights]) (rest := []) (z2 := (m_X7_officer q o rights).2) (k0 := (m_X7_officer q o rights).1) ⟨hx, hb, hml, hown, hts⟩ (c_X7_officer l hlt D b0 cA ad mq q o rights) (PO_k0) rfl gL_officer_X7_officer rfl (by decide +kernel) rfl ⟨Nat.le_of_ble_eq_true rfl, Nat.le_of_ble_eq_true rfl⟩ ⟨Nat.le_of_ble_eq_true rfl, Nat.le_of_ble_eq_true rfl⟩ hK hW hS hKD hKX hz hl.1 rfl (Nat.le_of_ble_eq_true rfl) dL_officer_3 (fun hne H locs ce q9 hW hS h1 h2 h3 => ?_) (fun hk0 H locs hW hS => ?_)
  · rcases cd_officer q o rights with hg | hg | hg
    · exact absurd hg hne
    · rw [hg] at h3
      refine vx_catch (own := RL) (name := "java/lang/IndexOutOfBoundsException") (E := "java/lang/IndexOutOfBoundsException") hown [] ⟨0, 6, 9, 13⟩ [⟨0, 6, 12, 15⟩] hxt (fun _ h => absurd h List.not_mem_nil) rfl (by decide) (hts _ (List.mem_of_getElem? (i := 1) rfl)) (va_Nw.use rfl hKX.2.2.2.1) h1 h2 h3 ?_
      refine lv_astore_n (lv' := [(3, .ref q9), (0, .ref (ad 0 0)), (1, .int o), (2, .int rights)]) hx hb dL_officer_9 rfl hl (by decide) rfl (fun ls hl => ?_)
      refine lv_iconst (v := 1) hx hb dL_officer_10 (by decide) ?_
      exact lr_ret hx hb hr hlk hK hW (adk_rf _) hS (Nat.le_of_ble_eq_true rfl) (Nat.le_of_ble_eq_true rfl) (by rw [hg] <;> rfl) (by rw [zV, if_neg hne]) dL_officer_11
    · rw [hg] at h3
      refine vx_catch (own := RL) (name := "java/lang/IllegalArgumentException") (E := "java/lang/IllegalArgumentException") hown [⟨0, 6, 9, 13⟩] ⟨0, 6, 12, 15⟩ [] hxt (List.forall_mem_cons.mpr ⟨Or.inr ⟨by decide, "java/lang/IndexOutOfBoundsException", hts _ (List.mem_of_getElem? (i := 1) rfl), hKN.1⟩, fun _ h => absurd h List.not_mem_nil⟩) rfl (by decide) (hts _ (List.mem_of_getElem? (i := 2) rfl)) (va_Nw.use rfl hKX.2.2.2.2.1) h1 h2 h3 ?_
      refine lv_astore_n (lv' := [(3, .ref q9), (0, .ref (ad 0 0)), (1, .int o), (2, .int rights)]) hx hb dL_officer_12 rfl hl (by decide) rfl (fun ls hl => ?_)
      refine lv_iconst (v := 2) hx hb dL_officer_13 (by decide) ?_
      exact lr_ret hx hb hr hlk hK hW (adk_rf _) hS (Nat.le_of_ble_eq_true rfl) (Nat.le_of_ble_eq_true rfl) (by rw [hg] <;> rfl) (by rw [zV, if_neg hne]) dL_officer_14
  · refine lv_goto (tgt := 15) hx hb dL_officer_6 (by decide) ?_
    refine lv_iconst (v := 0) hx hb dL_officer_15 (by decide) ?_
    exact lr_ret hx hb hr hlk hK hW (adk_rf _) hS (Nat.le_of_ble_eq_true rfl) (Nat.le_of_ble_eq_true rfl) (by rw [hk0] <;> rfl) (by rw [zV, if_pos hk0]) dL_officer_16
set_option maxHeartbeats 4000000 in
theorem cd_version (q : qC) (cl : Int32) (ev : Int32) (yr : Int32) (mo : Int32) (fa : Int32) (day : Int32) : (m_X7_version q cl ev yr mo fa day).1 = 0 ∨ (m_X7_version q cl ev yr mo fa day).1 = 1 ∨ (m_X7_version q cl ev yr mo fa day).1 = 2 ∨ (m_X7_version q cl ev yr mo fa day).1 = 3 := by
  have key : cP1 [0, 1, 2, 3] (m_X7_version q cl ev yr mo fa day) := by
    unfold m_X7_version
    repeat' (refine it_p (fun h => ?_) (fun h => ?_))
    · exact it_l (by decide)
    · exact it_l (by decide)
    · exact it_l (by decide)
    · exact it_l (by decide)
    · exact it_l (by decide)
    · exact it_e (nd_needRoom h) (by decide)
    · exact it_e (nd_needDay h) (by decide)
    · exact it_e (nd_needTerm h) (by decide)
    · exact it_e (nd_needClass h) (by decide)
  exact mem_4 key
set_option maxHeartbeats 4000000 in
set_option maxRecDepth 100000 in
theorem c_L_version (l : Launch) (hlt : l.stackTraces = false) (D : va_G) (b0 : Nat) (cA : Nat → ClassId) (ad : Nat → Nat → Nat) (mq : qM) (q : qC) (cl : Int32) (ev : Int32) (yr : Int32) (mo : Int32) (fa : Int32) (day : Int32) (hI : cI q) (hbo : vp_nar .boolean fa = fa) : wc_ l yL_version wsL_version D b0 cA ad mq q [.ref (ad 0 0), .int cl, .int ev, .int yr, .int mo, .int fa, .int day, .ref (ad 22 0)] ((m_X7_version q cl ev yr mo fa day).1) (zL ((m_X7_version q cl ev yr mo fa day).1) (Int32.toInt64 ((m_X7_version q cl ev yr mo fa day).2.1)) ((m_X7_version q cl ev yr mo fa day).2.2) q) := by
  refine lr_of (by decide) rfl (Nat.le_of_ble_eq_true rfl) ?_
  intro p e s m below meth c hx hb hml hr hlk hown hts hK hW hKD hKX hKN hz hxt ls hl
  have hown : s.vm.findClass RL = some m.cls := hown
  have hS : va_S (wA b0) s.heap s.heap [] := va_S.rf
  have hl : lv_has ls 9 [(0, .ref (ad 0 0)), (1, .int cl), (2, .int ev), (3, .int yr), (4, .int mo), (5, .int fa), (6, .int day), (7, .ref (ad 22 0))] := hl
  refine lv_aload hx hb dL_version_0 (lv_at hl 7 rfl) ?_
  refine lv_iconst (v := 0) hx hb dL_version_2 (by decide) ?_
  refine lv_aload_n hx hb dL_version_3 rfl (lv_at hl 0 rfl) ?_
  refine lv_iload_n hx hb dL_version_4 rfl (lv_at hl 1 rfl) ?_
  refine lv_iload_n hx hb dL_version_5 rfl (lv_at hl 2 rfl) ?_
  refine lv_iload_n hx hb dL_version_6 rfl (lv_at hl 3 rfl) ?_
  refine lv_iload hx hb dL_version_7 (lv_at hl 4 rfl) ?_
  refine lv_iload hx hb dL_version_9 (lv_at hl 5 rfl) ?_
  refine lv_iload hx hb dL_version_11 (lv_at hl 6 rfl) ?_
  refine ox_callVi (C := RX7) (T := TX7) (N := 11) (ci := 6) (k := 0) (j := 0) (n := 6) (As := [.int cl, .int ev, .int yr, .int mo, .int fa, .int day]) (rest := [.int 0, .ref (ad 22 0)]) (r := (m_X7_version q cl ev yr mo fa day).2.1) (z2 := (m_X7_version q cl ev yr mo fa day).2.2) (k0 := (m_X7_version q cl ev yr mo fa day).1) ⟨hx, hb, hml, hown, hts⟩ (c_X7_version l hlt D b0 cA ad mq q cl ev yr mo fa day hI hbo) (PO_k0) rfl gL_version_X7_version rfl (by decide +kernel) rfl ⟨Nat.le_of_ble_eq_true rfl, Nat.le_of_ble_eq_true rfl⟩ ⟨Nat.le_of_ble_eq_true rfl, Nat.le_of_ble_eq_true rfl⟩ hK hW hS hKD hKX hz hl.1 rfl (Nat.le_of_ble_eq_true rfl) dL_version_13 (fun hne H locs ce q9 hW hS h1 h2 h3 => ?_) (fun hk0 H locs hW hS => ?_)
  · rcases cd_version q cl ev yr mo fa day with hg | hg | hg | hg
    · exact absurd hg hne
    · rw [hg] at h3
      refine vx_catch (own := RL) (name := "java/lang/IndexOutOfBoundsException") (E := "java/lang/IndexOutOfBoundsException") hown [] ⟨0, 18, 21, 13⟩ [⟨0, 18, 25, 15⟩, ⟨0, 18, 29, 21⟩] hxt (fun _ h => absurd h List.not_mem_nil) rfl (by decide) (hts _ (List.mem_of_getElem? (i := 1) rfl)) (va_Nw.use rfl hKX.2.2.2.1) h1 h2 h3 ?_
      refine lv_astore (lv' := [(8, .ref q9), (0, .ref (ad 0 0)), (1, .int cl), (2, .int ev), (3, .int yr), (4, .int mo), (5, .int fa), (6, .int day), (7, .ref (ad 22 0))]) hx hb dL_version_21 hl (by decide) rfl (fun ls hl => ?_)
      refine lv_iconst (v := 1) hx hb dL_version_23 (by decide) ?_
      exact lr_ret hx hb hr hlk hK hW (adk_rf _) hS (Nat.le_of_ble_eq_true rfl) (Nat.le_of_ble_eq_true rfl) (by rw [hg] <;> rfl) (by rw [zL, if_neg hne]) dL_version_24
    · rw [hg] at h3
      refine vx_catch (own := RL) (name := "java/lang/IllegalArgumentException") (E := "java/lang/IllegalArgumentException") hown [⟨0, 18, 21, 13⟩] ⟨0, 18, 25, 15⟩ [⟨0, 18, 29, 21⟩] hxt (List.forall_mem_cons.mpr ⟨Or.inr ⟨by decide, "java/lang/IndexOutOfBoundsException", hts _ (List.mem_of_getElem? (i := 1) rfl), hKN.1⟩, fun _ h => absurd h List.not_mem_nil⟩) rfl (by decide) (hts _ (List.mem_of_getElem? (i := 2) rfl)) (va_Nw.use rfl hKX.2.2.2.2.1) h1 h2 h3 ?_
      refine lv_astore (lv' := [(8, .ref q9), (0, .ref (ad 0 0)), (1, .int cl), (2, .int ev), (3, .int yr), (4, .int mo), (5, .int fa), (6, .int day), (7, .ref (ad 22 0))]) hx hb dL_version_25 hl (by decide) rfl (fun ls hl => ?_)
      refine lv_iconst (v := 2) hx hb dL_version_27 (by decide) ?_
      exact lr_ret hx hb hr hlk hK hW (adk_rf _) hS (Nat.le_of_ble_eq_true rfl) (Nat.le_of_ble_eq_true rfl) (by rw [hg] <;> rfl) (by rw [zL, if_neg hne]) dL_version_28
    · rw [hg] at h3
      refine vx_catch (own := RL) (name := "java/lang/IllegalStateException") (E := "java/lang/IllegalStateException") hown [⟨0, 18, 21, 13⟩, ⟨0, 18, 25, 15⟩] ⟨0, 18, 29, 21⟩ [] hxt (List.forall_mem_cons.mpr ⟨Or.inr ⟨by decide, "java/lang/IndexOutOfBoundsException", hts _ (List.mem_of_getElem? (i := 1) rfl), hKN.2.1⟩, List.forall_mem_cons.mpr ⟨Or.inr ⟨by decide, "java/lang/IllegalArgumentException", hts _ (List.mem_of_getElem? (i := 2) rfl), hKN.2.2⟩, fun _ h => absurd h List.not_mem_nil⟩⟩) rfl (by decide) (hts _ (List.mem_of_getElem? (i := 3) rfl)) (va_Nw.use rfl hKX.2.2.2.2.2.1) h1 h2 h3 ?_
      refine lv_astore (lv' := [(8, .ref q9), (0, .ref (ad 0 0)), (1, .int cl), (2, .int ev), (3, .int yr), (4, .int mo), (5, .int fa), (6, .int day), (7, .ref (ad 22 0))]) hx hb dL_version_29 hl (by decide) rfl (fun ls hl => ?_)
      refine lv_iconst (v := 3) hx hb dL_version_31 (by decide) ?_
      exact lr_ret hx hb hr hlk hK hW (adk_rf _) hS (Nat.le_of_ble_eq_true rfl) (Nat.le_of_ble_eq_true rfl) (by rw [hg] <;> rfl) (by rw [zL, if_neg hne]) dL_version_32
  · refine lv_i2l hx hb dL_version_16 rfl ?_
    refine lr_last rfl hx hb hK hW hS dL_version_17 (fun H locs hW hS => ?_)
    refine lv_goto (tgt := 33) hx hb dL_version_18 (by decide) ?_
    refine lv_iconst (v := 0) hx hb dL_version_33 (by decide) ?_
    exact lr_ret hx hb hr hlk hK hW (adk_rf _) hS (Nat.le_of_ble_eq_true rfl) (Nat.le_of_ble_eq_true rfl) (by rw [hk0] <;> rfl) (by rw [zL, if_pos hk0]) dL_version_34
set_option maxHeartbeats 4000000 in
theorem cd_fiscal (q : qC) (month : Int32) : (m_X7_fiscal q month).1 = 0 ∨ (m_X7_fiscal q month).1 = 2 ∨ (m_X7_fiscal q month).1 = 3 := by
  have key : cP1 [0, 2, 3] (m_X7_fiscal q month) := by
    unfold m_X7_fiscal
    repeat' (refine it_p (fun h => ?_) (fun h => ?_))
    · exact it_l (by decide)
    · exact it_l (by decide)
    · exact it_l (by decide)
    · exact it_l (by decide)
  exact mem_3 key
set_option maxHeartbeats 4000000 in
set_option maxRecDepth 100000 in
theorem c_L_fiscal (l : Launch) (hlt : l.stackTraces = false) (D : va_G) (b0 : Nat) (cA : Nat → ClassId) (ad : Nat → Nat → Nat) (mq : qM) (q : qC) (month : Int32) : wc_ l yL_fiscal wsL_fiscal D b0 cA ad mq q [.ref (ad 0 0), .int month] ((wkF (m_X7_fiscal q month).1)) (zV ((m_X7_fiscal q month).1) ((m_X7_fiscal q month).2) q) := by
  refine lr_of (by decide) rfl (Nat.le_of_ble_eq_true rfl) ?_
  intro p e s m below meth c hx hb hml hr hlk hown hts hK hW hKD hKX hKN hz hxt ls hl
  have hown : s.vm.findClass RL = some m.cls := hown
  have hS : va_S (wA b0) s.heap s.heap [] := va_S.rf
  have hl : lv_has ls 3 [(0, .ref (ad 0 0)), (1, .int month)] := hl
  refine lv_aload_n hx hb dL_fiscal_0 rfl (lv_at hl 0 rfl) ?_
  refine lv_iload_n hx hb dL_fiscal_1 rfl (lv_at hl 1 rfl) ?_
  refine ox_callVv (C := RX7) (T := TX7) (N := 11) (ci := 6) (k := 0) (j := 0) (n := 1) (As := [.int month]) (rest := []) (z2 := (m_X7_fiscal q month).2) (k0 := (m_X7_fiscal q month).1) ⟨hx, hb, hml, hown, hts⟩ (c_X7_fiscal l hlt D b0 cA ad mq q month) (PO_k0) rfl gL_fiscal_X7_fiscal rfl (by decide +kernel) rfl ⟨Nat.le_of_ble_eq_true rfl, Nat.le_of_ble_eq_true rfl⟩ ⟨Nat.le_of_ble_eq_true rfl, Nat.le_of_ble_eq_true rfl⟩ hK hW hS hKD hKX hz hl.1 rfl (Nat.le_of_ble_eq_true rfl) dL_fiscal_2 (fun hne H locs ce q9 hW hS h1 h2 h3 => ?_) (fun hk0 H locs hW hS => ?_)
  · rcases cd_fiscal q month with hg | hg | hg
    · exact absurd hg hne
    · rw [hg] at h3
      refine vx_catch (own := RL) (name := "java/lang/IllegalArgumentException") (E := "java/lang/IllegalArgumentException") hown [] ⟨0, 5, 8, 15⟩ [⟨0, 5, 11, 21⟩] hxt (fun _ h => absurd h List.not_mem_nil) rfl (by decide) (hts _ (List.mem_of_getElem? (i := 1) rfl)) (va_Nw.use rfl hKX.2.2.2.2.1) h1 h2 h3 ?_
      refine lv_astore_n (lv' := [(2, .ref q9), (0, .ref (ad 0 0)), (1, .int month)]) hx hb dL_fiscal_8 rfl hl (by decide) rfl (fun ls hl => ?_)
      refine lv_iconst (v := 1) hx hb dL_fiscal_9 (by decide) ?_
      exact lr_ret hx hb hr hlk hK hW (adk_rf _) hS (Nat.le_of_ble_eq_true rfl) (Nat.le_of_ble_eq_true rfl) (by rw [hg] <;> rfl) (by rw [zV, if_neg hne]) dL_fiscal_10
    · rw [hg] at h3
      refine vx_catch (own := RL) (name := "java/lang/IllegalStateException") (E := "java/lang/IllegalStateException") hown [⟨0, 5, 8, 15⟩] ⟨0, 5, 11, 21⟩ [] hxt (List.forall_mem_cons.mpr ⟨Or.inr ⟨by decide, "java/lang/IllegalArgumentException", hts _ (List.mem_of_getElem? (i := 1) rfl), hKN.2.2⟩, fun _ h => absurd h List.not_mem_nil⟩) rfl (by decide) (hts _ (List.mem_of_getElem? (i := 2) rfl)) (va_Nw.use rfl hKX.2.2.2.2.2.1) h1 h2 h3 ?_
      refine lv_astore_n (lv' := [(2, .ref q9), (0, .ref (ad 0 0)), (1, .int month)]) hx hb dL_fiscal_11 rfl hl (by decide) rfl (fun ls hl => ?_)
      refine lv_iconst (v := 2) hx hb dL_fiscal_12 (by decide) ?_
      exact lr_ret hx hb hr hlk hK hW (adk_rf _) hS (Nat.le_of_ble_eq_true rfl) (Nat.le_of_ble_eq_true rfl) (by rw [hg] <;> rfl) (by rw [zV, if_neg hne]) dL_fiscal_13
  · refine lv_goto (tgt := 14) hx hb dL_fiscal_5 (by decide) ?_
    refine lv_iconst (v := 0) hx hb dL_fiscal_14 (by decide) ?_
    exact lr_ret hx hb hr hlk hK hW (adk_rf _) hS (Nat.le_of_ble_eq_true rfl) (Nat.le_of_ble_eq_true rfl) (by rw [hk0] <;> rfl) (by rw [zV, if_pos hk0]) dL_fiscal_15
set_option maxHeartbeats 4000000 in
theorem cd_open (q : qC) (f : Int32) (cl : Int32) : (m_X7_open q f cl).1 = 0 ∨ (m_X7_open q f cl).1 = 1 ∨ (m_X7_open q f cl).1 = 3 := by
  have key : cP1 [0, 1, 3] (m_X7_open q f cl) := by
    unfold m_X7_open
    repeat' (refine it_p (fun h => ?_) (fun h => ?_))
    · exact it_l (by decide)
    · exact it_l (by decide)
    · exact it_l (by decide)
    · exact it_l (by decide)
    · exact it_e (nd_needRoom h) (by decide)
    · exact it_e (nd_needClass h) (by decide)
    · exact it_l (by decide)
  exact mem_3 key
set_option maxHeartbeats 4000000 in
set_option maxRecDepth 100000 in
theorem c_L_open (l : Launch) (hlt : l.stackTraces = false) (D : va_G) (b0 : Nat) (cA : Nat → ClassId) (ad : Nat → Nat → Nat) (mq : qM) (q : qC) (f : Int32) (cl : Int32) (hI : cI q) : wc_ l yL_open wsL_open D b0 cA ad mq q [.ref (ad 0 0), .int f, .int cl] ((wkO (m_X7_open q f cl).1)) (zV ((m_X7_open q f cl).1) ((m_X7_open q f cl).2) q) := by
  refine lr_of (by decide) rfl (Nat.le_of_ble_eq_true rfl) ?_
  intro p e s m below meth c hx hb hml hr hlk hown hts hK hW hKD hKX hKN hz hxt ls hl
  have hown : s.vm.findClass RL = some m.cls := hown
  have hS : va_S (wA b0) s.heap s.heap [] := va_S.rf
  have hl : lv_has ls 4 [(0, .ref (ad 0 0)), (1, .int f), (2, .int cl)] := hl
  refine lv_aload_n hx hb dL_open_0 rfl (lv_at hl 0 rfl) ?_
  refine lv_iload_n hx hb dL_open_1 rfl (lv_at hl 1 rfl) ?_
  refine lv_iload_n hx hb dL_open_2 rfl (lv_at hl 2 rfl) ?_
  refine od_callVv (C := RX7) (T := TX7) (N := 11) (ci := 6) (k := 0) (j := 0) (n := 2) (As := [.int f, .int cl]) (rest := []) (z2 := (m_X7_open q f cl).2) (k0 := (m_X7_open q f cl).1) ⟨hx, hb, hml, hown, hts⟩ (c_X7_open l hlt D b0 cA ad mq q f cl hI) (PO_k0) rfl gL_open_X7_open rfl (by decide +kernel) rfl ⟨Nat.le_of_ble_eq_true rfl, Nat.le_of_ble_eq_true rfl⟩ ⟨Nat.le_of_ble_eq_true rfl, Nat.le_of_ble_eq_true rfl⟩ hK hW hS hKD hKX hz hl.1 rfl (Nat.le_of_ble_eq_true rfl) dL_open_3 (fun hne H locs ce q9 hW hS h1 h2 h3 => ?_) (fun hk0 u H locs hak hW hS => ?_)
  · rcases cd_open q f cl with hg | hg | hg
    · exact absurd hg hne
    · rw [hg] at h3
      refine vx_catch (own := RL) (name := "java/lang/IndexOutOfBoundsException") (E := "java/lang/IndexOutOfBoundsException") hown [] ⟨0, 6, 9, 13⟩ [⟨0, 6, 12, 21⟩] hxt (fun _ h => absurd h List.not_mem_nil) rfl (by decide) (hts _ (List.mem_of_getElem? (i := 1) rfl)) (va_Nw.use rfl hKX.2.2.2.1) h1 h2 h3 ?_
      refine lv_astore_n (lv' := [(3, .ref q9), (0, .ref (ad 0 0)), (1, .int f), (2, .int cl)]) hx hb dL_open_9 rfl hl (by decide) rfl (fun ls hl => ?_)
      refine lv_iconst (v := 1) hx hb dL_open_10 (by decide) ?_
      exact lr_ret hx hb hr hlk hK hW (adk_rf _) hS (Nat.le_of_ble_eq_true rfl) (Nat.le_of_ble_eq_true rfl) (by rw [hg] <;> rfl) (by rw [zV, if_neg hne]) dL_open_11
    · rw [hg] at h3
      refine vx_catch (own := RL) (name := "java/lang/IllegalStateException") (E := "java/lang/IllegalStateException") hown [⟨0, 6, 9, 13⟩] ⟨0, 6, 12, 21⟩ [] hxt (List.forall_mem_cons.mpr ⟨Or.inr ⟨by decide, "java/lang/IndexOutOfBoundsException", hts _ (List.mem_of_getElem? (i := 1) rfl), hKN.2.1⟩, fun _ h => absurd h List.not_mem_nil⟩) rfl (by decide) (hts _ (List.mem_of_getElem? (i := 2) rfl)) (va_Nw.use rfl hKX.2.2.2.2.2.1) h1 h2 h3 ?_
      refine lv_astore_n (lv' := [(3, .ref q9), (0, .ref (ad 0 0)), (1, .int f), (2, .int cl)]) hx hb dL_open_12 rfl hl (by decide) rfl (fun ls hl => ?_)
      refine lv_iconst (v := 2) hx hb dL_open_13 (by decide) ?_
      exact lr_ret hx hb hr hlk hK hW (adk_rf _) hS (Nat.le_of_ble_eq_true rfl) (Nat.le_of_ble_eq_true rfl) (by rw [hg] <;> rfl) (by rw [zV, if_neg hne]) dL_open_14
  · refine lv_goto (tgt := 15) hx hb dL_open_6 (by decide) ?_
    refine lv_iconst (v := 0) hx hb dL_open_15 (by decide) ?_
    exact lr_ret hx hb hr hlk hK hW hak hS (Nat.le_of_ble_eq_true rfl) (Nat.le_of_ble_eq_true rfl) (by rw [hk0] <;> rfl) (by rw [zV, if_pos hk0]) dL_open_16
set_option maxHeartbeats 4000000 in
theorem cd_close (q : qC) (f : Int32) (day : Int32) : (m_X7_close q f day).1 = 0 ∨ (m_X7_close q f day).1 = 1 ∨ (m_X7_close q f day).1 = 2 ∨ (m_X7_close q f day).1 = 3 := by
  have key : cP1 [0, 1, 2, 3] (m_X7_close q f day) := by
    unfold m_X7_close
    repeat' (refine it_p (fun h => ?_) (fun h => ?_))
    · exact it_l (by decide)
    · exact it_l (by decide)
    · exact it_e (nd_needRoom h) (by decide)
    · exact it_e (nd_needDayOfAct h) (by decide)
    · exact it_e (nd_folderAt h) (by decide)
  exact mem_4 key
set_option maxHeartbeats 4000000 in
set_option maxRecDepth 100000 in
theorem c_L_close (l : Launch) (hlt : l.stackTraces = false) (D : va_G) (b0 : Nat) (cA : Nat → ClassId) (ad : Nat → Nat → Nat) (mq : qM) (q : qC) (f : Int32) (day : Int32) (hI : cI q) : wc_ l yL_close wsL_close D b0 cA ad mq q [.ref (ad 0 0), .int f, .int day] ((m_X7_close q f day).1) (zV ((m_X7_close q f day).1) ((m_X7_close q f day).2) q) := by
  refine lr_of (by decide) rfl (Nat.le_of_ble_eq_true rfl) ?_
  intro p e s m below meth c hx hb hml hr hlk hown hts hK hW hKD hKX hKN hz hxt ls hl
  have hown : s.vm.findClass RL = some m.cls := hown
  have hS : va_S (wA b0) s.heap s.heap [] := va_S.rf
  have hl : lv_has ls 4 [(0, .ref (ad 0 0)), (1, .int f), (2, .int day)] := hl
  refine lv_aload_n hx hb dL_close_0 rfl (lv_at hl 0 rfl) ?_
  refine lv_iload_n hx hb dL_close_1 rfl (lv_at hl 1 rfl) ?_
  refine lv_iload_n hx hb dL_close_2 rfl (lv_at hl 2 rfl) ?_
  refine ox_callVv (C := RX7) (T := TX7) (N := 11) (ci := 6) (k := 0) (j := 0) (n := 2) (As := [.int f, .int day]) (rest := []) (z2 := (m_X7_close q f day).2) (k0 := (m_X7_close q f day).1) ⟨hx, hb, hml, hown, hts⟩ (c_X7_close l hlt D b0 cA ad mq q f day hI) (PO_k0) rfl gL_close_X7_close rfl (by decide +kernel) rfl ⟨Nat.le_of_ble_eq_true rfl, Nat.le_of_ble_eq_true rfl⟩ ⟨Nat.le_of_ble_eq_true rfl, Nat.le_of_ble_eq_true rfl⟩ hK hW hS hKD hKX hz hl.1 rfl (Nat.le_of_ble_eq_true rfl) dL_close_3 (fun hne H locs ce q9 hW hS h1 h2 h3 => ?_) (fun hk0 H locs hW hS => ?_)
  · rcases cd_close q f day with hg | hg | hg | hg
    · exact absurd hg hne
    · rw [hg] at h3
      refine vx_catch (own := RL) (name := "java/lang/IndexOutOfBoundsException") (E := "java/lang/IndexOutOfBoundsException") hown [] ⟨0, 6, 9, 13⟩ [⟨0, 6, 12, 15⟩, ⟨0, 6, 15, 21⟩] hxt (fun _ h => absurd h List.not_mem_nil) rfl (by decide) (hts _ (List.mem_of_getElem? (i := 1) rfl)) (va_Nw.use rfl hKX.2.2.2.1) h1 h2 h3 ?_
      refine lv_astore_n (lv' := [(3, .ref q9), (0, .ref (ad 0 0)), (1, .int f), (2, .int day)]) hx hb dL_close_9 rfl hl (by decide) rfl (fun ls hl => ?_)
      refine lv_iconst (v := 1) hx hb dL_close_10 (by decide) ?_
      exact lr_ret hx hb hr hlk hK hW (adk_rf _) hS (Nat.le_of_ble_eq_true rfl) (Nat.le_of_ble_eq_true rfl) (by rw [hg] <;> rfl) (by rw [zV, if_neg hne]) dL_close_11
    · rw [hg] at h3
      refine vx_catch (own := RL) (name := "java/lang/IllegalArgumentException") (E := "java/lang/IllegalArgumentException") hown [⟨0, 6, 9, 13⟩] ⟨0, 6, 12, 15⟩ [⟨0, 6, 15, 21⟩] hxt (List.forall_mem_cons.mpr ⟨Or.inr ⟨by decide, "java/lang/IndexOutOfBoundsException", hts _ (List.mem_of_getElem? (i := 1) rfl), hKN.1⟩, fun _ h => absurd h List.not_mem_nil⟩) rfl (by decide) (hts _ (List.mem_of_getElem? (i := 2) rfl)) (va_Nw.use rfl hKX.2.2.2.2.1) h1 h2 h3 ?_
      refine lv_astore_n (lv' := [(3, .ref q9), (0, .ref (ad 0 0)), (1, .int f), (2, .int day)]) hx hb dL_close_12 rfl hl (by decide) rfl (fun ls hl => ?_)
      refine lv_iconst (v := 2) hx hb dL_close_13 (by decide) ?_
      exact lr_ret hx hb hr hlk hK hW (adk_rf _) hS (Nat.le_of_ble_eq_true rfl) (Nat.le_of_ble_eq_true rfl) (by rw [hg] <;> rfl) (by rw [zV, if_neg hne]) dL_close_14
    · rw [hg] at h3
      refine vx_catch (own := RL) (name := "java/lang/IllegalStateException") (E := "java/lang/IllegalStateException") hown [⟨0, 6, 9, 13⟩, ⟨0, 6, 12, 15⟩] ⟨0, 6, 15, 21⟩ [] hxt (List.forall_mem_cons.mpr ⟨Or.inr ⟨by decide, "java/lang/IndexOutOfBoundsException", hts _ (List.mem_of_getElem? (i := 1) rfl), hKN.2.1⟩, List.forall_mem_cons.mpr ⟨Or.inr ⟨by decide, "java/lang/IllegalArgumentException", hts _ (List.mem_of_getElem? (i := 2) rfl), hKN.2.2⟩, fun _ h => absurd h List.not_mem_nil⟩⟩) rfl (by decide) (hts _ (List.mem_of_getElem? (i := 3) rfl)) (va_Nw.use rfl hKX.2.2.2.2.2.1) h1 h2 h3 ?_
      refine lv_astore_n (lv' := [(3, .ref q9), (0, .ref (ad 0 0)), (1, .int f), (2, .int day)]) hx hb dL_close_15 rfl hl (by decide) rfl (fun ls hl => ?_)
      refine lv_iconst (v := 3) hx hb dL_close_16 (by decide) ?_
      exact lr_ret hx hb hr hlk hK hW (adk_rf _) hS (Nat.le_of_ble_eq_true rfl) (Nat.le_of_ble_eq_true rfl) (by rw [hg] <;> rfl) (by rw [zV, if_neg hne]) dL_close_17
  · refine lv_goto (tgt := 18) hx hb dL_close_6 (by decide) ?_
    refine lv_iconst (v := 0) hx hb dL_close_18 (by decide) ?_
    exact lr_ret hx hb hr hlk hK hW (adk_rf _) hS (Nat.le_of_ble_eq_true rfl) (Nat.le_of_ble_eq_true rfl) (by rw [hk0] <;> rfl) (by rw [zV, if_pos hk0]) dL_close_19
set_option maxHeartbeats 4000000 in
theorem cd_left (q : qC) (f : Int32) (day : Int32) : (m_X7_left q f day).1 = 0 ∨ (m_X7_left q f day).1 = 1 ∨ (m_X7_left q f day).1 = 2 ∨ (m_X7_left q f day).1 = 3 := by
  have key : cP1 [0, 1, 2, 3] (m_X7_left q f day) := by
    unfold m_X7_left
    repeat' (refine it_p (fun h => ?_) (fun h => ?_))
    · exact it_l (by decide)
    · exact it_l (by decide)
    · exact it_e (nd_needRoom h) (by decide)
    · exact it_e (nd_needDayOfAct h) (by decide)
    · exact it_e (nd_folderAt h) (by decide)
  exact mem_4 key
set_option maxHeartbeats 4000000 in
set_option maxRecDepth 100000 in
theorem c_L_left (l : Launch) (hlt : l.stackTraces = false) (D : va_G) (b0 : Nat) (cA : Nat → ClassId) (ad : Nat → Nat → Nat) (mq : qM) (q : qC) (f : Int32) (day : Int32) (hI : cI q) : wc_ l yL_left wsL_left D b0 cA ad mq q [.ref (ad 0 0), .int f, .int day] ((m_X7_left q f day).1) (zV ((m_X7_left q f day).1) ((m_X7_left q f day).2) q) := by
  refine lr_of (by decide) rfl (Nat.le_of_ble_eq_true rfl) ?_
  intro p e s m below meth c hx hb hml hr hlk hown hts hK hW hKD hKX hKN hz hxt ls hl
  have hown : s.vm.findClass RL = some m.cls := hown
  have hS : va_S (wA b0) s.heap s.heap [] := va_S.rf
  have hl : lv_has ls 4 [(0, .ref (ad 0 0)), (1, .int f), (2, .int day)] := hl
  refine lv_aload_n hx hb dL_left_0 rfl (lv_at hl 0 rfl) ?_
  refine lv_iload_n hx hb dL_left_1 rfl (lv_at hl 1 rfl) ?_
  refine lv_iload_n hx hb dL_left_2 rfl (lv_at hl 2 rfl) ?_
  refine ox_callVv (C := RX7) (T := TX7) (N := 11) (ci := 6) (k := 0) (j := 0) (n := 2) (As := [.int f, .int day]) (rest := []) (z2 := (m_X7_left q f day).2) (k0 := (m_X7_left q f day).1) ⟨hx, hb, hml, hown, hts⟩ (c_X7_left l hlt D b0 cA ad mq q f day hI) (PO_k0) rfl gL_left_X7_left rfl (by decide +kernel) rfl ⟨Nat.le_of_ble_eq_true rfl, Nat.le_of_ble_eq_true rfl⟩ ⟨Nat.le_of_ble_eq_true rfl, Nat.le_of_ble_eq_true rfl⟩ hK hW hS hKD hKX hz hl.1 rfl (Nat.le_of_ble_eq_true rfl) dL_left_3 (fun hne H locs ce q9 hW hS h1 h2 h3 => ?_) (fun hk0 H locs hW hS => ?_)
  · rcases cd_left q f day with hg | hg | hg | hg
    · exact absurd hg hne
    · rw [hg] at h3
      refine vx_catch (own := RL) (name := "java/lang/IndexOutOfBoundsException") (E := "java/lang/IndexOutOfBoundsException") hown [] ⟨0, 6, 9, 13⟩ [⟨0, 6, 12, 15⟩, ⟨0, 6, 15, 21⟩] hxt (fun _ h => absurd h List.not_mem_nil) rfl (by decide) (hts _ (List.mem_of_getElem? (i := 1) rfl)) (va_Nw.use rfl hKX.2.2.2.1) h1 h2 h3 ?_
      refine lv_astore_n (lv' := [(3, .ref q9), (0, .ref (ad 0 0)), (1, .int f), (2, .int day)]) hx hb dL_left_9 rfl hl (by decide) rfl (fun ls hl => ?_)
      refine lv_iconst (v := 1) hx hb dL_left_10 (by decide) ?_
      exact lr_ret hx hb hr hlk hK hW (adk_rf _) hS (Nat.le_of_ble_eq_true rfl) (Nat.le_of_ble_eq_true rfl) (by rw [hg] <;> rfl) (by rw [zV, if_neg hne]) dL_left_11
    · rw [hg] at h3
      refine vx_catch (own := RL) (name := "java/lang/IllegalArgumentException") (E := "java/lang/IllegalArgumentException") hown [⟨0, 6, 9, 13⟩] ⟨0, 6, 12, 15⟩ [⟨0, 6, 15, 21⟩] hxt (List.forall_mem_cons.mpr ⟨Or.inr ⟨by decide, "java/lang/IndexOutOfBoundsException", hts _ (List.mem_of_getElem? (i := 1) rfl), hKN.1⟩, fun _ h => absurd h List.not_mem_nil⟩) rfl (by decide) (hts _ (List.mem_of_getElem? (i := 2) rfl)) (va_Nw.use rfl hKX.2.2.2.2.1) h1 h2 h3 ?_
      refine lv_astore_n (lv' := [(3, .ref q9), (0, .ref (ad 0 0)), (1, .int f), (2, .int day)]) hx hb dL_left_12 rfl hl (by decide) rfl (fun ls hl => ?_)
      refine lv_iconst (v := 2) hx hb dL_left_13 (by decide) ?_
      exact lr_ret hx hb hr hlk hK hW (adk_rf _) hS (Nat.le_of_ble_eq_true rfl) (Nat.le_of_ble_eq_true rfl) (by rw [hg] <;> rfl) (by rw [zV, if_neg hne]) dL_left_14
    · rw [hg] at h3
      refine vx_catch (own := RL) (name := "java/lang/IllegalStateException") (E := "java/lang/IllegalStateException") hown [⟨0, 6, 9, 13⟩, ⟨0, 6, 12, 15⟩] ⟨0, 6, 15, 21⟩ [] hxt (List.forall_mem_cons.mpr ⟨Or.inr ⟨by decide, "java/lang/IndexOutOfBoundsException", hts _ (List.mem_of_getElem? (i := 1) rfl), hKN.2.1⟩, List.forall_mem_cons.mpr ⟨Or.inr ⟨by decide, "java/lang/IllegalArgumentException", hts _ (List.mem_of_getElem? (i := 2) rfl), hKN.2.2⟩, fun _ h => absurd h List.not_mem_nil⟩⟩) rfl (by decide) (hts _ (List.mem_of_getElem? (i := 3) rfl)) (va_Nw.use rfl hKX.2.2.2.2.2.1) h1 h2 h3 ?_
      refine lv_astore_n (lv' := [(3, .ref q9), (0, .ref (ad 0 0)), (1, .int f), (2, .int day)]) hx hb dL_left_15 rfl hl (by decide) rfl (fun ls hl => ?_)
      refine lv_iconst (v := 3) hx hb dL_left_16 (by decide) ?_
      exact lr_ret hx hb hr hlk hK hW (adk_rf _) hS (Nat.le_of_ble_eq_true rfl) (Nat.le_of_ble_eq_true rfl) (by rw [hg] <;> rfl) (by rw [zV, if_neg hne]) dL_left_17
  · refine lv_goto (tgt := 18) hx hb dL_left_6 (by decide) ?_
    refine lv_iconst (v := 0) hx hb dL_left_18 (by decide) ?_
    exact lr_ret hx hb hr hlk hK hW (adk_rf _) hS (Nat.le_of_ble_eq_true rfl) (Nat.le_of_ble_eq_true rfl) (by rw [hk0] <;> rfl) (by rw [zV, if_pos hk0]) dL_left_19
set_option maxHeartbeats 4000000 in
theorem cd_file (q : qC) (f : Int32) (size : Int32) (dg : Int64) (ka : Int32) (kb : Int32) (kc : Int32) (day : Int32) : (m_X7_file q f size dg ka kb kc day).1 = 0 ∨ (m_X7_file q f size dg ka kb kc day).1 = 1 ∨ (m_X7_file q f size dg ka kb kc day).1 = 2 ∨ (m_X7_file q f size dg ka kb kc day).1 = 3 := by
  have key : cP1 [0, 1, 2, 3] (m_X7_file q f size dg ka kb kc day) := by
    unfold m_X7_file
    repeat' (refine it_p (fun h => ?_) (fun h => ?_))
    · exact it_l (by decide)
    · exact it_l (by decide)
    · exact it_l (by decide)
    · exact it_l (by decide)
    · exact it_e (nd_needRoom h) (by decide)
    · exact it_l (by decide)
    · exact it_e (nd_needDayOfAct h) (by decide)
    · exact it_e (nd_needKeyOrNone h) (by decide)
    · exact it_e (nd_needKeyOrNone h) (by decide)
    · exact it_e (nd_needKeyOrNone h) (by decide)
    · exact it_e (nd_folderAt h) (by decide)
  exact mem_4 key
set_option maxHeartbeats 4000000 in
set_option maxRecDepth 100000 in
theorem c_L_file (l : Launch) (hlt : l.stackTraces = false) (D : va_G) (b0 : Nat) (cA : Nat → ClassId) (ad : Nat → Nat → Nat) (mq : qM) (q : qC) (f : Int32) (size : Int32) (dg : Int64) (ka : Int32) (kb : Int32) (kc : Int32) (day : Int32) (hI : cI q) : wc_ l yL_file wsL_file D b0 cA ad mq q [.ref (ad 0 0), .int f, .int size, .long dg, .int ka, .int kb, .int kc, .int day, .ref (ad 22 0)] ((m_X7_file q f size dg ka kb kc day).1) (zL ((m_X7_file q f size dg ka kb kc day).1) (Int32.toInt64 ((m_X7_file q f size dg ka kb kc day).2.1)) ((m_X7_file q f size dg ka kb kc day).2.2) q) := by
  refine lr_of (by decide) rfl (Nat.le_of_ble_eq_true rfl) ?_
  intro p e s m below meth c hx hb hml hr hlk hown hts hK hW hKD hKX hKN hz hxt ls hl
  have hown : s.vm.findClass RL = some m.cls := hown
  have hS : va_S (wA b0) s.heap s.heap [] := va_S.rf
  have hl : lv_has ls 11 [(0, .ref (ad 0 0)), (1, .int f), (2, .int size), (3, .long dg), (5, .int ka), (6, .int kb), (7, .int kc), (8, .int day), (9, .ref (ad 22 0))] := hl
  refine lv_aload hx hb dL_file_0 (lv_at hl 8 rfl) ?_
  refine lv_iconst (v := 0) hx hb dL_file_2 (by decide) ?_
  refine lv_aload_n hx hb dL_file_3 rfl (lv_at hl 0 rfl) ?_
  refine lv_iload_n hx hb dL_file_4 rfl (lv_at hl 1 rfl) ?_
  refine lv_iload_n hx hb dL_file_5 rfl (lv_at hl 2 rfl) ?_
  refine lv_lload_n hx hb dL_file_6 rfl (lv_at hl 3 rfl) ?_
  refine lv_iload hx hb dL_file_7 (lv_at hl 4 rfl) ?_
  refine lv_iload hx hb dL_file_9 (lv_at hl 5 rfl) ?_
  refine lv_iload hx hb dL_file_11 (lv_at hl 6 rfl) ?_
  refine lv_iload hx hb dL_file_13 (lv_at hl 7 rfl) ?_
  refine od_callVi (C := RX7) (T := TX7) (N := 11) (ci := 6) (k := 0) (j := 0) (n := 7) (As := [.int f, .int size, .long dg, .int ka, .int kb, .int kc, .int day]) (rest := [.int 0, .ref (ad 22 0)]) (r := (m_X7_file q f size dg ka kb kc day).2.1) (z2 := (m_X7_file q f size dg ka kb kc day).2.2) (k0 := (m_X7_file q f size dg ka kb kc day).1) ⟨hx, hb, hml, hown, hts⟩ (c_X7_file l hlt D b0 cA ad mq q f size dg ka kb kc day hI) (PO_k0) rfl gL_file_X7_file rfl (by decide +kernel) rfl ⟨Nat.le_of_ble_eq_true rfl, Nat.le_of_ble_eq_true rfl⟩ ⟨Nat.le_of_ble_eq_true rfl, Nat.le_of_ble_eq_true rfl⟩ hK hW hS hKD hKX hz hl.1 rfl (Nat.le_of_ble_eq_true rfl) dL_file_15 (fun hne H locs ce q9 hW hS h1 h2 h3 => ?_) (fun hk0 u H locs hak hW hS => ?_)
  · rcases cd_file q f size dg ka kb kc day with hg | hg | hg | hg
    · exact absurd hg hne
    · rw [hg] at h3
      refine vx_catch (own := RL) (name := "java/lang/IndexOutOfBoundsException") (E := "java/lang/IndexOutOfBoundsException") hown [] ⟨0, 20, 23, 13⟩ [⟨0, 20, 27, 15⟩, ⟨0, 20, 31, 21⟩] hxt (fun _ h => absurd h List.not_mem_nil) rfl (by decide) (hts _ (List.mem_of_getElem? (i := 1) rfl)) (va_Nw.use rfl hKX.2.2.2.1) h1 h2 h3 ?_
      refine lv_astore (lv' := [(10, .ref q9), (0, .ref (ad 0 0)), (1, .int f), (2, .int size), (3, .long dg), (5, .int ka), (6, .int kb), (7, .int kc), (8, .int day), (9, .ref (ad 22 0))]) hx hb dL_file_23 hl (by decide) rfl (fun ls hl => ?_)
      refine lv_iconst (v := 1) hx hb dL_file_25 (by decide) ?_
      exact lr_ret hx hb hr hlk hK hW (adk_rf _) hS (Nat.le_of_ble_eq_true rfl) (Nat.le_of_ble_eq_true rfl) (by rw [hg] <;> rfl) (by rw [zL, if_neg hne]) dL_file_26
    · rw [hg] at h3
      refine vx_catch (own := RL) (name := "java/lang/IllegalArgumentException") (E := "java/lang/IllegalArgumentException") hown [⟨0, 20, 23, 13⟩] ⟨0, 20, 27, 15⟩ [⟨0, 20, 31, 21⟩] hxt (List.forall_mem_cons.mpr ⟨Or.inr ⟨by decide, "java/lang/IndexOutOfBoundsException", hts _ (List.mem_of_getElem? (i := 1) rfl), hKN.1⟩, fun _ h => absurd h List.not_mem_nil⟩) rfl (by decide) (hts _ (List.mem_of_getElem? (i := 2) rfl)) (va_Nw.use rfl hKX.2.2.2.2.1) h1 h2 h3 ?_
      refine lv_astore (lv' := [(10, .ref q9), (0, .ref (ad 0 0)), (1, .int f), (2, .int size), (3, .long dg), (5, .int ka), (6, .int kb), (7, .int kc), (8, .int day), (9, .ref (ad 22 0))]) hx hb dL_file_27 hl (by decide) rfl (fun ls hl => ?_)
      refine lv_iconst (v := 2) hx hb dL_file_29 (by decide) ?_
      exact lr_ret hx hb hr hlk hK hW (adk_rf _) hS (Nat.le_of_ble_eq_true rfl) (Nat.le_of_ble_eq_true rfl) (by rw [hg] <;> rfl) (by rw [zL, if_neg hne]) dL_file_30
    · rw [hg] at h3
      refine vx_catch (own := RL) (name := "java/lang/IllegalStateException") (E := "java/lang/IllegalStateException") hown [⟨0, 20, 23, 13⟩, ⟨0, 20, 27, 15⟩] ⟨0, 20, 31, 21⟩ [] hxt (List.forall_mem_cons.mpr ⟨Or.inr ⟨by decide, "java/lang/IndexOutOfBoundsException", hts _ (List.mem_of_getElem? (i := 1) rfl), hKN.2.1⟩, List.forall_mem_cons.mpr ⟨Or.inr ⟨by decide, "java/lang/IllegalArgumentException", hts _ (List.mem_of_getElem? (i := 2) rfl), hKN.2.2⟩, fun _ h => absurd h List.not_mem_nil⟩⟩) rfl (by decide) (hts _ (List.mem_of_getElem? (i := 3) rfl)) (va_Nw.use rfl hKX.2.2.2.2.2.1) h1 h2 h3 ?_
      refine lv_astore (lv' := [(10, .ref q9), (0, .ref (ad 0 0)), (1, .int f), (2, .int size), (3, .long dg), (5, .int ka), (6, .int kb), (7, .int kc), (8, .int day), (9, .ref (ad 22 0))]) hx hb dL_file_31 hl (by decide) rfl (fun ls hl => ?_)
      refine lv_iconst (v := 3) hx hb dL_file_33 (by decide) ?_
      exact lr_ret hx hb hr hlk hK hW (adk_rf _) hS (Nat.le_of_ble_eq_true rfl) (Nat.le_of_ble_eq_true rfl) (by rw [hg] <;> rfl) (by rw [zL, if_neg hne]) dL_file_34
  · refine lv_i2l hx hb dL_file_18 rfl ?_
    refine lr_last (hak 22 0 (by decide) (by decide) (by decide)).symm hx hb hK hW hS dL_file_19 (fun H locs hW hS => ?_)
    refine lv_goto (tgt := 35) hx hb dL_file_20 (by decide) ?_
    refine lv_iconst (v := 0) hx hb dL_file_35 (by decide) ?_
    exact lr_ret hx hb hr hlk hK hW hak hS (Nat.le_of_ble_eq_true rfl) (Nat.le_of_ble_eq_true rfl) (by rw [hk0] <;> rfl) (by rw [zL, if_pos hk0]) dL_file_36
set_option maxHeartbeats 4000000 in
theorem cd_hold (q : qC) (h : Int32) (f : Int32) (cl : Int32) (key : Int32) (fi : Int32) (la : Int32) : (m_X7_hold q h f cl key fi la).1 = 0 ∨ (m_X7_hold q h f cl key fi la).1 = 1 ∨ (m_X7_hold q h f cl key fi la).1 = 2 ∨ (m_X7_hold q h f cl key fi la).1 = 3 := by
  have key : cP1 [0, 1, 2, 3] (m_X7_hold q h f cl key fi la) := by
    unfold m_X7_hold
    repeat' (refine it_p (fun h => ?_) (fun h => ?_))
    · exact it_l (by decide)
    · exact it_l (by decide)
    · exact it_l (by decide)
    · exact it_e (nd_needRoom h) (by decide)
    · exact it_l (by decide)
    · exact it_e (nd_needDay h) (by decide)
    · exact it_e (nd_needDay h) (by decide)
    · exact it_e (nd_needKeyOrNone h) (by decide)
    · exact it_l (by decide)
    · exact it_l (by decide)
    · exact it_e (nd_needRoom h) (by decide)
    · exact it_l (by decide)
    · exact it_e (nd_needDay h) (by decide)
    · exact it_e (nd_needDay h) (by decide)
    · exact it_e (nd_needKeyOrNone h) (by decide)
    · exact it_e (nd_needClass h) (by decide)
    · exact it_l (by decide)
    · exact it_e (nd_needHold h) (by decide)
  exact mem_4 key
set_option maxHeartbeats 4000000 in
set_option maxRecDepth 100000 in
theorem c_L_hold (l : Launch) (hlt : l.stackTraces = false) (D : va_G) (b0 : Nat) (cA : Nat → ClassId) (ad : Nat → Nat → Nat) (mq : qM) (q : qC) (h : Int32) (f : Int32) (cl : Int32) (key : Int32) (fi : Int32) (la : Int32) (hI : cI q) : wc_ l yL_hold wsL_hold D b0 cA ad mq q [.ref (ad 0 0), .int h, .int f, .int cl, .int key, .int fi, .int la] ((m_X7_hold q h f cl key fi la).1) (zV ((m_X7_hold q h f cl key fi la).1) ((m_X7_hold q h f cl key fi la).2) q) := by
  refine lr_of (by decide) rfl (Nat.le_of_ble_eq_true rfl) ?_
  intro p e s m below meth c hx hb hml hr hlk hown hts hK hW hKD hKX hKN hz hxt ls hl
  have hown : s.vm.findClass RL = some m.cls := hown
  have hS : va_S (wA b0) s.heap s.heap [] := va_S.rf
  have hl : lv_has ls 8 [(0, .ref (ad 0 0)), (1, .int h), (2, .int f), (3, .int cl), (4, .int key), (5, .int fi), (6, .int la)] := hl
  refine lv_aload_n hx hb dL_hold_0 rfl (lv_at hl 0 rfl) ?_
  refine lv_iload_n hx hb dL_hold_1 rfl (lv_at hl 1 rfl) ?_
  refine lv_iload_n hx hb dL_hold_2 rfl (lv_at hl 2 rfl) ?_
  refine lv_iload_n hx hb dL_hold_3 rfl (lv_at hl 3 rfl) ?_
  refine lv_iload hx hb dL_hold_4 (lv_at hl 4 rfl) ?_
  refine lv_iload hx hb dL_hold_6 (lv_at hl 5 rfl) ?_
  refine lv_iload hx hb dL_hold_8 (lv_at hl 6 rfl) ?_
  refine ox_callVv (C := RX7) (T := TX7) (N := 11) (ci := 6) (k := 0) (j := 0) (n := 6) (As := [.int h, .int f, .int cl, .int key, .int fi, .int la]) (rest := []) (z2 := (m_X7_hold q h f cl key fi la).2) (k0 := (m_X7_hold q h f cl key fi la).1) ⟨hx, hb, hml, hown, hts⟩ (c_X7_hold l hlt D b0 cA ad mq q h f cl key fi la hI) (PO_k0) rfl gL_hold_X7_hold rfl (by decide +kernel) rfl ⟨Nat.le_of_ble_eq_true rfl, Nat.le_of_ble_eq_true rfl⟩ ⟨Nat.le_of_ble_eq_true rfl, Nat.le_of_ble_eq_true rfl⟩ hK hW hS hKD hKX hz hl.1 rfl (Nat.le_of_ble_eq_true rfl) dL_hold_10 (fun hne H locs ce q9 hW hS h1 h2 h3 => ?_) (fun hk0 H locs hW hS => ?_)
  · rcases cd_hold q h f cl key fi la with hg | hg | hg | hg
    · exact absurd hg hne
    · rw [hg] at h3
      refine vx_catch (own := RL) (name := "java/lang/IndexOutOfBoundsException") (E := "java/lang/IndexOutOfBoundsException") hown [] ⟨0, 13, 16, 13⟩ [⟨0, 13, 20, 15⟩, ⟨0, 13, 24, 21⟩] hxt (fun _ h => absurd h List.not_mem_nil) rfl (by decide) (hts _ (List.mem_of_getElem? (i := 1) rfl)) (va_Nw.use rfl hKX.2.2.2.1) h1 h2 h3 ?_
      refine lv_astore (lv' := [(7, .ref q9), (0, .ref (ad 0 0)), (1, .int h), (2, .int f), (3, .int cl), (4, .int key), (5, .int fi), (6, .int la)]) hx hb dL_hold_16 hl (by decide) rfl (fun ls hl => ?_)
      refine lv_iconst (v := 1) hx hb dL_hold_18 (by decide) ?_
      exact lr_ret hx hb hr hlk hK hW (adk_rf _) hS (Nat.le_of_ble_eq_true rfl) (Nat.le_of_ble_eq_true rfl) (by rw [hg] <;> rfl) (by rw [zV, if_neg hne]) dL_hold_19
    · rw [hg] at h3
      refine vx_catch (own := RL) (name := "java/lang/IllegalArgumentException") (E := "java/lang/IllegalArgumentException") hown [⟨0, 13, 16, 13⟩] ⟨0, 13, 20, 15⟩ [⟨0, 13, 24, 21⟩] hxt (List.forall_mem_cons.mpr ⟨Or.inr ⟨by decide, "java/lang/IndexOutOfBoundsException", hts _ (List.mem_of_getElem? (i := 1) rfl), hKN.1⟩, fun _ h => absurd h List.not_mem_nil⟩) rfl (by decide) (hts _ (List.mem_of_getElem? (i := 2) rfl)) (va_Nw.use rfl hKX.2.2.2.2.1) h1 h2 h3 ?_
      refine lv_astore (lv' := [(7, .ref q9), (0, .ref (ad 0 0)), (1, .int h), (2, .int f), (3, .int cl), (4, .int key), (5, .int fi), (6, .int la)]) hx hb dL_hold_20 hl (by decide) rfl (fun ls hl => ?_)
      refine lv_iconst (v := 2) hx hb dL_hold_22 (by decide) ?_
      exact lr_ret hx hb hr hlk hK hW (adk_rf _) hS (Nat.le_of_ble_eq_true rfl) (Nat.le_of_ble_eq_true rfl) (by rw [hg] <;> rfl) (by rw [zV, if_neg hne]) dL_hold_23
    · rw [hg] at h3
      refine vx_catch (own := RL) (name := "java/lang/IllegalStateException") (E := "java/lang/IllegalStateException") hown [⟨0, 13, 16, 13⟩, ⟨0, 13, 20, 15⟩] ⟨0, 13, 24, 21⟩ [] hxt (List.forall_mem_cons.mpr ⟨Or.inr ⟨by decide, "java/lang/IndexOutOfBoundsException", hts _ (List.mem_of_getElem? (i := 1) rfl), hKN.2.1⟩, List.forall_mem_cons.mpr ⟨Or.inr ⟨by decide, "java/lang/IllegalArgumentException", hts _ (List.mem_of_getElem? (i := 2) rfl), hKN.2.2⟩, fun _ h => absurd h List.not_mem_nil⟩⟩) rfl (by decide) (hts _ (List.mem_of_getElem? (i := 3) rfl)) (va_Nw.use rfl hKX.2.2.2.2.2.1) h1 h2 h3 ?_
      refine lv_astore (lv' := [(7, .ref q9), (0, .ref (ad 0 0)), (1, .int h), (2, .int f), (3, .int cl), (4, .int key), (5, .int fi), (6, .int la)]) hx hb dL_hold_24 hl (by decide) rfl (fun ls hl => ?_)
      refine lv_iconst (v := 3) hx hb dL_hold_26 (by decide) ?_
      exact lr_ret hx hb hr hlk hK hW (adk_rf _) hS (Nat.le_of_ble_eq_true rfl) (Nat.le_of_ble_eq_true rfl) (by rw [hg] <;> rfl) (by rw [zV, if_neg hne]) dL_hold_27
  · refine lv_goto (tgt := 28) hx hb dL_hold_13 (by decide) ?_
    refine lv_iconst (v := 0) hx hb dL_hold_28 (by decide) ?_
    exact lr_ret hx hb hr hlk hK hW (adk_rf _) hS (Nat.le_of_ble_eq_true rfl) (Nat.le_of_ble_eq_true rfl) (by rw [hk0] <;> rfl) (by rw [zV, if_pos hk0]) dL_hold_29
set_option maxHeartbeats 4000000 in
theorem cd_lift (q : qC) (h : Int32) : (m_X7_lift q h).1 = 0 ∨ (m_X7_lift q h).1 = 1 ∨ (m_X7_lift q h).1 = 3 := by
  have key : cP1 [0, 1, 3] (m_X7_lift q h) := by
    unfold m_X7_lift
    repeat' (refine it_p (fun h => ?_) (fun h => ?_))
    · exact it_l (by decide)
    · exact it_l (by decide)
    · exact it_e (nd_needRoom h) (by decide)
    · exact it_e (nd_needHold h) (by decide)
  exact mem_3 key
set_option maxHeartbeats 4000000 in
set_option maxRecDepth 100000 in
theorem c_L_lift (l : Launch) (hlt : l.stackTraces = false) (D : va_G) (b0 : Nat) (cA : Nat → ClassId) (ad : Nat → Nat → Nat) (mq : qM) (q : qC) (h : Int32) (hI : cI q) : wc_ l yL_lift wsL_lift D b0 cA ad mq q [.ref (ad 0 0), .int h] ((wkO (m_X7_lift q h).1)) (zV ((m_X7_lift q h).1) ((m_X7_lift q h).2) q) := by
  refine lr_of (by decide) rfl (Nat.le_of_ble_eq_true rfl) ?_
  intro p e s m below meth c hx hb hml hr hlk hown hts hK hW hKD hKX hKN hz hxt ls hl
  have hown : s.vm.findClass RL = some m.cls := hown
  have hS : va_S (wA b0) s.heap s.heap [] := va_S.rf
  have hl : lv_has ls 3 [(0, .ref (ad 0 0)), (1, .int h)] := hl
  refine lv_aload_n hx hb dL_lift_0 rfl (lv_at hl 0 rfl) ?_
  refine lv_iload_n hx hb dL_lift_1 rfl (lv_at hl 1 rfl) ?_
  refine ox_callVv (C := RX7) (T := TX7) (N := 11) (ci := 6) (k := 0) (j := 0) (n := 1) (As := [.int h]) (rest := []) (z2 := (m_X7_lift q h).2) (k0 := (m_X7_lift q h).1) ⟨hx, hb, hml, hown, hts⟩ (c_X7_lift l hlt D b0 cA ad mq q h hI) (PO_k0) rfl gL_lift_X7_lift rfl (by decide +kernel) rfl ⟨Nat.le_of_ble_eq_true rfl, Nat.le_of_ble_eq_true rfl⟩ ⟨Nat.le_of_ble_eq_true rfl, Nat.le_of_ble_eq_true rfl⟩ hK hW hS hKD hKX hz hl.1 rfl (Nat.le_of_ble_eq_true rfl) dL_lift_2 (fun hne H locs ce q9 hW hS h1 h2 h3 => ?_) (fun hk0 H locs hW hS => ?_)
  · rcases cd_lift q h with hg | hg | hg
    · exact absurd hg hne
    · rw [hg] at h3
      refine vx_catch (own := RL) (name := "java/lang/IndexOutOfBoundsException") (E := "java/lang/IndexOutOfBoundsException") hown [] ⟨0, 5, 8, 13⟩ [⟨0, 5, 11, 21⟩] hxt (fun _ h => absurd h List.not_mem_nil) rfl (by decide) (hts _ (List.mem_of_getElem? (i := 1) rfl)) (va_Nw.use rfl hKX.2.2.2.1) h1 h2 h3 ?_
      refine lv_astore_n (lv' := [(2, .ref q9), (0, .ref (ad 0 0)), (1, .int h)]) hx hb dL_lift_8 rfl hl (by decide) rfl (fun ls hl => ?_)
      refine lv_iconst (v := 1) hx hb dL_lift_9 (by decide) ?_
      exact lr_ret hx hb hr hlk hK hW (adk_rf _) hS (Nat.le_of_ble_eq_true rfl) (Nat.le_of_ble_eq_true rfl) (by rw [hg] <;> rfl) (by rw [zV, if_neg hne]) dL_lift_10
    · rw [hg] at h3
      refine vx_catch (own := RL) (name := "java/lang/IllegalStateException") (E := "java/lang/IllegalStateException") hown [⟨0, 5, 8, 13⟩] ⟨0, 5, 11, 21⟩ [] hxt (List.forall_mem_cons.mpr ⟨Or.inr ⟨by decide, "java/lang/IndexOutOfBoundsException", hts _ (List.mem_of_getElem? (i := 1) rfl), hKN.2.1⟩, fun _ h => absurd h List.not_mem_nil⟩) rfl (by decide) (hts _ (List.mem_of_getElem? (i := 2) rfl)) (va_Nw.use rfl hKX.2.2.2.2.2.1) h1 h2 h3 ?_
      refine lv_astore_n (lv' := [(2, .ref q9), (0, .ref (ad 0 0)), (1, .int h)]) hx hb dL_lift_11 rfl hl (by decide) rfl (fun ls hl => ?_)
      refine lv_iconst (v := 2) hx hb dL_lift_12 (by decide) ?_
      exact lr_ret hx hb hr hlk hK hW (adk_rf _) hS (Nat.le_of_ble_eq_true rfl) (Nat.le_of_ble_eq_true rfl) (by rw [hg] <;> rfl) (by rw [zV, if_neg hne]) dL_lift_13
  · refine lv_goto (tgt := 14) hx hb dL_lift_5 (by decide) ?_
    refine lv_iconst (v := 0) hx hb dL_lift_14 (by decide) ?_
    exact lr_ret hx hb hr hlk hK hW (adk_rf _) hS (Nat.le_of_ble_eq_true rfl) (Nat.le_of_ble_eq_true rfl) (by rw [hk0] <;> rfl) (by rw [zV, if_pos hk0]) dL_lift_15
set_option maxHeartbeats 4000000 in
theorem cd_covered (q : qC) (r : Int32) : (m_X7_covered q r).1 = 0 ∨ (m_X7_covered q r).1 = 1 := by
  have key : cP1 [0, 1] (m_X7_covered q r) := by
    unfold m_X7_covered
    repeat' (refine it_p (fun h => ?_) (fun h => ?_))
    · exact it_l (by decide)
    · exact it_e (nd_recordAt h) (by decide)
  exact mem_2 key
set_option maxHeartbeats 4000000 in
set_option maxRecDepth 100000 in
theorem c_L_covered (l : Launch) (hlt : l.stackTraces = false) (D : va_G) (b0 : Nat) (cA : Nat → ClassId) (ad : Nat → Nat → Nat) (mq : qM) (q : qC) (r : Int32) (hI : cI q) : wc_ l yL_covered wsL_covered D b0 cA ad mq q [.ref (ad 0 0), .int r, .ref (ad 22 0)] ((m_X7_covered q r).1) (zL ((m_X7_covered q r).1) (Int32.toInt64 ((m_X7_covered q r).2)) (q) q) := by
  refine lr_of (by decide) rfl (Nat.le_of_ble_eq_true rfl) ?_
  intro p e s m below meth c hx hb hml hr hlk hown hts hK hW hKD hKX hKN hz hxt ls hl
  have hown : s.vm.findClass RL = some m.cls := hown
  have hS : va_S (wA b0) s.heap s.heap [] := va_S.rf
  have hl : lv_has ls 4 [(0, .ref (ad 0 0)), (1, .int r), (2, .ref (ad 22 0))] := hl
  refine lv_aload_n hx hb dL_covered_0 rfl (lv_at hl 2 rfl) ?_
  refine lv_iconst (v := 0) hx hb dL_covered_1 (by decide) ?_
  refine lv_aload_n hx hb dL_covered_2 rfl (lv_at hl 0 rfl) ?_
  refine lv_iload_n hx hb dL_covered_3 rfl (lv_at hl 1 rfl) ?_
  refine ox_callVi (C := RX7) (T := TX7) (N := 11) (ci := 6) (k := 0) (j := 0) (n := 1) (As := [.int r]) (rest := [.int 0, .ref (ad 22 0)]) (r := (m_X7_covered q r).2) (z2 := q) (k0 := (m_X7_covered q r).1) ⟨hx, hb, hml, hown, hts⟩ (c_X7_covered l hlt D b0 cA ad mq q r hI) (PO_k0) rfl gL_covered_X7_covered rfl (by decide +kernel) rfl ⟨Nat.le_of_ble_eq_true rfl, Nat.le_of_ble_eq_true rfl⟩ ⟨Nat.le_of_ble_eq_true rfl, Nat.le_of_ble_eq_true rfl⟩ hK hW hS hKD hKX hz hl.1 rfl (Nat.le_of_ble_eq_true rfl) dL_covered_4 (fun hne H locs ce q9 hW hS h1 h2 h3 => ?_) (fun hk0 H locs hW hS => ?_)
  · rcases cd_covered q r with hg | hg
    · exact absurd hg hne
    · rw [hg] at h3
      refine vx_catch (own := RL) (name := "java/lang/IndexOutOfBoundsException") (E := "java/lang/IndexOutOfBoundsException") hown [] ⟨0, 9, 12, 13⟩ [] hxt (fun _ h => absurd h List.not_mem_nil) rfl (by decide) (hts _ (List.mem_of_getElem? (i := 1) rfl)) (va_Nw.use rfl hKX.2.2.2.1) h1 h2 h3 ?_
      refine lv_astore_n (lv' := [(3, .ref q9), (0, .ref (ad 0 0)), (1, .int r), (2, .ref (ad 22 0))]) hx hb dL_covered_12 rfl hl (by decide) rfl (fun ls hl => ?_)
      refine lv_iconst (v := 1) hx hb dL_covered_13 (by decide) ?_
      exact lr_ret hx hb hr hlk hK hW (adk_rf _) hS (Nat.le_of_ble_eq_true rfl) (Nat.le_of_ble_eq_true rfl) (by rw [hg] <;> rfl) (by rw [zL, if_neg hne]) dL_covered_14
  · refine lv_i2l hx hb dL_covered_7 rfl ?_
    refine lr_last rfl hx hb hK hW hS dL_covered_8 (fun H locs hW hS => ?_)
    refine lv_goto (tgt := 15) hx hb dL_covered_9 (by decide) ?_
    refine lv_iconst (v := 0) hx hb dL_covered_15 (by decide) ?_
    exact lr_ret hx hb hr hlk hK hW (adk_rf _) hS (Nat.le_of_ble_eq_true rfl) (Nat.le_of_ble_eq_true rfl) (by rw [hk0] <;> rfl) (by rw [zL, if_pos hk0]) dL_covered_16
set_option maxHeartbeats 4000000 in
theorem cd_due (q : qC) (r : Int32) : (m_X7_due q r).1 = 0 ∨ (m_X7_due q r).1 = 1 := by
  have key : cP1 [0, 1] (m_X7_due q r) := by
    unfold m_X7_due
    repeat' (refine it_p (fun h => ?_) (fun h => ?_))
    · exact it_l (by decide)
    · exact it_e (nd_recordAt h) (by decide)
  exact mem_2 key
set_option maxHeartbeats 4000000 in
set_option maxRecDepth 100000 in
theorem c_L_due (l : Launch) (hlt : l.stackTraces = false) (D : va_G) (b0 : Nat) (cA : Nat → ClassId) (ad : Nat → Nat → Nat) (mq : qM) (q : qC) (r : Int32) (hI : cI q) : wc_ l yL_due wsL_due D b0 cA ad mq q [.ref (ad 0 0), .int r, .ref (ad 22 0)] ((m_X7_due q r).1) (zL ((m_X7_due q r).1) (Int32.toInt64 ((m_X7_due q r).2)) (q) q) := by
  refine lr_of (by decide) rfl (Nat.le_of_ble_eq_true rfl) ?_
  intro p e s m below meth c hx hb hml hr hlk hown hts hK hW hKD hKX hKN hz hxt ls hl
  have hown : s.vm.findClass RL = some m.cls := hown
  have hS : va_S (wA b0) s.heap s.heap [] := va_S.rf
  have hl : lv_has ls 4 [(0, .ref (ad 0 0)), (1, .int r), (2, .ref (ad 22 0))] := hl
  refine lv_aload_n hx hb dL_due_0 rfl (lv_at hl 2 rfl) ?_
  refine lv_iconst (v := 0) hx hb dL_due_1 (by decide) ?_
  refine lv_aload_n hx hb dL_due_2 rfl (lv_at hl 0 rfl) ?_
  refine lv_iload_n hx hb dL_due_3 rfl (lv_at hl 1 rfl) ?_
  refine ox_callVi (C := RX7) (T := TX7) (N := 11) (ci := 6) (k := 0) (j := 0) (n := 1) (As := [.int r]) (rest := [.int 0, .ref (ad 22 0)]) (r := (m_X7_due q r).2) (z2 := q) (k0 := (m_X7_due q r).1) ⟨hx, hb, hml, hown, hts⟩ (c_X7_due l hlt D b0 cA ad mq q r hI) (PO_k0) rfl gL_due_X7_due rfl (by decide +kernel) rfl ⟨Nat.le_of_ble_eq_true rfl, Nat.le_of_ble_eq_true rfl⟩ ⟨Nat.le_of_ble_eq_true rfl, Nat.le_of_ble_eq_true rfl⟩ hK hW hS hKD hKX hz hl.1 rfl (Nat.le_of_ble_eq_true rfl) dL_due_4 (fun hne H locs ce q9 hW hS h1 h2 h3 => ?_) (fun hk0 H locs hW hS => ?_)
  · rcases cd_due q r with hg | hg
    · exact absurd hg hne
    · rw [hg] at h3
      refine vx_catch (own := RL) (name := "java/lang/IndexOutOfBoundsException") (E := "java/lang/IndexOutOfBoundsException") hown [] ⟨0, 9, 12, 13⟩ [] hxt (fun _ h => absurd h List.not_mem_nil) rfl (by decide) (hts _ (List.mem_of_getElem? (i := 1) rfl)) (va_Nw.use rfl hKX.2.2.2.1) h1 h2 h3 ?_
      refine lv_astore_n (lv' := [(3, .ref q9), (0, .ref (ad 0 0)), (1, .int r), (2, .ref (ad 22 0))]) hx hb dL_due_12 rfl hl (by decide) rfl (fun ls hl => ?_)
      refine lv_iconst (v := 1) hx hb dL_due_13 (by decide) ?_
      exact lr_ret hx hb hr hlk hK hW (adk_rf _) hS (Nat.le_of_ble_eq_true rfl) (Nat.le_of_ble_eq_true rfl) (by rw [hg] <;> rfl) (by rw [zL, if_neg hne]) dL_due_14
  · refine lv_i2l hx hb dL_due_7 rfl ?_
    refine lr_last rfl hx hb hK hW hS dL_due_8 (fun H locs hW hS => ?_)
    refine lv_goto (tgt := 15) hx hb dL_due_9 (by decide) ?_
    refine lv_iconst (v := 0) hx hb dL_due_15 (by decide) ?_
    exact lr_ret hx hb hr hlk hK hW (adk_rf _) hS (Nat.le_of_ble_eq_true rfl) (Nat.le_of_ble_eq_true rfl) (by rw [hk0] <;> rfl) (by rw [zL, if_pos hk0]) dL_due_16
set_option maxHeartbeats 4000000 in
theorem cd_record (q : qC) (r : Int32) (what : Int32) : (m_X7_record q r what).1 = 0 ∨ (m_X7_record q r what).1 = 1 ∨ (m_X7_record q r what).1 = 2 := by
  have key : cP1 [0, 1, 2] (m_X7_record q r what) := by
    unfold m_X7_record
    repeat' (refine it_p (fun h => ?_) (fun h => ?_))
    · exact it_l (by decide)
    · exact it_l (by decide)
    · exact it_l (by decide)
    · exact it_l (by decide)
    · exact it_l (by decide)
    · exact it_l (by decide)
    · exact it_l (by decide)
    · exact it_e (nd_recordAt h) (by decide)
  exact mem_3 key
set_option maxHeartbeats 4000000 in
set_option maxRecDepth 100000 in
theorem c_L_record (l : Launch) (hlt : l.stackTraces = false) (D : va_G) (b0 : Nat) (cA : Nat → ClassId) (ad : Nat → Nat → Nat) (mq : qM) (q : qC) (r : Int32) (what : Int32) (hI : cI q) : wc_ l yL_record wsL_record D b0 cA ad mq q [.ref (ad 0 0), .int r, .int what, .ref (ad 22 0)] ((m_X7_record q r what).1) (zL ((m_X7_record q r what).1) (Int32.toInt64 ((m_X7_record q r what).2)) (q) q) := by
  refine lr_of (by decide) rfl (Nat.le_of_ble_eq_true rfl) ?_
  intro p e s m below meth c hx hb hml hr hlk hown hts hK hW hKD hKX hKN hz hxt ls hl
  have hown : s.vm.findClass RL = some m.cls := hown
  have hS : va_S (wA b0) s.heap s.heap [] := va_S.rf
  have hl : lv_has ls 5 [(0, .ref (ad 0 0)), (1, .int r), (2, .int what), (3, .ref (ad 22 0))] := hl
  refine lv_aload_n hx hb dL_record_0 rfl (lv_at hl 3 rfl) ?_
  refine lv_iconst (v := 0) hx hb dL_record_1 (by decide) ?_
  refine lv_aload_n hx hb dL_record_2 rfl (lv_at hl 0 rfl) ?_
  refine lv_iload_n hx hb dL_record_3 rfl (lv_at hl 1 rfl) ?_
  refine lv_iload_n hx hb dL_record_4 rfl (lv_at hl 2 rfl) ?_
  refine ox_callVi (C := RX7) (T := TX7) (N := 11) (ci := 6) (k := 0) (j := 0) (n := 2) (As := [.int r, .int what]) (rest := [.int 0, .ref (ad 22 0)]) (r := (m_X7_record q r what).2) (z2 := q) (k0 := (m_X7_record q r what).1) ⟨hx, hb, hml, hown, hts⟩ (c_X7_record l hlt D b0 cA ad mq q r what hI) (PO_k0) rfl gL_record_X7_record rfl (by decide +kernel) rfl ⟨Nat.le_of_ble_eq_true rfl, Nat.le_of_ble_eq_true rfl⟩ ⟨Nat.le_of_ble_eq_true rfl, Nat.le_of_ble_eq_true rfl⟩ hK hW hS hKD hKX hz hl.1 rfl (Nat.le_of_ble_eq_true rfl) dL_record_5 (fun hne H locs ce q9 hW hS h1 h2 h3 => ?_) (fun hk0 H locs hW hS => ?_)
  · rcases cd_record q r what with hg | hg | hg
    · exact absurd hg hne
    · rw [hg] at h3
      refine vx_catch (own := RL) (name := "java/lang/IndexOutOfBoundsException") (E := "java/lang/IndexOutOfBoundsException") hown [] ⟨0, 10, 13, 13⟩ [⟨0, 10, 17, 15⟩] hxt (fun _ h => absurd h List.not_mem_nil) rfl (by decide) (hts _ (List.mem_of_getElem? (i := 1) rfl)) (va_Nw.use rfl hKX.2.2.2.1) h1 h2 h3 ?_
      refine lv_astore (lv' := [(4, .ref q9), (0, .ref (ad 0 0)), (1, .int r), (2, .int what), (3, .ref (ad 22 0))]) hx hb dL_record_13 hl (by decide) rfl (fun ls hl => ?_)
      refine lv_iconst (v := 1) hx hb dL_record_15 (by decide) ?_
      exact lr_ret hx hb hr hlk hK hW (adk_rf _) hS (Nat.le_of_ble_eq_true rfl) (Nat.le_of_ble_eq_true rfl) (by rw [hg] <;> rfl) (by rw [zL, if_neg hne]) dL_record_16
    · rw [hg] at h3
      refine vx_catch (own := RL) (name := "java/lang/IllegalArgumentException") (E := "java/lang/IllegalArgumentException") hown [⟨0, 10, 13, 13⟩] ⟨0, 10, 17, 15⟩ [] hxt (List.forall_mem_cons.mpr ⟨Or.inr ⟨by decide, "java/lang/IndexOutOfBoundsException", hts _ (List.mem_of_getElem? (i := 1) rfl), hKN.1⟩, fun _ h => absurd h List.not_mem_nil⟩) rfl (by decide) (hts _ (List.mem_of_getElem? (i := 2) rfl)) (va_Nw.use rfl hKX.2.2.2.2.1) h1 h2 h3 ?_
      refine lv_astore (lv' := [(4, .ref q9), (0, .ref (ad 0 0)), (1, .int r), (2, .int what), (3, .ref (ad 22 0))]) hx hb dL_record_17 hl (by decide) rfl (fun ls hl => ?_)
      refine lv_iconst (v := 2) hx hb dL_record_19 (by decide) ?_
      exact lr_ret hx hb hr hlk hK hW (adk_rf _) hS (Nat.le_of_ble_eq_true rfl) (Nat.le_of_ble_eq_true rfl) (by rw [hg] <;> rfl) (by rw [zL, if_neg hne]) dL_record_20
  · refine lv_i2l hx hb dL_record_8 rfl ?_
    refine lr_last rfl hx hb hK hW hS dL_record_9 (fun H locs hW hS => ?_)
    refine lv_goto (tgt := 21) hx hb dL_record_10 (by decide) ?_
    refine lv_iconst (v := 0) hx hb dL_record_21 (by decide) ?_
    exact lr_ret hx hb hr hlk hK hW (adk_rf _) hS (Nat.le_of_ble_eq_true rfl) (Nat.le_of_ble_eq_true rfl) (by rw [hk0] <;> rfl) (by rw [zL, if_pos hk0]) dL_record_22
set_option maxHeartbeats 4000000 in
theorem cd_read (q : qC) (r : Int32) : (m_X7_read q r).1 = 0 ∨ (m_X7_read q r).1 = 1 ∨ (m_X7_read q r).1 = 3 := by
  have key : cP1 [0, 1, 3] (m_X7_read q r) := by
    unfold m_X7_read
    repeat' (refine it_p (fun h => ?_) (fun h => ?_))
    · exact it_l (by decide)
    · exact it_l (by decide)
    · exact it_e (nd_recordAt h) (by decide)
  exact mem_3 key
set_option maxHeartbeats 4000000 in
set_option maxRecDepth 100000 in
theorem c_L_read (l : Launch) (hlt : l.stackTraces = false) (D : va_G) (b0 : Nat) (cA : Nat → ClassId) (ad : Nat → Nat → Nat) (mq : qM) (q : qC) (r : Int32) (hI : cI q) : wc_ l yL_read wsL_read D b0 cA ad mq q [.ref (ad 0 0), .int r, .ref (ad 22 0)] ((wkO (m_X7_read q r).1)) (zL ((m_X7_read q r).1) ((m_X7_read q r).2) (q) q) := by
  refine lr_of (by decide) rfl (Nat.le_of_ble_eq_true rfl) ?_
  intro p e s m below meth c hx hb hml hr hlk hown hts hK hW hKD hKX hKN hz hxt ls hl
  have hown : s.vm.findClass RL = some m.cls := hown
  have hS : va_S (wA b0) s.heap s.heap [] := va_S.rf
  have hl : lv_has ls 4 [(0, .ref (ad 0 0)), (1, .int r), (2, .ref (ad 22 0))] := hl
  refine lv_aload_n hx hb dL_read_0 rfl (lv_at hl 2 rfl) ?_
  refine lv_iconst (v := 0) hx hb dL_read_1 (by decide) ?_
  refine lv_aload_n hx hb dL_read_2 rfl (lv_at hl 0 rfl) ?_
  refine lv_iload_n hx hb dL_read_3 rfl (lv_at hl 1 rfl) ?_
  refine ox_callVl (C := RX7) (T := TX7) (N := 11) (ci := 6) (k := 0) (j := 0) (n := 1) (As := [.int r]) (rest := [.int 0, .ref (ad 22 0)]) (r := (m_X7_read q r).2) (z2 := q) (k0 := (m_X7_read q r).1) ⟨hx, hb, hml, hown, hts⟩ (c_X7_read l hlt D b0 cA ad mq q r hI) (PO_k0) rfl gL_read_X7_read rfl (by decide +kernel) rfl ⟨Nat.le_of_ble_eq_true rfl, Nat.le_of_ble_eq_true rfl⟩ ⟨Nat.le_of_ble_eq_true rfl, Nat.le_of_ble_eq_true rfl⟩ hK hW hS hKD hKX hz hl.1 rfl (Nat.le_of_ble_eq_true rfl) dL_read_4 (fun hne H locs ce q9 hW hS h1 h2 h3 => ?_) (fun hk0 H locs hW hS => ?_)
  · rcases cd_read q r with hg | hg | hg
    · exact absurd hg hne
    · rw [hg] at h3
      refine vx_catch (own := RL) (name := "java/lang/IndexOutOfBoundsException") (E := "java/lang/IndexOutOfBoundsException") hown [] ⟨0, 8, 11, 13⟩ [⟨0, 8, 14, 21⟩] hxt (fun _ h => absurd h List.not_mem_nil) rfl (by decide) (hts _ (List.mem_of_getElem? (i := 1) rfl)) (va_Nw.use rfl hKX.2.2.2.1) h1 h2 h3 ?_
      refine lv_astore_n (lv' := [(3, .ref q9), (0, .ref (ad 0 0)), (1, .int r), (2, .ref (ad 22 0))]) hx hb dL_read_11 rfl hl (by decide) rfl (fun ls hl => ?_)
      refine lv_iconst (v := 1) hx hb dL_read_12 (by decide) ?_
      exact lr_ret hx hb hr hlk hK hW (adk_rf _) hS (Nat.le_of_ble_eq_true rfl) (Nat.le_of_ble_eq_true rfl) (by rw [hg] <;> rfl) (by rw [zL, if_neg hne]) dL_read_13
    · rw [hg] at h3
      refine vx_catch (own := RL) (name := "java/lang/IllegalStateException") (E := "java/lang/IllegalStateException") hown [⟨0, 8, 11, 13⟩] ⟨0, 8, 14, 21⟩ [] hxt (List.forall_mem_cons.mpr ⟨Or.inr ⟨by decide, "java/lang/IndexOutOfBoundsException", hts _ (List.mem_of_getElem? (i := 1) rfl), hKN.2.1⟩, fun _ h => absurd h List.not_mem_nil⟩) rfl (by decide) (hts _ (List.mem_of_getElem? (i := 2) rfl)) (va_Nw.use rfl hKX.2.2.2.2.2.1) h1 h2 h3 ?_
      refine lv_astore_n (lv' := [(3, .ref q9), (0, .ref (ad 0 0)), (1, .int r), (2, .ref (ad 22 0))]) hx hb dL_read_14 rfl hl (by decide) rfl (fun ls hl => ?_)
      refine lv_iconst (v := 2) hx hb dL_read_15 (by decide) ?_
      exact lr_ret hx hb hr hlk hK hW (adk_rf _) hS (Nat.le_of_ble_eq_true rfl) (Nat.le_of_ble_eq_true rfl) (by rw [hg] <;> rfl) (by rw [zL, if_neg hne]) dL_read_16
  · refine lr_last rfl hx hb hK hW hS dL_read_7 (fun H locs hW hS => ?_)
    refine lv_goto (tgt := 17) hx hb dL_read_8 (by decide) ?_
    refine lv_iconst (v := 0) hx hb dL_read_17 (by decide) ?_
    exact lr_ret hx hb hr hlk hK hW (adk_rf _) hS (Nat.le_of_ble_eq_true rfl) (Nat.le_of_ble_eq_true rfl) (by rw [hk0] <;> rfl) (by rw [zL, if_pos hk0]) dL_read_18
set_option maxHeartbeats 4000000 in
theorem cd_find (q : qC) (key : Int32) (fi : Int32) (la : Int32) (k : Int32) : (m_X7_find q key fi la k).1 = 0 ∨ (m_X7_find q key fi la k).1 = 2 := by
  have key : cP1 [0, 2] (m_X7_find q key fi la k) := by
    unfold m_X7_find
    repeat' (refine it_p (fun h => ?_) (fun h => ?_))
    · exact it_l (by decide)
    · exact it_l (by decide)
    · exact it_l (by decide)
    · exact it_l (by decide)
  exact mem_2 key
set_option maxHeartbeats 4000000 in
set_option maxRecDepth 100000 in
theorem c_L_find (l : Launch) (hlt : l.stackTraces = false) (D : va_G) (b0 : Nat) (cA : Nat → ClassId) (ad : Nat → Nat → Nat) (mq : qM) (q : qC) (key : Int32) (fi : Int32) (la : Int32) (k : Int32) (hI : cI q) : wc_ l yL_find wsL_find D b0 cA ad mq q [.ref (ad 0 0), .int key, .int fi, .int la, .int k, .ref (ad 22 0)] ((wkT (m_X7_find q key fi la k).1)) (zL ((m_X7_find q key fi la k).1) (Int32.toInt64 ((m_X7_find q key fi la k).2)) (q) q) := by
  refine lr_of (by decide) rfl (Nat.le_of_ble_eq_true rfl) ?_
  intro p e s m below meth c hx hb hml hr hlk hown hts hK hW hKD hKX hKN hz hxt ls hl
  have hown : s.vm.findClass RL = some m.cls := hown
  have hS : va_S (wA b0) s.heap s.heap [] := va_S.rf
  have hl : lv_has ls 7 [(0, .ref (ad 0 0)), (1, .int key), (2, .int fi), (3, .int la), (4, .int k), (5, .ref (ad 22 0))] := hl
  refine lv_aload hx hb dL_find_0 (lv_at hl 5 rfl) ?_
  refine lv_iconst (v := 0) hx hb dL_find_2 (by decide) ?_
  refine lv_aload_n hx hb dL_find_3 rfl (lv_at hl 0 rfl) ?_
  refine lv_iload_n hx hb dL_find_4 rfl (lv_at hl 1 rfl) ?_
  refine lv_iload_n hx hb dL_find_5 rfl (lv_at hl 2 rfl) ?_
  refine lv_iload_n hx hb dL_find_6 rfl (lv_at hl 3 rfl) ?_
  refine lv_iload hx hb dL_find_7 (lv_at hl 4 rfl) ?_
  refine ox_callVi (C := RX7) (T := TX7) (N := 11) (ci := 6) (k := 0) (j := 0) (n := 4) (As := [.int key, .int fi, .int la, .int k]) (rest := [.int 0, .ref (ad 22 0)]) (r := (m_X7_find q key fi la k).2) (z2 := q) (k0 := (m_X7_find q key fi la k).1) ⟨hx, hb, hml, hown, hts⟩ (c_X7_find l hlt D b0 cA ad mq q key fi la k hI) (PO_k0) rfl gL_find_X7_find rfl (by decide +kernel) rfl ⟨Nat.le_of_ble_eq_true rfl, Nat.le_of_ble_eq_true rfl⟩ ⟨Nat.le_of_ble_eq_true rfl, Nat.le_of_ble_eq_true rfl⟩ hK hW hS hKD hKX hz hl.1 rfl (Nat.le_of_ble_eq_true rfl) dL_find_9 (fun hne H locs ce q9 hW hS h1 h2 h3 => ?_) (fun hk0 H locs hW hS => ?_)
  · rcases cd_find q key fi la k with hg | hg
    · exact absurd hg hne
    · rw [hg] at h3
      refine vx_catch (own := RL) (name := "java/lang/IllegalArgumentException") (E := "java/lang/IllegalArgumentException") hown [] ⟨0, 14, 17, 15⟩ [] hxt (fun _ h => absurd h List.not_mem_nil) rfl (by decide) (hts _ (List.mem_of_getElem? (i := 1) rfl)) (va_Nw.use rfl hKX.2.2.2.2.1) h1 h2 h3 ?_
      refine lv_astore (lv' := [(6, .ref q9), (0, .ref (ad 0 0)), (1, .int key), (2, .int fi), (3, .int la), (4, .int k), (5, .ref (ad 22 0))]) hx hb dL_find_17 hl (by decide) rfl (fun ls hl => ?_)
      refine lv_iconst (v := 1) hx hb dL_find_19 (by decide) ?_
      exact lr_ret hx hb hr hlk hK hW (adk_rf _) hS (Nat.le_of_ble_eq_true rfl) (Nat.le_of_ble_eq_true rfl) (by rw [hg] <;> rfl) (by rw [zL, if_neg hne]) dL_find_20
  · refine lv_i2l hx hb dL_find_12 rfl ?_
    refine lr_last rfl hx hb hK hW hS dL_find_13 (fun H locs hW hS => ?_)
    refine lv_goto (tgt := 21) hx hb dL_find_14 (by decide) ?_
    refine lv_iconst (v := 0) hx hb dL_find_21 (by decide) ?_
    exact lr_ret hx hb hr hlk hK hW (adk_rf _) hS (Nat.le_of_ble_eq_true rfl) (Nat.le_of_ble_eq_true rfl) (by rw [hk0] <;> rfl) (by rw [zL, if_pos hk0]) dL_find_22
set_option maxHeartbeats 4000000 in
theorem cd_draw (q : qC) (o : Int32) (day : Int32) : (m_X7_draw q o day).1 = 0 ∨ (m_X7_draw q o day).1 = 1 ∨ (m_X7_draw q o day).1 = 2 ∨ (m_X7_draw q o day).1 = 3 := by
  have key : cP1 [0, 1, 2, 3] (m_X7_draw q o day) := by
    unfold m_X7_draw
    repeat' (refine it_p (fun h => ?_) (fun h => ?_))
    · exact it_l (by decide)
    · exact it_l (by decide)
    · exact it_l (by decide)
    · exact it_e (nd_needRoom h) (by decide)
    · exact it_e (nd_needRight h) (by decide)
    · exact it_e (nd_needDayOfAct h) (by decide)
    · exact it_e (nd_needOfficer h) (by decide)
  exact mem_4 key
set_option maxHeartbeats 4000000 in
set_option maxRecDepth 100000 in
theorem c_L_draw (l : Launch) (hlt : l.stackTraces = false) (D : va_G) (b0 : Nat) (cA : Nat → ClassId) (ad : Nat → Nat → Nat) (mq : qM) (q : qC) (o : Int32) (day : Int32) (hI : cI q) : wc_ l yL_draw wsL_draw D b0 cA ad mq q [.ref (ad 0 0), .int o, .int day, .ref (ad 22 0)] ((m_X7_draw q o day).1) (zL ((m_X7_draw q o day).1) (Int32.toInt64 ((m_X7_draw q o day).2.1)) ((m_X7_draw q o day).2.2) q) := by
  refine lr_of (by decide) rfl (Nat.le_of_ble_eq_true rfl) ?_
  intro p e s m below meth c hx hb hml hr hlk hown hts hK hW hKD hKX hKN hz hxt ls hl
  have hown : s.vm.findClass RL = some m.cls := hown
  have hS : va_S (wA b0) s.heap s.heap [] := va_S.rf
  have hl : lv_has ls 5 [(0, .ref (ad 0 0)), (1, .int o), (2, .int day), (3, .ref (ad 22 0))] := hl
  refine lv_aload_n hx hb dL_draw_0 rfl (lv_at hl 3 rfl) ?_
  refine lv_iconst (v := 0) hx hb dL_draw_1 (by decide) ?_
  refine lv_aload_n hx hb dL_draw_2 rfl (lv_at hl 0 rfl) ?_
  refine lv_iload_n hx hb dL_draw_3 rfl (lv_at hl 1 rfl) ?_
  refine lv_iload_n hx hb dL_draw_4 rfl (lv_at hl 2 rfl) ?_
  refine od_callVi (C := RX7) (T := TX7) (N := 11) (ci := 6) (k := 0) (j := 0) (n := 2) (As := [.int o, .int day]) (rest := [.int 0, .ref (ad 22 0)]) (r := (m_X7_draw q o day).2.1) (z2 := (m_X7_draw q o day).2.2) (k0 := (m_X7_draw q o day).1) ⟨hx, hb, hml, hown, hts⟩ (c_X7_draw l hlt D b0 cA ad mq q o day hI) (PO_k0) rfl gL_draw_X7_draw rfl (by decide +kernel) rfl ⟨Nat.le_of_ble_eq_true rfl, Nat.le_of_ble_eq_true rfl⟩ ⟨Nat.le_of_ble_eq_true rfl, Nat.le_of_ble_eq_true rfl⟩ hK hW hS hKD hKX hz hl.1 rfl (Nat.le_of_ble_eq_true rfl) dL_draw_5 (fun hne H locs ce q9 hW hS h1 h2 h3 => ?_) (fun hk0 u H locs hak hW hS => ?_)
  · rcases cd_draw q o day with hg | hg | hg | hg
    · exact absurd hg hne
    · rw [hg] at h3
      refine vx_catch (own := RL) (name := "java/lang/IndexOutOfBoundsException") (E := "java/lang/IndexOutOfBoundsException") hown [] ⟨0, 10, 13, 13⟩ [⟨0, 10, 17, 15⟩, ⟨0, 10, 21, 21⟩] hxt (fun _ h => absurd h List.not_mem_nil) rfl (by decide) (hts _ (List.mem_of_getElem? (i := 1) rfl)) (va_Nw.use rfl hKX.2.2.2.1) h1 h2 h3 ?_
      refine lv_astore (lv' := [(4, .ref q9), (0, .ref (ad 0 0)), (1, .int o), (2, .int day), (3, .ref (ad 22 0))]) hx hb dL_draw_13 hl (by decide) rfl (fun ls hl => ?_)
      refine lv_iconst (v := 1) hx hb dL_draw_15 (by decide) ?_
      exact lr_ret hx hb hr hlk hK hW (adk_rf _) hS (Nat.le_of_ble_eq_true rfl) (Nat.le_of_ble_eq_true rfl) (by rw [hg] <;> rfl) (by rw [zL, if_neg hne]) dL_draw_16
    · rw [hg] at h3
      refine vx_catch (own := RL) (name := "java/lang/IllegalArgumentException") (E := "java/lang/IllegalArgumentException") hown [⟨0, 10, 13, 13⟩] ⟨0, 10, 17, 15⟩ [⟨0, 10, 21, 21⟩] hxt (List.forall_mem_cons.mpr ⟨Or.inr ⟨by decide, "java/lang/IndexOutOfBoundsException", hts _ (List.mem_of_getElem? (i := 1) rfl), hKN.1⟩, fun _ h => absurd h List.not_mem_nil⟩) rfl (by decide) (hts _ (List.mem_of_getElem? (i := 2) rfl)) (va_Nw.use rfl hKX.2.2.2.2.1) h1 h2 h3 ?_
      refine lv_astore (lv' := [(4, .ref q9), (0, .ref (ad 0 0)), (1, .int o), (2, .int day), (3, .ref (ad 22 0))]) hx hb dL_draw_17 hl (by decide) rfl (fun ls hl => ?_)
      refine lv_iconst (v := 2) hx hb dL_draw_19 (by decide) ?_
      exact lr_ret hx hb hr hlk hK hW (adk_rf _) hS (Nat.le_of_ble_eq_true rfl) (Nat.le_of_ble_eq_true rfl) (by rw [hg] <;> rfl) (by rw [zL, if_neg hne]) dL_draw_20
    · rw [hg] at h3
      refine vx_catch (own := RL) (name := "java/lang/IllegalStateException") (E := "java/lang/IllegalStateException") hown [⟨0, 10, 13, 13⟩, ⟨0, 10, 17, 15⟩] ⟨0, 10, 21, 21⟩ [] hxt (List.forall_mem_cons.mpr ⟨Or.inr ⟨by decide, "java/lang/IndexOutOfBoundsException", hts _ (List.mem_of_getElem? (i := 1) rfl), hKN.2.1⟩, List.forall_mem_cons.mpr ⟨Or.inr ⟨by decide, "java/lang/IllegalArgumentException", hts _ (List.mem_of_getElem? (i := 2) rfl), hKN.2.2⟩, fun _ h => absurd h List.not_mem_nil⟩⟩) rfl (by decide) (hts _ (List.mem_of_getElem? (i := 3) rfl)) (va_Nw.use rfl hKX.2.2.2.2.2.1) h1 h2 h3 ?_
      refine lv_astore (lv' := [(4, .ref q9), (0, .ref (ad 0 0)), (1, .int o), (2, .int day), (3, .ref (ad 22 0))]) hx hb dL_draw_21 hl (by decide) rfl (fun ls hl => ?_)
      refine lv_iconst (v := 3) hx hb dL_draw_23 (by decide) ?_
      exact lr_ret hx hb hr hlk hK hW (adk_rf _) hS (Nat.le_of_ble_eq_true rfl) (Nat.le_of_ble_eq_true rfl) (by rw [hg] <;> rfl) (by rw [zL, if_neg hne]) dL_draw_24
  · refine lv_i2l hx hb dL_draw_8 rfl ?_
    refine lr_last (hak 22 0 (by decide) (by decide) (by decide)).symm hx hb hK hW hS dL_draw_9 (fun H locs hW hS => ?_)
    refine lv_goto (tgt := 25) hx hb dL_draw_10 (by decide) ?_
    refine lv_iconst (v := 0) hx hb dL_draw_25 (by decide) ?_
    exact lr_ret hx hb hr hlk hK hW hak hS (Nat.le_of_ble_eq_true rfl) (Nat.le_of_ble_eq_true rfl) (by rw [hk0] <;> rfl) (by rw [zL, if_pos hk0]) dL_draw_26
set_option maxHeartbeats 4000000 in
theorem cd_listed (q : qC) (li : Int32) (i : Int32) : (m_X7_listed q li i).1 = 0 ∨ (m_X7_listed q li i).1 = 1 := by
  have key : cP1 [0, 1] (m_X7_listed q li i) := by
    unfold m_X7_listed
    repeat' (refine it_p (fun h => ?_) (fun h => ?_))
    · exact it_l (by decide)
    · exact it_l (by decide)
    · exact it_e (nd_listAt h) (by decide)
  exact mem_2 key
set_option maxHeartbeats 4000000 in
set_option maxRecDepth 100000 in
theorem c_L_listed (l : Launch) (hlt : l.stackTraces = false) (D : va_G) (b0 : Nat) (cA : Nat → ClassId) (ad : Nat → Nat → Nat) (mq : qM) (q : qC) (li : Int32) (i : Int32) (hI : cI q) : wc_ l yL_listed wsL_listed D b0 cA ad mq q [.ref (ad 0 0), .int li, .int i, .ref (ad 22 0)] ((m_X7_listed q li i).1) (zL ((m_X7_listed q li i).1) (Int32.toInt64 ((m_X7_listed q li i).2)) (q) q) := by
  refine lr_of (by decide) rfl (Nat.le_of_ble_eq_true rfl) ?_
  intro p e s m below meth c hx hb hml hr hlk hown hts hK hW hKD hKX hKN hz hxt ls hl
  have hown : s.vm.findClass RL = some m.cls := hown
  have hS : va_S (wA b0) s.heap s.heap [] := va_S.rf
  have hl : lv_has ls 5 [(0, .ref (ad 0 0)), (1, .int li), (2, .int i), (3, .ref (ad 22 0))] := hl
  refine lv_aload_n hx hb dL_listed_0 rfl (lv_at hl 3 rfl) ?_
  refine lv_iconst (v := 0) hx hb dL_listed_1 (by decide) ?_
  refine lv_aload_n hx hb dL_listed_2 rfl (lv_at hl 0 rfl) ?_
  refine lv_iload_n hx hb dL_listed_3 rfl (lv_at hl 1 rfl) ?_
  refine lv_iload_n hx hb dL_listed_4 rfl (lv_at hl 2 rfl) ?_
  refine ox_callVi (C := RX7) (T := TX7) (N := 11) (ci := 6) (k := 0) (j := 0) (n := 2) (As := [.int li, .int i]) (rest := [.int 0, .ref (ad 22 0)]) (r := (m_X7_listed q li i).2) (z2 := q) (k0 := (m_X7_listed q li i).1) ⟨hx, hb, hml, hown, hts⟩ (c_X7_listed l hlt D b0 cA ad mq q li i hI) (PO_k0) rfl gL_listed_X7_listed rfl (by decide +kernel) rfl ⟨Nat.le_of_ble_eq_true rfl, Nat.le_of_ble_eq_true rfl⟩ ⟨Nat.le_of_ble_eq_true rfl, Nat.le_of_ble_eq_true rfl⟩ hK hW hS hKD hKX hz hl.1 rfl (Nat.le_of_ble_eq_true rfl) dL_listed_5 (fun hne H locs ce q9 hW hS h1 h2 h3 => ?_) (fun hk0 H locs hW hS => ?_)
  · rcases cd_listed q li i with hg | hg
    · exact absurd hg hne
    · rw [hg] at h3
      refine vx_catch (own := RL) (name := "java/lang/IndexOutOfBoundsException") (E := "java/lang/IndexOutOfBoundsException") hown [] ⟨0, 10, 13, 13⟩ [] hxt (fun _ h => absurd h List.not_mem_nil) rfl (by decide) (hts _ (List.mem_of_getElem? (i := 1) rfl)) (va_Nw.use rfl hKX.2.2.2.1) h1 h2 h3 ?_
      refine lv_astore (lv' := [(4, .ref q9), (0, .ref (ad 0 0)), (1, .int li), (2, .int i), (3, .ref (ad 22 0))]) hx hb dL_listed_13 hl (by decide) rfl (fun ls hl => ?_)
      refine lv_iconst (v := 1) hx hb dL_listed_15 (by decide) ?_
      exact lr_ret hx hb hr hlk hK hW (adk_rf _) hS (Nat.le_of_ble_eq_true rfl) (Nat.le_of_ble_eq_true rfl) (by rw [hg] <;> rfl) (by rw [zL, if_neg hne]) dL_listed_16
  · refine lv_i2l hx hb dL_listed_8 rfl ?_
    refine lr_last rfl hx hb hK hW hS dL_listed_9 (fun H locs hW hS => ?_)
    refine lv_goto (tgt := 17) hx hb dL_listed_10 (by decide) ?_
    refine lv_iconst (v := 0) hx hb dL_listed_17 (by decide) ?_
    exact lr_ret hx hb hr hlk hK hW (adk_rf _) hS (Nat.le_of_ble_eq_true rfl) (Nat.le_of_ble_eq_true rfl) (by rw [hk0] <;> rfl) (by rw [zL, if_pos hk0]) dL_listed_18
set_option maxHeartbeats 4000000 in
theorem cd_approve (q : qC) (li : Int32) (o : Int32) : (m_X7_approve q li o).1 = 0 ∨ (m_X7_approve q li o).1 = 1 ∨ (m_X7_approve q li o).1 = 3 := by
  have key : cP1 [0, 1, 3] (m_X7_approve q li o) := by
    unfold m_X7_approve
    repeat' (refine it_p (fun h => ?_) (fun h => ?_))
    · exact it_l (by decide)
    · exact it_l (by decide)
    · exact it_l (by decide)
    · exact it_e (nd_needRoom h) (by decide)
    · exact it_e (nd_needRight h) (by decide)
    · exact it_e (nd_needOpen h) (by decide)
    · exact it_e (nd_needOfficer h) (by decide)
    · exact it_e (nd_listAt h) (by decide)
  exact mem_3 key
set_option maxHeartbeats 4000000 in
set_option maxRecDepth 100000 in
theorem c_L_approve (l : Launch) (hlt : l.stackTraces = false) (D : va_G) (b0 : Nat) (cA : Nat → ClassId) (ad : Nat → Nat → Nat) (mq : qM) (q : qC) (li : Int32) (o : Int32) (hI : cI q) : wc_ l yL_approve wsL_approve D b0 cA ad mq q [.ref (ad 0 0), .int li, .int o, .ref (ad 22 0)] ((wkO (m_X7_approve q li o).1)) (zL ((m_X7_approve q li o).1) (Int32.toInt64 ((m_X7_approve q li o).2.1)) ((m_X7_approve q li o).2.2) q) := by
  refine lr_of (by decide) rfl (Nat.le_of_ble_eq_true rfl) ?_
  intro p e s m below meth c hx hb hml hr hlk hown hts hK hW hKD hKX hKN hz hxt ls hl
  have hown : s.vm.findClass RL = some m.cls := hown
  have hS : va_S (wA b0) s.heap s.heap [] := va_S.rf
  have hl : lv_has ls 5 [(0, .ref (ad 0 0)), (1, .int li), (2, .int o), (3, .ref (ad 22 0))] := hl
  refine lv_aload_n hx hb dL_approve_0 rfl (lv_at hl 3 rfl) ?_
  refine lv_iconst (v := 0) hx hb dL_approve_1 (by decide) ?_
  refine lv_aload_n hx hb dL_approve_2 rfl (lv_at hl 0 rfl) ?_
  refine lv_iload_n hx hb dL_approve_3 rfl (lv_at hl 1 rfl) ?_
  refine lv_iload_n hx hb dL_approve_4 rfl (lv_at hl 2 rfl) ?_
  refine ox_callVi (C := RX7) (T := TX7) (N := 11) (ci := 6) (k := 0) (j := 0) (n := 2) (As := [.int li, .int o]) (rest := [.int 0, .ref (ad 22 0)]) (r := (m_X7_approve q li o).2.1) (z2 := (m_X7_approve q li o).2.2) (k0 := (m_X7_approve q li o).1) ⟨hx, hb, hml, hown, hts⟩ (c_X7_approve l hlt D b0 cA ad mq q li o hI) (PO_k0) rfl gL_approve_X7_approve rfl (by decide +kernel) rfl ⟨Nat.le_of_ble_eq_true rfl, Nat.le_of_ble_eq_true rfl⟩ ⟨Nat.le_of_ble_eq_true rfl, Nat.le_of_ble_eq_true rfl⟩ hK hW hS hKD hKX hz hl.1 rfl (Nat.le_of_ble_eq_true rfl) dL_approve_5 (fun hne H locs ce q9 hW hS h1 h2 h3 => ?_) (fun hk0 H locs hW hS => ?_)
  · rcases cd_approve q li o with hg | hg | hg
    · exact absurd hg hne
    · rw [hg] at h3
      refine vx_catch (own := RL) (name := "java/lang/IndexOutOfBoundsException") (E := "java/lang/IndexOutOfBoundsException") hown [] ⟨0, 10, 13, 13⟩ [⟨0, 10, 17, 21⟩] hxt (fun _ h => absurd h List.not_mem_nil) rfl (by decide) (hts _ (List.mem_of_getElem? (i := 1) rfl)) (va_Nw.use rfl hKX.2.2.2.1) h1 h2 h3 ?_
      refine lv_astore (lv' := [(4, .ref q9), (0, .ref (ad 0 0)), (1, .int li), (2, .int o), (3, .ref (ad 22 0))]) hx hb dL_approve_13 hl (by decide) rfl (fun ls hl => ?_)
      refine lv_iconst (v := 1) hx hb dL_approve_15 (by decide) ?_
      exact lr_ret hx hb hr hlk hK hW (adk_rf _) hS (Nat.le_of_ble_eq_true rfl) (Nat.le_of_ble_eq_true rfl) (by rw [hg] <;> rfl) (by rw [zL, if_neg hne]) dL_approve_16
    · rw [hg] at h3
      refine vx_catch (own := RL) (name := "java/lang/IllegalStateException") (E := "java/lang/IllegalStateException") hown [⟨0, 10, 13, 13⟩] ⟨0, 10, 17, 21⟩ [] hxt (List.forall_mem_cons.mpr ⟨Or.inr ⟨by decide, "java/lang/IndexOutOfBoundsException", hts _ (List.mem_of_getElem? (i := 1) rfl), hKN.2.1⟩, fun _ h => absurd h List.not_mem_nil⟩) rfl (by decide) (hts _ (List.mem_of_getElem? (i := 2) rfl)) (va_Nw.use rfl hKX.2.2.2.2.2.1) h1 h2 h3 ?_
      refine lv_astore (lv' := [(4, .ref q9), (0, .ref (ad 0 0)), (1, .int li), (2, .int o), (3, .ref (ad 22 0))]) hx hb dL_approve_17 hl (by decide) rfl (fun ls hl => ?_)
      refine lv_iconst (v := 2) hx hb dL_approve_19 (by decide) ?_
      exact lr_ret hx hb hr hlk hK hW (adk_rf _) hS (Nat.le_of_ble_eq_true rfl) (Nat.le_of_ble_eq_true rfl) (by rw [hg] <;> rfl) (by rw [zL, if_neg hne]) dL_approve_20
  · refine lv_i2l hx hb dL_approve_8 rfl ?_
    refine lr_last rfl hx hb hK hW hS dL_approve_9 (fun H locs hW hS => ?_)
    refine lv_goto (tgt := 21) hx hb dL_approve_10 (by decide) ?_
    refine lv_iconst (v := 0) hx hb dL_approve_21 (by decide) ?_
    exact lr_ret hx hb hr hlk hK hW (adk_rf _) hS (Nat.le_of_ble_eq_true rfl) (Nat.le_of_ble_eq_true rfl) (by rw [hk0] <;> rfl) (by rw [zL, if_pos hk0]) dL_approve_22
set_option maxHeartbeats 4000000 in
theorem cd_strike (q : qC) (li : Int32) (r : Int32) : (m_X7_strike q li r).1 = 0 ∨ (m_X7_strike q li r).1 = 1 ∨ (m_X7_strike q li r).1 = 3 := by
  have key : cP1 [0, 1, 3] (m_X7_strike q li r) := by
    unfold m_X7_strike
    repeat' (refine it_p (fun h => ?_) (fun h => ?_))
    · exact it_l (by decide)
    · exact it_l (by decide)
    · exact it_e (nd_needRoom h) (by decide)
    · exact it_e (nd_needOpen h) (by decide)
    · exact it_e (nd_listAt h) (by decide)
  exact mem_3 key
set_option maxHeartbeats 4000000 in
set_option maxRecDepth 100000 in
theorem c_L_strike (l : Launch) (hlt : l.stackTraces = false) (D : va_G) (b0 : Nat) (cA : Nat → ClassId) (ad : Nat → Nat → Nat) (mq : qM) (q : qC) (li : Int32) (r : Int32) (hI : cI q) : wc_ l yL_strike wsL_strike D b0 cA ad mq q [.ref (ad 0 0), .int li, .int r, .ref (ad 22 0)] ((wkO (m_X7_strike q li r).1)) (zL ((m_X7_strike q li r).1) (Int32.toInt64 ((m_X7_strike q li r).2.1)) ((m_X7_strike q li r).2.2) q) := by
  refine lr_of (by decide) rfl (Nat.le_of_ble_eq_true rfl) ?_
  intro p e s m below meth c hx hb hml hr hlk hown hts hK hW hKD hKX hKN hz hxt ls hl
  have hown : s.vm.findClass RL = some m.cls := hown
  have hS : va_S (wA b0) s.heap s.heap [] := va_S.rf
  have hl : lv_has ls 5 [(0, .ref (ad 0 0)), (1, .int li), (2, .int r), (3, .ref (ad 22 0))] := hl
  refine lv_aload_n hx hb dL_strike_0 rfl (lv_at hl 3 rfl) ?_
  refine lv_iconst (v := 0) hx hb dL_strike_1 (by decide) ?_
  refine lv_aload_n hx hb dL_strike_2 rfl (lv_at hl 0 rfl) ?_
  refine lv_iload_n hx hb dL_strike_3 rfl (lv_at hl 1 rfl) ?_
  refine lv_iload_n hx hb dL_strike_4 rfl (lv_at hl 2 rfl) ?_
  refine ox_callVi (C := RX7) (T := TX7) (N := 11) (ci := 6) (k := 0) (j := 0) (n := 2) (As := [.int li, .int r]) (rest := [.int 0, .ref (ad 22 0)]) (r := (m_X7_strike q li r).2.1) (z2 := (m_X7_strike q li r).2.2) (k0 := (m_X7_strike q li r).1) ⟨hx, hb, hml, hown, hts⟩ (c_X7_strike l hlt D b0 cA ad mq q li r hI) (PO_k0) rfl gL_strike_X7_strike rfl (by decide +kernel) rfl ⟨Nat.le_of_ble_eq_true rfl, Nat.le_of_ble_eq_true rfl⟩ ⟨Nat.le_of_ble_eq_true rfl, Nat.le_of_ble_eq_true rfl⟩ hK hW hS hKD hKX hz hl.1 rfl (Nat.le_of_ble_eq_true rfl) dL_strike_5 (fun hne H locs ce q9 hW hS h1 h2 h3 => ?_) (fun hk0 H locs hW hS => ?_)
  · rcases cd_strike q li r with hg | hg | hg
    · exact absurd hg hne
    · rw [hg] at h3
      refine vx_catch (own := RL) (name := "java/lang/IndexOutOfBoundsException") (E := "java/lang/IndexOutOfBoundsException") hown [] ⟨0, 10, 13, 13⟩ [⟨0, 10, 17, 21⟩] hxt (fun _ h => absurd h List.not_mem_nil) rfl (by decide) (hts _ (List.mem_of_getElem? (i := 1) rfl)) (va_Nw.use rfl hKX.2.2.2.1) h1 h2 h3 ?_
      refine lv_astore (lv' := [(4, .ref q9), (0, .ref (ad 0 0)), (1, .int li), (2, .int r), (3, .ref (ad 22 0))]) hx hb dL_strike_13 hl (by decide) rfl (fun ls hl => ?_)
      refine lv_iconst (v := 1) hx hb dL_strike_15 (by decide) ?_
      exact lr_ret hx hb hr hlk hK hW (adk_rf _) hS (Nat.le_of_ble_eq_true rfl) (Nat.le_of_ble_eq_true rfl) (by rw [hg] <;> rfl) (by rw [zL, if_neg hne]) dL_strike_16
    · rw [hg] at h3
      refine vx_catch (own := RL) (name := "java/lang/IllegalStateException") (E := "java/lang/IllegalStateException") hown [⟨0, 10, 13, 13⟩] ⟨0, 10, 17, 21⟩ [] hxt (List.forall_mem_cons.mpr ⟨Or.inr ⟨by decide, "java/lang/IndexOutOfBoundsException", hts _ (List.mem_of_getElem? (i := 1) rfl), hKN.2.1⟩, fun _ h => absurd h List.not_mem_nil⟩) rfl (by decide) (hts _ (List.mem_of_getElem? (i := 2) rfl)) (va_Nw.use rfl hKX.2.2.2.2.2.1) h1 h2 h3 ?_
      refine lv_astore (lv' := [(4, .ref q9), (0, .ref (ad 0 0)), (1, .int li), (2, .int r), (3, .ref (ad 22 0))]) hx hb dL_strike_17 hl (by decide) rfl (fun ls hl => ?_)
      refine lv_iconst (v := 2) hx hb dL_strike_19 (by decide) ?_
      exact lr_ret hx hb hr hlk hK hW (adk_rf _) hS (Nat.le_of_ble_eq_true rfl) (Nat.le_of_ble_eq_true rfl) (by rw [hg] <;> rfl) (by rw [zL, if_neg hne]) dL_strike_20
  · refine lv_i2l hx hb dL_strike_8 rfl ?_
    refine lr_last rfl hx hb hK hW hS dL_strike_9 (fun H locs hW hS => ?_)
    refine lv_goto (tgt := 21) hx hb dL_strike_10 (by decide) ?_
    refine lv_iconst (v := 0) hx hb dL_strike_21 (by decide) ?_
    exact lr_ret hx hb hr hlk hK hW (adk_rf _) hS (Nat.le_of_ble_eq_true rfl) (Nat.le_of_ble_eq_true rfl) (by rw [hk0] <;> rfl) (by rw [zL, if_pos hk0]) dL_strike_22
set_option maxHeartbeats 4000000 in
theorem cd_carry (q : qC) (li : Int32) (o : Int32) (day : Int32) : (m_X7_carry q li o day).1 = 0 ∨ (m_X7_carry q li o day).1 = 1 ∨ (m_X7_carry q li o day).1 = 2 ∨ (m_X7_carry q li o day).1 = 3 := by
  have key : cP1 [0, 1, 2, 3] (m_X7_carry q li o day) := by
    unfold m_X7_carry
    repeat' (refine it_p (fun h => ?_) (fun h => ?_))
    · exact it_l (by decide)
    · exact it_e (nd_needRoom h) (by decide)
    · exact it_l (by decide)
    · exact it_e (nd_needRight h) (by decide)
    · exact it_e (nd_needOpen h) (by decide)
    · exact it_e (nd_needDayOfAct h) (by decide)
    · exact it_e (nd_needOfficer h) (by decide)
    · exact it_e (nd_listAt h) (by decide)
  exact mem_4 key
set_option maxHeartbeats 4000000 in
set_option maxRecDepth 100000 in
theorem c_L_carry (l : Launch) (hlt : l.stackTraces = false) (D : va_G) (b0 : Nat) (cA : Nat → ClassId) (ad : Nat → Nat → Nat) (mq : qM) (q : qC) (li : Int32) (o : Int32) (day : Int32) (hI : cI q) : wc_ l yL_carry wsL_carry D b0 cA ad mq q [.ref (ad 0 0), .int li, .int o, .int day, .ref (ad 22 0)] ((m_X7_carry q li o day).1) (zL ((m_X7_carry q li o day).1) (Int32.toInt64 ((m_X7_carry q li o day).2.1)) ((m_X7_carry q li o day).2.2) q) := by
  refine lr_of (by decide) rfl (Nat.le_of_ble_eq_true rfl) ?_
  intro p e s m below meth c hx hb hml hr hlk hown hts hK hW hKD hKX hKN hz hxt ls hl
  have hown : s.vm.findClass RL = some m.cls := hown
  have hS : va_S (wA b0) s.heap s.heap [] := va_S.rf
  have hl : lv_has ls 6 [(0, .ref (ad 0 0)), (1, .int li), (2, .int o), (3, .int day), (4, .ref (ad 22 0))] := hl
  refine lv_aload hx hb dL_carry_0 (lv_at hl 4 rfl) ?_
  refine lv_iconst (v := 0) hx hb dL_carry_2 (by decide) ?_
  refine lv_aload_n hx hb dL_carry_3 rfl (lv_at hl 0 rfl) ?_
  refine lv_iload_n hx hb dL_carry_4 rfl (lv_at hl 1 rfl) ?_
  refine lv_iload_n hx hb dL_carry_5 rfl (lv_at hl 2 rfl) ?_
  refine lv_iload_n hx hb dL_carry_6 rfl (lv_at hl 3 rfl) ?_
  refine ox_callVi (C := RX7) (T := TX7) (N := 11) (ci := 6) (k := 0) (j := 0) (n := 3) (As := [.int li, .int o, .int day]) (rest := [.int 0, .ref (ad 22 0)]) (r := (m_X7_carry q li o day).2.1) (z2 := (m_X7_carry q li o day).2.2) (k0 := (m_X7_carry q li o day).1) ⟨hx, hb, hml, hown, hts⟩ (c_X7_carry l hlt D b0 cA ad mq q li o day hI) (PO_k0) rfl gL_carry_X7_carry rfl (by decide +kernel) rfl ⟨Nat.le_of_ble_eq_true rfl, Nat.le_of_ble_eq_true rfl⟩ ⟨Nat.le_of_ble_eq_true rfl, Nat.le_of_ble_eq_true rfl⟩ hK hW hS hKD hKX hz hl.1 rfl (Nat.le_of_ble_eq_true rfl) dL_carry_7 (fun hne H locs ce q9 hW hS h1 h2 h3 => ?_) (fun hk0 H locs hW hS => ?_)
  · rcases cd_carry q li o day with hg | hg | hg | hg
    · exact absurd hg hne
    · rw [hg] at h3
      refine vx_catch (own := RL) (name := "java/lang/IndexOutOfBoundsException") (E := "java/lang/IndexOutOfBoundsException") hown [] ⟨0, 12, 15, 13⟩ [⟨0, 12, 19, 15⟩, ⟨0, 12, 23, 21⟩] hxt (fun _ h => absurd h List.not_mem_nil) rfl (by decide) (hts _ (List.mem_of_getElem? (i := 1) rfl)) (va_Nw.use rfl hKX.2.2.2.1) h1 h2 h3 ?_
      refine lv_astore (lv' := [(5, .ref q9), (0, .ref (ad 0 0)), (1, .int li), (2, .int o), (3, .int day), (4, .ref (ad 22 0))]) hx hb dL_carry_15 hl (by decide) rfl (fun ls hl => ?_)
      refine lv_iconst (v := 1) hx hb dL_carry_17 (by decide) ?_
      exact lr_ret hx hb hr hlk hK hW (adk_rf _) hS (Nat.le_of_ble_eq_true rfl) (Nat.le_of_ble_eq_true rfl) (by rw [hg] <;> rfl) (by rw [zL, if_neg hne]) dL_carry_18
    · rw [hg] at h3
      refine vx_catch (own := RL) (name := "java/lang/IllegalArgumentException") (E := "java/lang/IllegalArgumentException") hown [⟨0, 12, 15, 13⟩] ⟨0, 12, 19, 15⟩ [⟨0, 12, 23, 21⟩] hxt (List.forall_mem_cons.mpr ⟨Or.inr ⟨by decide, "java/lang/IndexOutOfBoundsException", hts _ (List.mem_of_getElem? (i := 1) rfl), hKN.1⟩, fun _ h => absurd h List.not_mem_nil⟩) rfl (by decide) (hts _ (List.mem_of_getElem? (i := 2) rfl)) (va_Nw.use rfl hKX.2.2.2.2.1) h1 h2 h3 ?_
      refine lv_astore (lv' := [(5, .ref q9), (0, .ref (ad 0 0)), (1, .int li), (2, .int o), (3, .int day), (4, .ref (ad 22 0))]) hx hb dL_carry_19 hl (by decide) rfl (fun ls hl => ?_)
      refine lv_iconst (v := 2) hx hb dL_carry_21 (by decide) ?_
      exact lr_ret hx hb hr hlk hK hW (adk_rf _) hS (Nat.le_of_ble_eq_true rfl) (Nat.le_of_ble_eq_true rfl) (by rw [hg] <;> rfl) (by rw [zL, if_neg hne]) dL_carry_22
    · rw [hg] at h3
      refine vx_catch (own := RL) (name := "java/lang/IllegalStateException") (E := "java/lang/IllegalStateException") hown [⟨0, 12, 15, 13⟩, ⟨0, 12, 19, 15⟩] ⟨0, 12, 23, 21⟩ [] hxt (List.forall_mem_cons.mpr ⟨Or.inr ⟨by decide, "java/lang/IndexOutOfBoundsException", hts _ (List.mem_of_getElem? (i := 1) rfl), hKN.2.1⟩, List.forall_mem_cons.mpr ⟨Or.inr ⟨by decide, "java/lang/IllegalArgumentException", hts _ (List.mem_of_getElem? (i := 2) rfl), hKN.2.2⟩, fun _ h => absurd h List.not_mem_nil⟩⟩) rfl (by decide) (hts _ (List.mem_of_getElem? (i := 3) rfl)) (va_Nw.use rfl hKX.2.2.2.2.2.1) h1 h2 h3 ?_
      refine lv_astore (lv' := [(5, .ref q9), (0, .ref (ad 0 0)), (1, .int li), (2, .int o), (3, .int day), (4, .ref (ad 22 0))]) hx hb dL_carry_23 hl (by decide) rfl (fun ls hl => ?_)
      refine lv_iconst (v := 3) hx hb dL_carry_25 (by decide) ?_
      exact lr_ret hx hb hr hlk hK hW (adk_rf _) hS (Nat.le_of_ble_eq_true rfl) (Nat.le_of_ble_eq_true rfl) (by rw [hg] <;> rfl) (by rw [zL, if_neg hne]) dL_carry_26
  · refine lv_i2l hx hb dL_carry_10 rfl ?_
    refine lr_last rfl hx hb hK hW hS dL_carry_11 (fun H locs hW hS => ?_)
    refine lv_goto (tgt := 27) hx hb dL_carry_12 (by decide) ?_
    refine lv_iconst (v := 0) hx hb dL_carry_27 (by decide) ?_
    exact lr_ret hx hb hr hlk hK hW (adk_rf _) hS (Nat.le_of_ble_eq_true rfl) (Nat.le_of_ble_eq_true rfl) (by rw [hk0] <;> rfl) (by rw [zL, if_pos hk0]) dL_carry_28
set_option maxHeartbeats 4000000 in
theorem cd_count (q : qC) (what : Int32) : (m_X7_count q what).1 = 0 ∨ (m_X7_count q what).1 = 2 := by
  have key : cP1 [0, 2] (m_X7_count q what) := by
    unfold m_X7_count
    repeat' (refine it_p (fun h => ?_) (fun h => ?_))
    · exact it_l (by decide)
    · exact it_l (by decide)
    · exact it_l (by decide)
    · exact it_l (by decide)
    · exact it_l (by decide)
    · exact it_l (by decide)
  exact mem_2 key
set_option maxHeartbeats 4000000 in
set_option maxRecDepth 100000 in
theorem c_L_count (l : Launch) (hlt : l.stackTraces = false) (D : va_G) (b0 : Nat) (cA : Nat → ClassId) (ad : Nat → Nat → Nat) (mq : qM) (q : qC) (what : Int32) (hI : cI q) : wc_ l yL_count wsL_count D b0 cA ad mq q [.ref (ad 0 0), .int what, .ref (ad 22 0)] ((wkT (m_X7_count q what).1)) (zL ((m_X7_count q what).1) (Int32.toInt64 ((m_X7_count q what).2)) (q) q) := by
  refine lr_of (by decide) rfl (Nat.le_of_ble_eq_true rfl) ?_
  intro p e s m below meth c hx hb hml hr hlk hown hts hK hW hKD hKX hKN hz hxt ls hl
  have hown : s.vm.findClass RL = some m.cls := hown
  have hS : va_S (wA b0) s.heap s.heap [] := va_S.rf
  have hl : lv_has ls 4 [(0, .ref (ad 0 0)), (1, .int what), (2, .ref (ad 22 0))] := hl
  refine lv_aload_n hx hb dL_count_0 rfl (lv_at hl 2 rfl) ?_
  refine lv_iconst (v := 0) hx hb dL_count_1 (by decide) ?_
  refine lv_aload_n hx hb dL_count_2 rfl (lv_at hl 0 rfl) ?_
  refine lv_iload_n hx hb dL_count_3 rfl (lv_at hl 1 rfl) ?_
  refine ox_callVi (C := RX7) (T := TX7) (N := 11) (ci := 6) (k := 0) (j := 0) (n := 1) (As := [.int what]) (rest := [.int 0, .ref (ad 22 0)]) (r := (m_X7_count q what).2) (z2 := q) (k0 := (m_X7_count q what).1) ⟨hx, hb, hml, hown, hts⟩ (c_X7_count l hlt D b0 cA ad mq q what hI) (PO_k0) rfl gL_count_X7_count rfl (by decide +kernel) rfl ⟨Nat.le_of_ble_eq_true rfl, Nat.le_of_ble_eq_true rfl⟩ ⟨Nat.le_of_ble_eq_true rfl, Nat.le_of_ble_eq_true rfl⟩ hK hW hS hKD hKX hz hl.1 rfl (Nat.le_of_ble_eq_true rfl) dL_count_4 (fun hne H locs ce q9 hW hS h1 h2 h3 => ?_) (fun hk0 H locs hW hS => ?_)
  · rcases cd_count q what with hg | hg
    · exact absurd hg hne
    · rw [hg] at h3
      refine vx_catch (own := RL) (name := "java/lang/IllegalArgumentException") (E := "java/lang/IllegalArgumentException") hown [] ⟨0, 9, 12, 15⟩ [] hxt (fun _ h => absurd h List.not_mem_nil) rfl (by decide) (hts _ (List.mem_of_getElem? (i := 1) rfl)) (va_Nw.use rfl hKX.2.2.2.2.1) h1 h2 h3 ?_
      refine lv_astore_n (lv' := [(3, .ref q9), (0, .ref (ad 0 0)), (1, .int what), (2, .ref (ad 22 0))]) hx hb dL_count_12 rfl hl (by decide) rfl (fun ls hl => ?_)
      refine lv_iconst (v := 1) hx hb dL_count_13 (by decide) ?_
      exact lr_ret hx hb hr hlk hK hW (adk_rf _) hS (Nat.le_of_ble_eq_true rfl) (Nat.le_of_ble_eq_true rfl) (by rw [hg] <;> rfl) (by rw [zL, if_neg hne]) dL_count_14
  · refine lv_i2l hx hb dL_count_7 rfl ?_
    refine lr_last rfl hx hb hK hW hS dL_count_8 (fun H locs hW hS => ?_)
    refine lv_goto (tgt := 15) hx hb dL_count_9 (by decide) ?_
    refine lv_iconst (v := 0) hx hb dL_count_15 (by decide) ?_
    exact lr_ret hx hb hr hlk hK hW (adk_rf _) hS (Nat.le_of_ble_eq_true rfl) (Nat.le_of_ble_eq_true rfl) (by rw [hk0] <;> rfl) (by rw [zL, if_pos hk0]) dL_count_16
set_option maxHeartbeats 4000000 in
theorem cd_act (q : qC) (i : Int32) (what : Int32) : (m_X7_act q i what).1 = 0 ∨ (m_X7_act q i what).1 = 1 ∨ (m_X7_act q i what).1 = 2 := by
  have key : cP1 [0, 1, 2] (m_X7_act q i what) := by
    unfold m_X7_act
    repeat' (refine it_p (fun h => ?_) (fun h => ?_))
    · exact it_l (by decide)
    · exact it_e (nd_needNumberOfAct h) (by decide)
    · exact it_e (nd_needAct h) (by decide)
  exact mem_3 key
set_option maxHeartbeats 4000000 in
set_option maxRecDepth 100000 in
theorem c_L_act (l : Launch) (hlt : l.stackTraces = false) (D : va_G) (b0 : Nat) (cA : Nat → ClassId) (ad : Nat → Nat → Nat) (mq : qM) (q : qC) (i : Int32) (what : Int32) (hI : cI q) : wc_ l yL_act wsL_act D b0 cA ad mq q [.ref (ad 0 0), .int i, .int what, .ref (ad 22 0)] ((m_X7_act q i what).1) (zL ((m_X7_act q i what).1) (Int32.toInt64 ((m_X7_act q i what).2)) (q) q) := by
  refine lr_of (by decide) rfl (Nat.le_of_ble_eq_true rfl) ?_
  intro p e s m below meth c hx hb hml hr hlk hown hts hK hW hKD hKX hKN hz hxt ls hl
  have hown : s.vm.findClass RL = some m.cls := hown
  have hS : va_S (wA b0) s.heap s.heap [] := va_S.rf
  have hl : lv_has ls 5 [(0, .ref (ad 0 0)), (1, .int i), (2, .int what), (3, .ref (ad 22 0))] := hl
  refine lv_aload_n hx hb dL_act_0 rfl (lv_at hl 3 rfl) ?_
  refine lv_iconst (v := 0) hx hb dL_act_1 (by decide) ?_
  refine lv_aload_n hx hb dL_act_2 rfl (lv_at hl 0 rfl) ?_
  refine lv_iload_n hx hb dL_act_3 rfl (lv_at hl 1 rfl) ?_
  refine lv_iload_n hx hb dL_act_4 rfl (lv_at hl 2 rfl) ?_
  refine ox_callVi (C := RX7) (T := TX7) (N := 11) (ci := 6) (k := 0) (j := 0) (n := 2) (As := [.int i, .int what]) (rest := [.int 0, .ref (ad 22 0)]) (r := (m_X7_act q i what).2) (z2 := q) (k0 := (m_X7_act q i what).1) ⟨hx, hb, hml, hown, hts⟩ (c_X7_act l hlt D b0 cA ad mq q i what hI) (PO_k0) rfl gL_act_X7_act rfl (by decide +kernel) rfl ⟨Nat.le_of_ble_eq_true rfl, Nat.le_of_ble_eq_true rfl⟩ ⟨Nat.le_of_ble_eq_true rfl, Nat.le_of_ble_eq_true rfl⟩ hK hW hS hKD hKX hz hl.1 rfl (Nat.le_of_ble_eq_true rfl) dL_act_5 (fun hne H locs ce q9 hW hS h1 h2 h3 => ?_) (fun hk0 H locs hW hS => ?_)
  · rcases cd_act q i what with hg | hg | hg
    · exact absurd hg hne
    · rw [hg] at h3
      refine vx_catch (own := RL) (name := "java/lang/IndexOutOfBoundsException") (E := "java/lang/IndexOutOfBoundsException") hown [] ⟨0, 10, 13, 13⟩ [⟨0, 10, 17, 15⟩] hxt (fun _ h => absurd h List.not_mem_nil) rfl (by decide) (hts _ (List.mem_of_getElem? (i := 1) rfl)) (va_Nw.use rfl hKX.2.2.2.1) h1 h2 h3 ?_
      refine lv_astore (lv' := [(4, .ref q9), (0, .ref (ad 0 0)), (1, .int i), (2, .int what), (3, .ref (ad 22 0))]) hx hb dL_act_13 hl (by decide) rfl (fun ls hl => ?_)
      refine lv_iconst (v := 1) hx hb dL_act_15 (by decide) ?_
      exact lr_ret hx hb hr hlk hK hW (adk_rf _) hS (Nat.le_of_ble_eq_true rfl) (Nat.le_of_ble_eq_true rfl) (by rw [hg] <;> rfl) (by rw [zL, if_neg hne]) dL_act_16
    · rw [hg] at h3
      refine vx_catch (own := RL) (name := "java/lang/IllegalArgumentException") (E := "java/lang/IllegalArgumentException") hown [⟨0, 10, 13, 13⟩] ⟨0, 10, 17, 15⟩ [] hxt (List.forall_mem_cons.mpr ⟨Or.inr ⟨by decide, "java/lang/IndexOutOfBoundsException", hts _ (List.mem_of_getElem? (i := 1) rfl), hKN.1⟩, fun _ h => absurd h List.not_mem_nil⟩) rfl (by decide) (hts _ (List.mem_of_getElem? (i := 2) rfl)) (va_Nw.use rfl hKX.2.2.2.2.1) h1 h2 h3 ?_
      refine lv_astore (lv' := [(4, .ref q9), (0, .ref (ad 0 0)), (1, .int i), (2, .int what), (3, .ref (ad 22 0))]) hx hb dL_act_17 hl (by decide) rfl (fun ls hl => ?_)
      refine lv_iconst (v := 2) hx hb dL_act_19 (by decide) ?_
      exact lr_ret hx hb hr hlk hK hW (adk_rf _) hS (Nat.le_of_ble_eq_true rfl) (Nat.le_of_ble_eq_true rfl) (by rw [hg] <;> rfl) (by rw [zL, if_neg hne]) dL_act_20
  · refine lv_i2l hx hb dL_act_8 rfl ?_
    refine lr_last rfl hx hb hK hW hS dL_act_9 (fun H locs hW hS => ?_)
    refine lv_goto (tgt := 21) hx hb dL_act_10 (by decide) ?_
    refine lv_iconst (v := 0) hx hb dL_act_21 (by decide) ?_
    exact lr_ret hx hb hr hlk hK hW (adk_rf _) hS (Nat.le_of_ble_eq_true rfl) (Nat.le_of_ble_eq_true rfl) (by rw [hk0] <;> rfl) (by rw [zL, if_pos hk0]) dL_act_22
set_option maxHeartbeats 4000000 in
theorem cd_link (q : qC) (i : Int32) : (m_X7_link q i).1 = 0 ∨ (m_X7_link q i).1 = 1 := by
  have key : cP1 [0, 1] (m_X7_link q i) := by
    unfold m_X7_link
    repeat' (refine it_p (fun h => ?_) (fun h => ?_))
    · exact it_l (by decide)
    · exact it_e (nd_needAct h) (by decide)
  exact mem_2 key
set_option maxHeartbeats 4000000 in
set_option maxRecDepth 100000 in
theorem c_L_link (l : Launch) (hlt : l.stackTraces = false) (D : va_G) (b0 : Nat) (cA : Nat → ClassId) (ad : Nat → Nat → Nat) (mq : qM) (q : qC) (i : Int32) (hI : cI q) : wc_ l yL_link wsL_link D b0 cA ad mq q [.ref (ad 0 0), .int i, .ref (ad 22 0)] ((m_X7_link q i).1) (zL ((m_X7_link q i).1) ((m_X7_link q i).2) (q) q) := by
  refine lr_of (by decide) rfl (Nat.le_of_ble_eq_true rfl) ?_
  intro p e s m below meth c hx hb hml hr hlk hown hts hK hW hKD hKX hKN hz hxt ls hl
  have hown : s.vm.findClass RL = some m.cls := hown
  have hS : va_S (wA b0) s.heap s.heap [] := va_S.rf
  have hl : lv_has ls 4 [(0, .ref (ad 0 0)), (1, .int i), (2, .ref (ad 22 0))] := hl
  refine lv_aload_n hx hb dL_link_0 rfl (lv_at hl 2 rfl) ?_
  refine lv_iconst (v := 0) hx hb dL_link_1 (by decide) ?_
  refine lv_aload_n hx hb dL_link_2 rfl (lv_at hl 0 rfl) ?_
  refine lv_iload_n hx hb dL_link_3 rfl (lv_at hl 1 rfl) ?_
  refine ox_callVl (C := RX7) (T := TX7) (N := 11) (ci := 6) (k := 0) (j := 0) (n := 1) (As := [.int i]) (rest := [.int 0, .ref (ad 22 0)]) (r := (m_X7_link q i).2) (z2 := q) (k0 := (m_X7_link q i).1) ⟨hx, hb, hml, hown, hts⟩ (c_X7_link l hlt D b0 cA ad mq q i hI) (PO_k0) rfl gL_link_X7_link rfl (by decide +kernel) rfl ⟨Nat.le_of_ble_eq_true rfl, Nat.le_of_ble_eq_true rfl⟩ ⟨Nat.le_of_ble_eq_true rfl, Nat.le_of_ble_eq_true rfl⟩ hK hW hS hKD hKX hz hl.1 rfl (Nat.le_of_ble_eq_true rfl) dL_link_4 (fun hne H locs ce q9 hW hS h1 h2 h3 => ?_) (fun hk0 H locs hW hS => ?_)
  · rcases cd_link q i with hg | hg
    · exact absurd hg hne
    · rw [hg] at h3
      refine vx_catch (own := RL) (name := "java/lang/IndexOutOfBoundsException") (E := "java/lang/IndexOutOfBoundsException") hown [] ⟨0, 8, 11, 13⟩ [] hxt (fun _ h => absurd h List.not_mem_nil) rfl (by decide) (hts _ (List.mem_of_getElem? (i := 1) rfl)) (va_Nw.use rfl hKX.2.2.2.1) h1 h2 h3 ?_
      refine lv_astore_n (lv' := [(3, .ref q9), (0, .ref (ad 0 0)), (1, .int i), (2, .ref (ad 22 0))]) hx hb dL_link_11 rfl hl (by decide) rfl (fun ls hl => ?_)
      refine lv_iconst (v := 1) hx hb dL_link_12 (by decide) ?_
      exact lr_ret hx hb hr hlk hK hW (adk_rf _) hS (Nat.le_of_ble_eq_true rfl) (Nat.le_of_ble_eq_true rfl) (by rw [hg] <;> rfl) (by rw [zL, if_neg hne]) dL_link_13
  · refine lr_last rfl hx hb hK hW hS dL_link_7 (fun H locs hW hS => ?_)
    refine lv_goto (tgt := 14) hx hb dL_link_8 (by decide) ?_
    refine lv_iconst (v := 0) hx hb dL_link_14 (by decide) ?_
    exact lr_ret hx hb hr hlk hK hW (adk_rf _) hS (Nat.le_of_ble_eq_true rfl) (Nat.le_of_ble_eq_true rfl) (by rw [hk0] <;> rfl) (by rw [zL, if_pos hk0]) dL_link_15
set_option maxHeartbeats 4000000 in
theorem cd_spoil (q : qC) (i : Int32) (what : Int32) (v : Int32) : (m_X7_spoil q i what v).1 = 0 ∨ (m_X7_spoil q i what v).1 = 1 ∨ (m_X7_spoil q i what v).1 = 2 := by
  have key : cP1 [0, 1, 2] (m_X7_spoil q i what v) := by
    unfold m_X7_spoil
    repeat' (refine it_p (fun h => ?_) (fun h => ?_))
    · exact it_l (by decide)
    · exact it_e (nd_needNumberOfAct h) (by decide)
    · exact it_e (nd_needAct h) (by decide)
  exact mem_3 key
set_option maxHeartbeats 4000000 in
set_option maxRecDepth 100000 in
theorem c_L_spoil (l : Launch) (hlt : l.stackTraces = false) (D : va_G) (b0 : Nat) (cA : Nat → ClassId) (ad : Nat → Nat → Nat) (mq : qM) (q : qC) (i : Int32) (what : Int32) (v : Int32) (hI : cI q) : wc_ l yL_spoil wsL_spoil D b0 cA ad mq q [.ref (ad 0 0), .int i, .int what, .int v] ((m_X7_spoil q i what v).1) (zV ((m_X7_spoil q i what v).1) ((m_X7_spoil q i what v).2) q) := by
  refine lr_of (by decide) rfl (Nat.le_of_ble_eq_true rfl) ?_
  intro p e s m below meth c hx hb hml hr hlk hown hts hK hW hKD hKX hKN hz hxt ls hl
  have hown : s.vm.findClass RL = some m.cls := hown
  have hS : va_S (wA b0) s.heap s.heap [] := va_S.rf
  have hl : lv_has ls 5 [(0, .ref (ad 0 0)), (1, .int i), (2, .int what), (3, .int v)] := hl
  refine lv_aload_n hx hb dL_spoil_0 rfl (lv_at hl 0 rfl) ?_
  refine lv_iload_n hx hb dL_spoil_1 rfl (lv_at hl 1 rfl) ?_
  refine lv_iload_n hx hb dL_spoil_2 rfl (lv_at hl 2 rfl) ?_
  refine lv_iload_n hx hb dL_spoil_3 rfl (lv_at hl 3 rfl) ?_
  refine ox_callVv (C := RX7) (T := TX7) (N := 11) (ci := 6) (k := 0) (j := 0) (n := 3) (As := [.int i, .int what, .int v]) (rest := []) (z2 := (m_X7_spoil q i what v).2) (k0 := (m_X7_spoil q i what v).1) ⟨hx, hb, hml, hown, hts⟩ (c_X7_spoil l hlt D b0 cA ad mq q i what v hI) (PO_k0) rfl gL_spoil_X7_spoil rfl (by decide +kernel) rfl ⟨Nat.le_of_ble_eq_true rfl, Nat.le_of_ble_eq_true rfl⟩ ⟨Nat.le_of_ble_eq_true rfl, Nat.le_of_ble_eq_true rfl⟩ hK hW hS hKD hKX hz hl.1 rfl (Nat.le_of_ble_eq_true rfl) dL_spoil_4 (fun hne H locs ce q9 hW hS h1 h2 h3 => ?_) (fun hk0 H locs hW hS => ?_)
  · rcases cd_spoil q i what v with hg | hg | hg
    · exact absurd hg hne
    · rw [hg] at h3
      refine vx_catch (own := RL) (name := "java/lang/IndexOutOfBoundsException") (E := "java/lang/IndexOutOfBoundsException") hown [] ⟨0, 7, 10, 13⟩ [⟨0, 7, 14, 15⟩] hxt (fun _ h => absurd h List.not_mem_nil) rfl (by decide) (hts _ (List.mem_of_getElem? (i := 1) rfl)) (va_Nw.use rfl hKX.2.2.2.1) h1 h2 h3 ?_
      refine lv_astore (lv' := [(4, .ref q9), (0, .ref (ad 0 0)), (1, .int i), (2, .int what), (3, .int v)]) hx hb dL_spoil_10 hl (by decide) rfl (fun ls hl => ?_)
      refine lv_iconst (v := 1) hx hb dL_spoil_12 (by decide) ?_
      exact lr_ret hx hb hr hlk hK hW (adk_rf _) hS (Nat.le_of_ble_eq_true rfl) (Nat.le_of_ble_eq_true rfl) (by rw [hg] <;> rfl) (by rw [zV, if_neg hne]) dL_spoil_13
    · rw [hg] at h3
      refine vx_catch (own := RL) (name := "java/lang/IllegalArgumentException") (E := "java/lang/IllegalArgumentException") hown [⟨0, 7, 10, 13⟩] ⟨0, 7, 14, 15⟩ [] hxt (List.forall_mem_cons.mpr ⟨Or.inr ⟨by decide, "java/lang/IndexOutOfBoundsException", hts _ (List.mem_of_getElem? (i := 1) rfl), hKN.1⟩, fun _ h => absurd h List.not_mem_nil⟩) rfl (by decide) (hts _ (List.mem_of_getElem? (i := 2) rfl)) (va_Nw.use rfl hKX.2.2.2.2.1) h1 h2 h3 ?_
      refine lv_astore (lv' := [(4, .ref q9), (0, .ref (ad 0 0)), (1, .int i), (2, .int what), (3, .int v)]) hx hb dL_spoil_14 hl (by decide) rfl (fun ls hl => ?_)
      refine lv_iconst (v := 2) hx hb dL_spoil_16 (by decide) ?_
      exact lr_ret hx hb hr hlk hK hW (adk_rf _) hS (Nat.le_of_ble_eq_true rfl) (Nat.le_of_ble_eq_true rfl) (by rw [hg] <;> rfl) (by rw [zV, if_neg hne]) dL_spoil_17
  · refine lv_goto (tgt := 18) hx hb dL_spoil_7 (by decide) ?_
    refine lv_iconst (v := 0) hx hb dL_spoil_18 (by decide) ?_
    exact lr_ret hx hb hr hlk hK hW (adk_rf _) hS (Nat.le_of_ble_eq_true rfl) (Nat.le_of_ble_eq_true rfl) (by rw [hk0] <;> rfl) (by rw [zV, if_pos hk0]) dL_spoil_19
set_option maxHeartbeats 4000000 in
theorem cd_later (q : qC) (day : Int32) (yr : Int32) (mo : Int32) : (m_X7_later day yr mo).1 = 0 ∨ (m_X7_later day yr mo).1 = 2 := by
  have key : cP1 [0, 2] (m_X7_later day yr mo) := by
    unfold m_X7_later
    repeat' (refine it_p (fun h => ?_) (fun h => ?_))
    · exact it_l (by decide)
    · exact it_e (nd_needTerm h) (by decide)
    · exact it_e (nd_needDay h) (by decide)
  exact mem_2 key
set_option maxHeartbeats 4000000 in
set_option maxRecDepth 100000 in
theorem c_L_later (l : Launch) (hlt : l.stackTraces = false) (D : va_G) (b0 : Nat) (cA : Nat → ClassId) (ad : Nat → Nat → Nat) (mq : qM) (q : qC) (day : Int32) (yr : Int32) (mo : Int32) : wc_ l yL_later wsL_later D b0 cA ad mq q [.ref (ad 0 0), .int day, .int yr, .int mo, .ref (ad 22 0)] ((wkT (m_X7_later day yr mo).1)) (zL ((m_X7_later day yr mo).1) (Int32.toInt64 ((m_X7_later day yr mo).2)) (q) q) := by
  refine lr_of (by decide) rfl (Nat.le_of_ble_eq_true rfl) ?_
  intro p e s m below meth c hx hb hml hr hlk hown hts hK hW hKD hKX hKN hz hxt ls hl
  have hown : s.vm.findClass RL = some m.cls := hown
  have hS : va_S (wA b0) s.heap s.heap [] := va_S.rf
  have hl : lv_has ls 6 [(0, .ref (ad 0 0)), (1, .int day), (2, .int yr), (3, .int mo), (4, .ref (ad 22 0))] := hl
  refine lv_aload hx hb dL_later_0 (lv_at hl 4 rfl) ?_
  refine lv_iconst (v := 0) hx hb dL_later_2 (by decide) ?_
  refine lv_aload_n hx hb dL_later_3 rfl (lv_at hl 0 rfl) ?_
  refine lv_iload_n hx hb dL_later_4 rfl (lv_at hl 1 rfl) ?_
  refine lv_iload_n hx hb dL_later_5 rfl (lv_at hl 2 rfl) ?_
  refine lv_iload_n hx hb dL_later_6 rfl (lv_at hl 3 rfl) ?_
  refine ox_callVi (C := RX7) (T := TX7) (N := 11) (ci := 6) (k := 0) (j := 0) (n := 3) (As := [.int day, .int yr, .int mo]) (rest := [.int 0, .ref (ad 22 0)]) (r := (m_X7_later day yr mo).2) (z2 := q) (k0 := (m_X7_later day yr mo).1) ⟨hx, hb, hml, hown, hts⟩ (c_X7_later l hlt D b0 cA ad mq q day yr mo) (PO_k0) rfl gL_later_X7_later rfl (by decide +kernel) rfl ⟨Nat.le_of_ble_eq_true rfl, Nat.le_of_ble_eq_true rfl⟩ ⟨Nat.le_of_ble_eq_true rfl, Nat.le_of_ble_eq_true rfl⟩ hK hW hS hKD hKX hz hl.1 rfl (Nat.le_of_ble_eq_true rfl) dL_later_7 (fun hne H locs ce q9 hW hS h1 h2 h3 => ?_) (fun hk0 H locs hW hS => ?_)
  · rcases cd_later q day yr mo with hg | hg
    · exact absurd hg hne
    · rw [hg] at h3
      refine vx_catch (own := RL) (name := "java/lang/IllegalArgumentException") (E := "java/lang/IllegalArgumentException") hown [] ⟨0, 12, 15, 15⟩ [] hxt (fun _ h => absurd h List.not_mem_nil) rfl (by decide) (hts _ (List.mem_of_getElem? (i := 1) rfl)) (va_Nw.use rfl hKX.2.2.2.2.1) h1 h2 h3 ?_
      refine lv_astore (lv' := [(5, .ref q9), (0, .ref (ad 0 0)), (1, .int day), (2, .int yr), (3, .int mo), (4, .ref (ad 22 0))]) hx hb dL_later_15 hl (by decide) rfl (fun ls hl => ?_)
      refine lv_iconst (v := 1) hx hb dL_later_17 (by decide) ?_
      exact lr_ret hx hb hr hlk hK hW (adk_rf _) hS (Nat.le_of_ble_eq_true rfl) (Nat.le_of_ble_eq_true rfl) (by rw [hg] <;> rfl) (by rw [zL, if_neg hne]) dL_later_18
  · refine lv_i2l hx hb dL_later_10 rfl ?_
    refine lr_last rfl hx hb hK hW hS dL_later_11 (fun H locs hW hS => ?_)
    refine lv_goto (tgt := 19) hx hb dL_later_12 (by decide) ?_
    refine lv_iconst (v := 0) hx hb dL_later_19 (by decide) ?_
    exact lr_ret hx hb hr hlk hK hW (adk_rf _) hS (Nat.le_of_ble_eq_true rfl) (Nat.le_of_ble_eq_true rfl) (by rw [hk0] <;> rfl) (by rw [zL, if_pos hk0]) dL_later_20
