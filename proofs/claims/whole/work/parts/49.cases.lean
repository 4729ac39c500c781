/-! laid by wip/whole/tools/lawloop.py: the cases of the law's switch -/
def LX (p : Program) (l : Launch) (s : State) (m : MethodId) (c : Code) (b L : Nat) (xs : Nat → Int32) (D : va_G) (cA : Nat → ClassId) : Prop :=
  p.tables.exec = Jvm.exec ∧ c.code = cL_law ∧ c.maxLocals = 8 ∧ s.vm.findClass RL = some m.cls ∧ (∀ w ∈ wsL_law, w.before #[Value.ref b] s = true) ∧ va_K D vwCl (wd_tys cA) s ∧ KD (wA s.heap.size) s ∧ KX (wA s.heap.size) s ∧ KN s ∧ l.stackTraces = false ∧ va_X b L xs s s.heap ∧ b < s.heap.size
section LAWR
variable {p : Program} {l : Launch} {e : Env} {R : Room} {s : State} {m : MethodId} {args : Array Value} {below : List Frame} {meth : Method} {c : Code} {H : Heap} {locs : List Loc} {cells slots : Nat} {Q : State → Prop}
variable {cc : ByteArray} {pc : Nat} {ls : Array Slot} {rest st : List Value} {D : va_G} {b0 : Nat} {cA : Nat → ClassId} {ad : Nat → Nat → Nat} {q q2 : qM} {z zz : qC} {Ts : List Cond} {index nL : Nat}
theorem lw_preS {As : List Value} (hK : va_K D vwCl (wd_tys cA) s) (hW : wd D (wA b0) (PO cA ad z q) ad H) (hS : va_S (wA b0) s.heap H locs) (hKD : KD (wA b0) s) (hKX : KX (wA b0) s) (hKN : KN s) (hz : b0 ≤ s.heap.size) : PreS s H (va_Pc As (WY D b0 cA ad q z)) As :=
  ⟨WY_blind, fun U hU hw => ⟨rfl, ⟨⟨⟨va_K.moved hw.alike hK, by rw [hU]; exact hW⟩, hKD.at hS hw.alike hU⟩, hKX.at hS hw hU, by rw [hU]; exact Nat.le_trans hz hS.1⟩, hKN.moved hw.alike⟩⟩
theorem lw_callW {own : String} {y : MethodName} {ws ws' : List Cond} {maxL n : Nat} {bytes : ByteArray} {ret : Option FieldType} {hh : List (Nat × Nat × Nat × Nat)} {As As' : List Value} {k : Int32} (S : CallFix p m c cc nL s args Ts own) (hM : wc_ l y ws D b0 cA ad q z As' k zz) (hAs : As' = As) (hT : GoodIn Ts (va_wsS own index y ws)) (hw : ws = Cond.codeWith y bytes maxL ret hh :: ws') (hd : y.cls ≠ "java/lang/invoke/MethodHandle" ∧ y.cls ≠ "java/lang/invoke/VarHandle" ∧ (parseMethodDescriptor y.desc).map (fun d => d.parameters.length) = some n) (hn : As.length = n) (hR : 9 + 1 ≤ R.frames ∧ 8 + (maxL + 11) + 200 ≤ R.locals) (hf : cells + 8 ≤ R.cells ∧ slots + 50 ≤ R.slots)
    (hK : va_K D vwCl (wd_tys cA) s) (hW : wd D (wA b0) (PO cA ad z q) ad H) (hS : va_S (wA b0) s.heap H locs) (hKD : KD (wA b0) s) (hKX : KX (wA b0) s) (hKN : KN s) (hz : b0 ≤ s.heap.size) (hsz : ls.size = nL) (hst : st = As.reverse ++ rest) (hrm : (rest.map fun v => v.category).sum ≤ 8) (hdg : decode cc pc = .ok (.invokestatic index, 3))
    (kk : ∀ (u : Nat → Nat → Nat) (H1 : Heap) (locs1 : List Loc), adk ad u → wd D (wA b0) (PO cA u zz q) u H1 → va_S (wA b0) s.heap H1 locs1 → W p l e R s m args below meth c H1 locs1 (cells + 8) (slots + 50) Q (F0 m (pc + 3) ls (.int k :: rest))) : W p l e R s m args below meth c H locs cells slots Q (F0 m pc ls st) := by
  subst hAs
  refine va_calli (vx_runSW (As := As') (rest := rest) S hM (vx_cwSW n S.2.2.2.2 hT hw rfl rfl hd hR) (lw_preS hK hW hS hKD hKX hKN hz) rfl hn hsz hst (lv_room hrm) hdg hf) hS (fun q _ h => h) (fun q h => h) (fun r u t H1 locs1 ht hvm hp hB _ _ hS1 => ?_)
  obtain ⟨hp1, hp2⟩ := hp
  subst hp1
  exact kk u H1 locs1 hp2 (by rw [← ht]; exact hB.2) hS1
/-- one number of the script -/
theorem sc_ldi {b L i0 i4 : Nat} {n : Int} {xs : Nat → Int32} {x0 k : Int32} {lv : List (Nat × Value)} (hx : p.tables.exec = Jvm.exec) (hb : c.code = cc) (hX : va_X b L xs s s.heap) (hbl : b < s.heap.size) (hS : va_S (wA s.heap.size) s.heap H locs) (hl : lv_has ls nL lv) (h0 : lv[i0]? = some (0, .ref b)) (h4 : lv[i4]? = some (4, .int x0)) (hin : vp_in (x0 + k) L) (hn : Int32.ofInt n = k)
    (d0 : decode cc pc = .ok (.aload_n 0, 1)) (d1 : decode cc (pc + 1) = .ok (.iload 4, 2)) (d3 : decode cc (pc + 3) = .ok (.iconst n, 1)) (d4 : decode cc (pc + 4) = .ok (.iadd, 1)) (d5 : decode cc (pc + 5) = .ok (.iaload, 1))
    (kk : W p l e R s m args below meth c H locs cells slots Q (F0 m (pc + 6) ls (.int (xs (x0 + k).toNatClampNeg) :: rest))) : W p l e R s m args below meth c H locs cells slots Q (F0 m pc ls rest) := by
  refine lv_aload_n hx hb d0 rfl (lv_at hl i0 h0) ?_
  refine lv_iload hx hb d1 (lv_at hl i4 h4) ?_
  refine lv_iconst (v := k) hx hb d3 hn ?_
  refine lv_iadd hx hb d4 ?_
  exact va_sld hx hb hX hbl (Nat.not_le.mpr hbl) hS hin d5 kk
theorem sc_ldb {b L i0 i4 : Nat} {n : Int} {xs : Nat → Int32} {x0 k : Int32} {lv : List (Nat × Value)} (hx : p.tables.exec = Jvm.exec) (hb : c.code = cc) (hX : va_X b L xs s s.heap) (hbl : b < s.heap.size) (hS : va_S (wA s.heap.size) s.heap H locs) (hl : lv_has ls nL lv) (h0 : lv[i0]? = some (0, .ref b)) (h4 : lv[i4]? = some (4, .int x0)) (hin : vp_in (x0 + k) L) (hn : (Int8.ofInt n).toInt32 = k)
    (d0 : decode cc pc = .ok (.aload_n 0, 1)) (d1 : decode cc (pc + 1) = .ok (.iload 4, 2)) (d3 : decode cc (pc + 3) = .ok (.bipush n, 2)) (d4 : decode cc (pc + 5) = .ok (.iadd, 1)) (d5 : decode cc (pc + 6) = .ok (.iaload, 1))
    (kk : W p l e R s m args below meth c H locs cells slots Q (F0 m (pc + 7) ls (.int (xs (x0 + k).toNatClampNeg) :: rest))) : W p l e R s m args below meth c H locs cells slots Q (F0 m pc ls rest) := by
  refine lv_aload_n hx hb d0 rfl (lv_at hl i0 h0) ?_
  refine lv_iload hx hb d1 (lv_at hl i4 h4) ?_
  refine lv_bipush (v := k) hx hb d3 hn ?_
  refine lv_iadd hx hb d4 ?_
  exact va_sld hx hb hX hbl (Nat.not_le.mpr hbl) hS hin d5 kk
/-- the reference's cell has another name than in its own contract -/
theorem lw_lald {a : Nat} {v : Int64} (ha : a = ad 22 0) (hx : p.tables.exec = Jvm.exec) (hb : c.code = cc) (hK : va_K D vwCl (wd_tys cA) s) (hW : wd D (wA b0) (PO cA ad z q) ad H) (hv : z.2 22 0 0 = v) (hdg : decode cc pc = .ok (.laload, 1))
    (kk : W p l e R s m args below meth c H locs cells slots Q (F0 m (pc + 1) ls (.long v :: rest))) : W p l e R s m args below meth c H locs cells slots Q (F0 m pc ls (.int 0 :: .ref a :: rest)) := by
  subst ha
  exact ow_lald hx hb hK hW 22 0 (PO_k22) (i := 0) (show ¬ ((0 : Int32) < 0 ∨ 1 ≤ (0 : Int32).toNatClampNeg) by decide) (by rw [lr_e0]; exact hv) hdg kk
end LAWR
theorem lg_self (x : Int64) : lg_cmp x x = 0 := by
  unfold lg_cmp
  rw [if_neg (fun h => Int64.lt_irrefl h), if_pos rfl]
theorem hc129 : Cond.constantLong RL 129 (4294967295) ∈ wsL_law := by
  unfold wsL_law wsL_law0
  have h : Cond.constantLong RL 129 (4294967295) ∈ wsL_law0_r1 := List.mem_of_getElem? (i := 7) rfl
  simp only [List.mem_append, h, true_or, or_true]
set_option maxHeartbeats 4000000 in
set_option maxRecDepth 100000 in
theorem ca_officer {p : Program} {l : Launch} {e : Env} {s : State} {m : MethodId} {below : List Frame} {meth : Method} {c : Code} {Q : State → Prop} {b L : Nat} {xs : Nat → Int32} {D : va_G} {cA : Nat → ClassId} (hC : LX p l s m c b L xs D cA) {H : Heap} {cells slots : Nat} {ls : Array Slot} {ad : Nat → Nat → Nat} {z : qC} {q : qM} {a1 a2 a3 : Nat} {x0 : Int32} (hin : ∀ k : Int32, 0 ≤ k.toInt → k.toInt ≤ 8 → vp_in (x0 + k) L) (ha1 : a1 = ad 0 0) (ha2 : a2 = ad 20 0) (ha3 : a3 = ad 22 0) (hW : wd D (wA s.heap.size) (PO cA ad z q) ad H) (hS : va_S (wA s.heap.size) s.heap H []) (hR : RI z q) (hl : lv_has ls 8 [(4, .int x0), (0, .ref b), (1, .ref a1), (2, .ref a2), (3, .ref a3)]) (hcs : cells + 8 ≤ room_1.cells ∧ slots + 50 ≤ room_1.slots)
    (next : ∀ (u : Nat → Nat → Nat) (z' : qC) (q' : qM) (H' : Heap) (locs' : List Loc) (ls' : Array Slot), a1 = u 0 0 → a2 = u 20 0 → a3 = u 22 0 → wd D (wA s.heap.size) (PO cA u z' q') u H' → va_S (wA s.heap.size) s.heap H' locs' → RI z' q' → lv_has ls' 8 [(4, .int x0), (0, .ref b), (1, .ref a1), (2, .ref a2), (3, .ref a3)] → W p l e room_1 s m #[Value.ref b] below meth c H' locs' (cells + 8) (slots + 50) Q (F0 m 1829 ls' [])) :
    W p l e room_1 s m #[Value.ref b] below meth c H [] cells slots Q (F0 m 156 ls []) := by
  obtain ⟨hx, hb, hml, hown, hts, hK, hKD, hKX, hKN, hlt, hX, hbl⟩ := hC
  refine lv_aload_n hx hb dL_law_156 rfl (lv_at hl 2 rfl) ?_
  refine sc_ldi (k := 1) (i0 := 1) (i4 := 0) hx hb hX hbl hS hl rfl rfl (hin 1 (by decide) (by decide)) (by decide) dL_law_157 dL_law_158 dL_law_160 dL_law_161 dL_law_162 ?_
  refine sc_ldi (k := 2) (i0 := 1) (i4 := 0) hx hb hX hbl hS hl rfl rfl (hin 2 (by decide) (by decide)) (by decide) dL_law_163 dL_law_164 dL_law_166 dL_law_167 dL_law_168 ?_
  refine lw_callW (n := 3) (As := [.ref a1, .int (xs (x0 + 1).toNatClampNeg), .int (xs (x0 + 2).toNatClampNeg)]) (rest := []) ⟨hx, hb, hml, hown, hts⟩ (c_L_officer l hlt D s.heap.size cA ad q z (xs (x0 + 1).toNatClampNeg) (xs (x0 + 2).toNatClampNeg)) (by rw [ha1]) gL_law_L_officer rfl (by decide +kernel) rfl ⟨Nat.le_of_ble_eq_true rfl, Nat.le_of_ble_eq_true rfl⟩ hcs hK hW hS hKD hKX hKN (Nat.le_refl _) hl.1 rfl (Nat.le_of_ble_eq_true rfl) dL_law_169 (fun u H locs hak hW hS => ?_)
  have hb1 : a1 = u 0 0 := ha1.trans (hak 0 0 (by decide) (by decide) (by decide)).symm
  have hb2 : a2 = u 20 0 := ha2.trans (hak 20 0 (by decide) (by decide) (by decide)).symm
  have hb3 : a3 = u 22 0 := ha3.trans (hak 22 0 (by decide) (by decide) (by decide)).symm
  have hfs := fs_officer hR (xs (x0 + 1).toNatClampNeg) (xs (x0 + 2).toNatClampNeg)
  generalize hZ1 : (zV ((m_X7_officer z (xs (x0 + 1).toNatClampNeg) (xs (x0 + 2).toNatClampNeg)).1) ((m_X7_officer z (xs (x0 + 1).toNatClampNeg) (xs (x0 + 2).toNatClampNeg)).2) z) = Z1 at hW hfs ⊢
  generalize hK1 : ((m_X7_officer z (xs (x0 + 1).toNatClampNeg) (xs (x0 + 2).toNatClampNeg)).1) = K1 at hfs ⊢
  refine lv_istore (lv' := [(5, .int K1), (4, .int x0), (0, .ref b), (1, .ref a1), (2, .ref a2), (3, .ref a3)]) hx hb dL_law_172 hl (by decide) rfl (fun ls hl => ?_)
  refine lv_aload_n hx hb dL_law_174 rfl (lv_at hl 4 rfl) ?_
  refine sc_ldi (k := 1) (i0 := 2) (i4 := 1) hx hb hX hbl hS hl rfl rfl (hin 1 (by decide) (by decide)) (by decide) dL_law_175 dL_law_176 dL_law_178 dL_law_179 dL_law_180 ?_
  refine sc_ldi (k := 2) (i0 := 2) (i4 := 1) hx hb hX hbl hS hl rfl rfl (hin 2 (by decide) (by decide)) (by decide) dL_law_181 dL_law_182 dL_law_184 dL_law_185 dL_law_186 ?_
  subst hb2
  refine mm_callVv (n := 2) (As := [.int (xs (x0 + 1).toNatClampNeg), .int (xs (x0 + 2).toNatClampNeg)]) (rest := []) ⟨hx, hb, hml, hown, hts⟩ (c_X8_officer l D s.heap.size (PC cA u Z1) cA u q (xs (x0 + 1).toNatClampNeg) (xs (x0 + 2).toNatClampNeg)) gL_law_X8_officer rfl (by decide +kernel) rfl ⟨Nat.le_of_ble_eq_true rfl, Nat.le_of_ble_eq_true rfl⟩ ⟨hcs.1, hcs.2⟩ hK hW hS hl.1 rfl (Nat.le_of_ble_eq_true rfl) dL_law_187 (fun H locs hW hS => ?_)
  refine lv_aload_n hx hb dL_law_190 rfl (lv_at hl 4 rfl) ?_
  refine mm_callVi (n := 0) (As := []) (rest := []) ⟨hx, hb, hml, hown, hts⟩ (c_X8_thrown l D s.heap.size (PC cA u Z1) cA u (m_X8_officer q (xs (x0 + 1).toNatClampNeg) (xs (x0 + 2).toNatClampNeg))) gL_law_X8_thrown rfl (by decide +kernel) rfl ⟨Nat.le_of_ble_eq_true rfl, Nat.le_of_ble_eq_true rfl⟩ ⟨hcs.1, hcs.2⟩ hK hW hS hl.1 rfl (Nat.le_of_ble_eq_true rfl) dL_law_191 (fun H locs hW hS => ?_)
  refine lv_iload hx hb dL_law_194 (lv_at hl 0 rfl) ?_
  refine lv_icmp_eq (tgt := 201) hx hb dL_law_196 (by decide) (fun _ => ?_) (fun h => absurd (hfs.1) h)
  refine lv_goto (tgt := 1829) hx hb dL_law_201 (by decide) ?_
  exact next u Z1 (m_X8_officer q (xs (x0 + 1).toNatClampNeg) (xs (x0 + 2).toNatClampNeg)) H locs ls hb1 rfl hb3 hW hS hfs.2 (lv_sub hl [1, 2, 3, 4, 5] rfl)
set_option maxHeartbeats 4000000 in
set_option maxRecDepth 100000 in
theorem ca_version0 {p : Program} {l : Launch} {e : Env} {s : State} {m : MethodId} {below : List Frame} {meth : Method} {c : Code} {Q : State → Prop} {b L : Nat} {xs : Nat → Int32} {D : va_G} {cA : Nat → ClassId} (hC : LX p l s m c b L xs D cA) {H : Heap} {cells slots : Nat} {ls : Array Slot} {ad : Nat → Nat → Nat} {z : qC} {q : qM} {a1 a2 a3 : Nat} {x0 : Int32} (hin : ∀ k : Int32, 0 ≤ k.toInt → k.toInt ≤ 8 → vp_in (x0 + k) L) (ha1 : a1 = ad 0 0) (ha2 : a2 = ad 20 0) (ha3 : a3 = ad 22 0) (hW : wd D (wA s.heap.size) (PO cA ad z q) ad H) (hS : va_S (wA s.heap.size) s.heap H []) (hR : RI z q) (hl : lv_has ls 8 [(4, .int x0), (0, .ref b), (1, .ref a1), (2, .ref a2), (3, .ref a3)]) (hcs : cells + 8 ≤ room_1.cells ∧ slots + 50 ≤ room_1.slots)
    (next : ∀ (u : Nat → Nat → Nat) (z' : qC) (q' : qM) (H' : Heap) (locs' : List Loc) (ls' : Array Slot), a1 = u 0 0 → a2 = u 20 0 → a3 = u 22 0 → wd D (wA s.heap.size) (PO cA u z' q') u H' → va_S (wA s.heap.size) s.heap H' locs' → RI z' q' → lv_has ls' 8 [(4, .int x0), (0, .ref b), (1, .ref a1), (2, .ref a2), (3, .ref a3)] → W p l e room_1 s m #[Value.ref b] below meth c H' locs' (cells + 8) (slots + 50) Q (F0 m 1829 ls' [])) (h5 : xs (x0 + 5).toNatClampNeg = 0) :
    W p l e room_1 s m #[Value.ref b] below meth c H [] cells slots Q (F0 m 204 ls []) := by
  obtain ⟨hx, hb, hml, hown, hts, hK, hKD, hKX, hKN, hlt, hX, hbl⟩ := hC
  refine lv_aload_n hx hb dL_law_204 rfl (lv_at hl 2 rfl) ?_
  refine sc_ldi (k := 1) (i0 := 1) (i4 := 0) hx hb hX hbl hS hl rfl rfl (hin 1 (by decide) (by decide)) (by decide) dL_law_205 dL_law_206 dL_law_208 dL_law_209 dL_law_210 ?_
  refine sc_ldi (k := 2) (i0 := 1) (i4 := 0) hx hb hX hbl hS hl rfl rfl (hin 2 (by decide) (by decide)) (by decide) dL_law_211 dL_law_212 dL_law_214 dL_law_215 dL_law_216 ?_
  refine sc_ldi (k := 3) (i0 := 1) (i4 := 0) hx hb hX hbl hS hl rfl rfl (hin 3 (by decide) (by decide)) (by decide) dL_law_217 dL_law_218 dL_law_220 dL_law_221 dL_law_222 ?_
  refine sc_ldi (k := 4) (i0 := 1) (i4 := 0) hx hb hX hbl hS hl rfl rfl (hin 4 (by decide) (by decide)) (by decide) dL_law_223 dL_law_224 dL_law_226 dL_law_227 dL_law_228 ?_
  refine sc_ldi (k := 5) (i0 := 1) (i4 := 0) hx hb hX hbl hS hl rfl rfl (hin 5 (by decide) (by decide)) (by decide) dL_law_229 dL_law_230 dL_law_232 dL_law_233 dL_law_234 ?_
  refine lv_if_eq (tgt := 242) hx hb dL_law_235 (by decide) (fun _ => ?_) (fun h => absurd h5 h)
  refine lv_iconst (v := 0) hx hb dL_law_242 (by decide) ?_
  refine sc_ldb (k := 6) (i0 := 1) (i4 := 0) hx hb hX hbl hS hl rfl rfl (hin 6 (by decide) (by decide)) (by decide) dL_law_243 dL_law_244 dL_law_246 dL_law_248 dL_law_249 ?_
  refine lv_aload_n hx hb dL_law_250 rfl (lv_at hl 4 rfl) ?_
  refine lw_callW (n := 8) (As := [.ref a1, .int (xs (x0 + 1).toNatClampNeg), .int (xs (x0 + 2).toNatClampNeg), .int (xs (x0 + 3).toNatClampNeg), .int (xs (x0 + 4).toNatClampNeg), .int 0, .int (xs (x0 + 6).toNatClampNeg), .ref a3]) (rest := []) ⟨hx, hb, hml, hown, hts⟩ (c_L_version l hlt D s.heap.size cA ad q z (xs (x0 + 1).toNatClampNeg) (xs (x0 + 2).toNatClampNeg) (xs (x0 + 3).toNatClampNeg) (xs (x0 + 4).toNatClampNeg) 0 (xs (x0 + 6).toNatClampNeg) hR.2.2.2 (by decide)) (by rw [ha1, ha3]) gL_law_L_version rfl (by decide +kernel) rfl ⟨Nat.le_of_ble_eq_true rfl, Nat.le_of_ble_eq_true rfl⟩ hcs hK hW hS hKD hKX hKN (Nat.le_refl _) hl.1 rfl (Nat.le_of_ble_eq_true rfl) dL_law_251 (fun u H locs hak hW hS => ?_)
  have hb1 : a1 = u 0 0 := ha1.trans (hak 0 0 (by decide) (by decide) (by decide)).symm
  have hb2 : a2 = u 20 0 := ha2.trans (hak 20 0 (by decide) (by decide) (by decide)).symm
  have hb3 : a3 = u 22 0 := ha3.trans (hak 22 0 (by decide) (by decide) (by decide)).symm
  have hfs := fs_version hR (xs (x0 + 1).toNatClampNeg) (xs (x0 + 2).toNatClampNeg) (xs (x0 + 3).toNatClampNeg) (xs (x0 + 4).toNatClampNeg) 0 (xs (x0 + 6).toNatClampNeg)
  generalize hZ1 : (zL ((m_X7_version z (xs (x0 + 1).toNatClampNeg) (xs (x0 + 2).toNatClampNeg) (xs (x0 + 3).toNatClampNeg) (xs (x0 + 4).toNatClampNeg) 0 (xs (x0 + 6).toNatClampNeg)).1) (Int32.toInt64 ((m_X7_version z (xs (x0 + 1).toNatClampNeg) (xs (x0 + 2).toNatClampNeg) (xs (x0 + 3).toNatClampNeg) (xs (x0 + 4).toNatClampNeg) 0 (xs (x0 + 6).toNatClampNeg)).2.1)) ((m_X7_version z (xs (x0 + 1).toNatClampNeg) (xs (x0 + 2).toNatClampNeg) (xs (x0 + 3).toNatClampNeg) (xs (x0 + 4).toNatClampNeg) 0 (xs (x0 + 6).toNatClampNeg)).2.2) z) = Z1 at hW hfs ⊢
  generalize hK1 : ((m_X7_version z (xs (x0 + 1).toNatClampNeg) (xs (x0 + 2).toNatClampNeg) (xs (x0 + 3).toNatClampNeg) (xs (x0 + 4).toNatClampNeg) 0 (xs (x0 + 6).toNatClampNeg)).1) = K1 at hfs ⊢
  refine lv_istore (lv' := [(5, .int K1), (4, .int x0), (0, .ref b), (1, .ref a1), (2, .ref a2), (3, .ref a3)]) hx hb dL_law_254 hl (by decide) rfl (fun ls hl => ?_)
  refine lv_aload_n hx hb dL_law_256 rfl (lv_at hl 4 rfl) ?_
  refine sc_ldi (k := 1) (i0 := 2) (i4 := 1) hx hb hX hbl hS hl rfl rfl (hin 1 (by decide) (by decide)) (by decide) dL_law_257 dL_law_258 dL_law_260 dL_law_261 dL_law_262 ?_
  refine sc_ldi (k := 2) (i0 := 2) (i4 := 1) hx hb hX hbl hS hl rfl rfl (hin 2 (by decide) (by decide)) (by decide) dL_law_263 dL_law_264 dL_law_266 dL_law_267 dL_law_268 ?_
  refine sc_ldi (k := 3) (i0 := 2) (i4 := 1) hx hb hX hbl hS hl rfl rfl (hin 3 (by decide) (by decide)) (by decide) dL_law_269 dL_law_270 dL_law_272 dL_law_273 dL_law_274 ?_
  refine sc_ldi (k := 4) (i0 := 2) (i4 := 1) hx hb hX hbl hS hl rfl rfl (hin 4 (by decide) (by decide)) (by decide) dL_law_275 dL_law_276 dL_law_278 dL_law_279 dL_law_280 ?_
  refine sc_ldi (k := 5) (i0 := 2) (i4 := 1) hx hb hX hbl hS hl rfl rfl (hin 5 (by decide) (by decide)) (by decide) dL_law_281 dL_law_282 dL_law_284 dL_law_285 dL_law_286 ?_
  refine lv_if_eq (tgt := 294) hx hb dL_law_287 (by decide) (fun _ => ?_) (fun h => absurd h5 h)
  refine lv_iconst (v := 0) hx hb dL_law_294 (by decide) ?_
  refine sc_ldb (k := 6) (i0 := 2) (i4 := 1) hx hb hX hbl hS hl rfl rfl (hin 6 (by decide) (by decide)) (by decide) dL_law_295 dL_law_296 dL_law_298 dL_law_300 dL_law_301 ?_
  subst hb2
  refine mm_callVi (n := 6) (As := [.int (xs (x0 + 1).toNatClampNeg), .int (xs (x0 + 2).toNatClampNeg), .int (xs (x0 + 3).toNatClampNeg), .int (xs (x0 + 4).toNatClampNeg), .int 0, .int (xs (x0 + 6).toNatClampNeg)]) (rest := []) ⟨hx, hb, hml, hown, hts⟩ (c_X8_version l D s.heap.size (PC cA u Z1) cA u q (xs (x0 + 1).toNatClampNeg) (xs (x0 + 2).toNatClampNeg) (xs (x0 + 3).toNatClampNeg) (xs (x0 + 4).toNatClampNeg) 0 (xs (x0 + 6).toNatClampNeg) (by decide) hR.2.1 hR.2.2.1) gL_law_X8_version rfl (by decide +kernel) rfl ⟨Nat.le_of_ble_eq_true rfl, Nat.le_of_ble_eq_true rfl⟩ ⟨hcs.1, hcs.2⟩ hK hW hS hl.1 rfl (Nat.le_of_ble_eq_true rfl) dL_law_302 (fun H locs hW hS => ?_)
  refine lv_istore (lv' := [(6, .int (m_X8_version q (xs (x0 + 1).toNatClampNeg) (xs (x0 + 2).toNatClampNeg) (xs (x0 + 3).toNatClampNeg) (xs (x0 + 4).toNatClampNeg) 0 (xs (x0 + 6).toNatClampNeg)).1), (5, .int K1), (4, .int x0), (0, .ref b), (1, .ref a1), (2, .ref (u 20 0)), (3, .ref a3)]) hx hb dL_law_305 hl (by decide) rfl (fun ls hl => ?_)
  refine lv_aload_n hx hb dL_law_307 rfl (lv_at hl 5 rfl) ?_
  refine mm_callVi (n := 0) (As := []) (rest := []) ⟨hx, hb, hml, hown, hts⟩ (c_X8_thrown l D s.heap.size (PC cA u Z1) cA u (m_X8_version q (xs (x0 + 1).toNatClampNeg) (xs (x0 + 2).toNatClampNeg) (xs (x0 + 3).toNatClampNeg) (xs (x0 + 4).toNatClampNeg) 0 (xs (x0 + 6).toNatClampNeg)).2) gL_law_X8_thrown rfl (by decide +kernel) rfl ⟨Nat.le_of_ble_eq_true rfl, Nat.le_of_ble_eq_true rfl⟩ ⟨hcs.1, hcs.2⟩ hK hW hS hl.1 rfl (Nat.le_of_ble_eq_true rfl) dL_law_308 (fun H locs hW hS => ?_)
  refine lv_iload hx hb dL_law_311 (lv_at hl 1 rfl) ?_
  refine lv_icmp_eq (tgt := 318) hx hb dL_law_313 (by decide) (fun _ => ?_) (fun h => absurd (hfs.1) h)
  refine lv_iload hx hb dL_law_318 (lv_at hl 1 rfl) ?_
  refine lv_if_ne (tgt := 335) hx hb dL_law_320 (by decide) (fun hk => ?_) (fun hk => ?_)
  · refine lv_goto (tgt := 1829) hx hb dL_law_335 (by decide) ?_
    exact next u Z1 (m_X8_version q (xs (x0 + 1).toNatClampNeg) (xs (x0 + 2).toNatClampNeg) (xs (x0 + 3).toNatClampNeg) (xs (x0 + 4).toNatClampNeg) 0 (xs (x0 + 6).toNatClampNeg)).2 H locs ls hb1 rfl hb3 hW hS hfs.2.1 (lv_sub hl [2, 3, 4, 5, 6] rfl)
  · have hk0 : K1 = 0 := hk
    refine lv_aload_n hx hb dL_law_323 rfl (lv_at hl 6 rfl) ?_
    refine lv_iconst (v := 0) hx hb dL_law_324 (by decide) ?_
    refine lw_lald hb3 hx hb hK hW (hfs.2.2 hk0) dL_law_325 ?_
    refine lv_iload hx hb dL_law_326 (lv_at hl 0 rfl) ?_
    refine lv_i2l hx hb dL_law_328 rfl ?_
    refine W.lcmp hx hb dL_law_329 ?_
    refine lv_if_eq (tgt := 335) hx hb dL_law_330 (by decide) (fun _ => ?_) (fun h => absurd (lg_self _) h)
    refine lv_goto (tgt := 1829) hx hb dL_law_335 (by decide) ?_
    exact next u Z1 (m_X8_version q (xs (x0 + 1).toNatClampNeg) (xs (x0 + 2).toNatClampNeg) (xs (x0 + 3).toNatClampNeg) (xs (x0 + 4).toNatClampNeg) 0 (xs (x0 + 6).toNatClampNeg)).2 H locs ls hb1 rfl hb3 hW hS hfs.2.1 (lv_sub hl [2, 3, 4, 5, 6] rfl)
set_option maxHeartbeats 4000000 in
set_option maxRecDepth 100000 in
theorem ca_version1 {p : Program} {l : Launch} {e : Env} {s : State} {m : MethodId} {below : List Frame} {meth : Method} {c : Code} {Q : State → Prop} {b L : Nat} {xs : Nat → Int32} {D : va_G} {cA : Nat → ClassId} (hC : LX p l s m c b L xs D cA) {H : Heap} {cells slots : Nat} {ls : Array Slot} {ad : Nat → Nat → Nat} {z : qC} {q : qM} {a1 a2 a3 : Nat} {x0 : Int32} (hin : ∀ k : Int32, 0 ≤ k.toInt → k.toInt ≤ 8 → vp_in (x0 + k) L) (ha1 : a1 = ad 0 0) (ha2 : a2 = ad 20 0) (ha3 : a3 = ad 22 0) (hW : wd D (wA s.heap.size) (PO cA ad z q) ad H) (hS : va_S (wA s.heap.size) s.heap H []) (hR : RI z q) (hl : lv_has ls 8 [(4, .int x0), (0, .ref b), (1, .ref a1), (2, .ref a2), (3, .ref a3)]) (hcs : cells + 8 ≤ room_1.cells ∧ slots + 50 ≤ room_1.slots)
    (next : ∀ (u : Nat → Nat → Nat) (z' : qC) (q' : qM) (H' : Heap) (locs' : List Loc) (ls' : Array Slot), a1 = u 0 0 → a2 = u 20 0 → a3 = u 22 0 → wd D (wA s.heap.size) (PO cA u z' q') u H' → va_S (wA s.heap.size) s.heap H' locs' → RI z' q' → lv_has ls' 8 [(4, .int x0), (0, .ref b), (1, .ref a1), (2, .ref a2), (3, .ref a3)] → W p l e room_1 s m #[Value.ref b] below meth c H' locs' (cells + 8) (slots + 50) Q (F0 m 1829 ls' [])) (h5 : ¬ xs (x0 + 5).toNatClampNeg = 0) :
    W p l e room_1 s m #[Value.ref b] below meth c H [] cells slots Q (F0 m 204 ls []) := by
  obtain ⟨hx, hb, hml, hown, hts, hK, hKD, hKX, hKN, hlt, hX, hbl⟩ := hC
  refine lv_aload_n hx hb dL_law_204 rfl (lv_at hl 2 rfl) ?_
  refine sc_ldi (k := 1) (i0 := 1) (i4 := 0) hx hb hX hbl hS hl rfl rfl (hin 1 (by decide) (by decide)) (by decide) dL_law_205 dL_law_206 dL_law_208 dL_law_209 dL_law_210 ?_
  refine sc_ldi (k := 2) (i0 := 1) (i4 := 0) hx hb hX hbl hS hl rfl rfl (hin 2 (by decide) (by decide)) (by decide) dL_law_211 dL_law_212 dL_law_214 dL_law_215 dL_law_216 ?_
  refine sc_ldi (k := 3) (i0 := 1) (i4 := 0) hx hb hX hbl hS hl rfl rfl (hin 3 (by decide) (by decide)) (by decide) dL_law_217 dL_law_218 dL_law_220 dL_law_221 dL_law_222 ?_
  refine sc_ldi (k := 4) (i0 := 1) (i4 := 0) hx hb hX hbl hS hl rfl rfl (hin 4 (by decide) (by decide)) (by decide) dL_law_223 dL_law_224 dL_law_226 dL_law_227 dL_law_228 ?_
  refine sc_ldi (k := 5) (i0 := 1) (i4 := 0) hx hb hX hbl hS hl rfl rfl (hin 5 (by decide) (by decide)) (by decide) dL_law_229 dL_law_230 dL_law_232 dL_law_233 dL_law_234 ?_
  refine lv_if_eq (tgt := 242) hx hb dL_law_235 (by decide) (fun h => absurd h h5) (fun _ => ?_)
  refine lv_iconst (v := 1) hx hb dL_law_238 (by decide) ?_
  refine lv_goto (tgt := 243) hx hb dL_law_239 (by decide) ?_
  refine sc_ldb (k := 6) (i0 := 1) (i4 := 0) hx hb hX hbl hS hl rfl rfl (hin 6 (by decide) (by decide)) (by decide) dL_law_243 dL_law_244 dL_law_246 dL_law_248 dL_law_249 ?_
  refine lv_aload_n hx hb dL_law_250 rfl (lv_at hl 4 rfl) ?_
  refine lw_callW (n := 8) (As := [.ref a1, .int (xs (x0 + 1).toNatClampNeg), .int (xs (x0 + 2).toNatClampNeg), .int (xs (x0 + 3).toNatClampNeg), .int (xs (x0 + 4).toNatClampNeg), .int 1, .int (xs (x0 + 6).toNatClampNeg), .ref a3]) (rest := []) ⟨hx, hb, hml, hown, hts⟩ (c_L_version l hlt D s.heap.size cA ad q z (xs (x0 + 1).toNatClampNeg) (xs (x0 + 2).toNatClampNeg) (xs (x0 + 3).toNatClampNeg) (xs (x0 + 4).toNatClampNeg) 1 (xs (x0 + 6).toNatClampNeg) hR.2.2.2 (by decide)) (by rw [ha1, ha3]) gL_law_L_version rfl (by decide +kernel) rfl ⟨Nat.le_of_ble_eq_true rfl, Nat.le_of_ble_eq_true rfl⟩ hcs hK hW hS hKD hKX hKN (Nat.le_refl _) hl.1 rfl (Nat.le_of_ble_eq_true rfl) dL_law_251 (fun u H locs hak hW hS => ?_)
  have hb1 : a1 = u 0 0 := ha1.trans (hak 0 0 (by decide) (by decide) (by decide)).symm
  have hb2 : a2 = u 20 0 := ha2.trans (hak 20 0 (by decide) (by decide) (by decide)).symm
  have hb3 : a3 = u 22 0 := ha3.trans (hak 22 0 (by decide) (by decide) (by decide)).symm
  have hfs := fs_version hR (xs (x0 + 1).toNatClampNeg) (xs (x0 + 2).toNatClampNeg) (xs (x0 + 3).toNatClampNeg) (xs (x0 + 4).toNatClampNeg) 1 (xs (x0 + 6).toNatClampNeg)
  generalize hZ1 : (zL ((m_X7_version z (xs (x0 + 1).toNatClampNeg) (xs (x0 + 2).toNatClampNeg) (xs (x0 + 3).toNatClampNeg) (xs (x0 + 4).toNatClampNeg) 1 (xs (x0 + 6).toNatClampNeg)).1) (Int32.toInt64 ((m_X7_version z (xs (x0 + 1).toNatClampNeg) (xs (x0 + 2).toNatClampNeg) (xs (x0 + 3).toNatClampNeg) (xs (x0 + 4).toNatClampNeg) 1 (xs (x0 + 6).toNatClampNeg)).2.1)) ((m_X7_version z (xs (x0 + 1).toNatClampNeg) (xs (x0 + 2).toNatClampNeg) (xs (x0 + 3).toNatClampNeg) (xs (x0 + 4).toNatClampNeg) 1 (xs (x0 + 6).toNatClampNeg)).2.2) z) = Z1 at hW hfs ⊢
  generalize hK1 : ((m_X7_version z (xs (x0 + 1).toNatClampNeg) (xs (x0 + 2).toNatClampNeg) (xs (x0 + 3).toNatClampNeg) (xs (x0 + 4).toNatClampNeg) 1 (xs (x0 + 6).toNatClampNeg)).1) = K1 at hfs ⊢
  refine lv_istore (lv' := [(5, .int K1), (4, .int x0), (0, .ref b), (1, .ref a1), (2, .ref a2), (3, .ref a3)]) hx hb dL_law_254 hl (by decide) rfl (fun ls hl => ?_)
  refine lv_aload_n hx hb dL_law_256 rfl (lv_at hl 4 rfl) ?_
  refine sc_ldi (k := 1) (i0 := 2) (i4 := 1) hx hb hX hbl hS hl rfl rfl (hin 1 (by decide) (by decide)) (by decide) dL_law_257 dL_law_258 dL_law_260 dL_law_261 dL_law_262 ?_
  refine sc_ldi (k := 2) (i0 := 2) (i4 := 1) hx hb hX hbl hS hl rfl rfl (hin 2 (by decide) (by decide)) (by decide) dL_law_263 dL_law_264 dL_law_266 dL_law_267 dL_law_268 ?_
  refine sc_ldi (k := 3) (i0 := 2) (i4 := 1) hx hb hX hbl hS hl rfl rfl (hin 3 (by decide) (by decide)) (by decide) dL_law_269 dL_law_270 dL_law_272 dL_law_273 dL_law_274 ?_
  refine sc_ldi (k := 4) (i0 := 2) (i4 := 1) hx hb hX hbl hS hl rfl rfl (hin 4 (by decide) (by decide)) (by decide) dL_law_275 dL_law_276 dL_law_278 dL_law_279 dL_law_280 ?_
  refine sc_ldi (k := 5) (i0 := 2) (i4 := 1) hx hb hX hbl hS hl rfl rfl (hin 5 (by decide) (by decide)) (by decide) dL_law_281 dL_law_282 dL_law_284 dL_law_285 dL_law_286 ?_
  refine lv_if_eq (tgt := 294) hx hb dL_law_287 (by decide) (fun h => absurd h h5) (fun _ => ?_)
  refine lv_iconst (v := 1) hx hb dL_law_290 (by decide) ?_
  refine lv_goto (tgt := 295) hx hb dL_law_291 (by decide) ?_
  refine sc_ldb (k := 6) (i0 := 2) (i4 := 1) hx hb hX hbl hS hl rfl rfl (hin 6 (by decide) (by decide)) (by decide) dL_law_295 dL_law_296 dL_law_298 dL_law_300 dL_law_301 ?_
  subst hb2
  refine mm_callVi (n := 6) (As := [.int (xs (x0 + 1).toNatClampNeg), .int (xs (x0 + 2).toNatClampNeg), .int (xs (x0 + 3).toNatClampNeg), .int (xs (x0 + 4).toNatClampNeg), .int 1, .int (xs (x0 + 6).toNatClampNeg)]) (rest := []) ⟨hx, hb, hml, hown, hts⟩ (c_X8_version l D s.heap.size (PC cA u Z1) cA u q (xs (x0 + 1).toNatClampNeg) (xs (x0 + 2).toNatClampNeg) (xs (x0 + 3).toNatClampNeg) (xs (x0 + 4).toNatClampNeg) 1 (xs (x0 + 6).toNatClampNeg) (by decide) hR.2.1 hR.2.2.1) gL_law_X8_version rfl (by decide +kernel) rfl ⟨Nat.le_of_ble_eq_true rfl, Nat.le_of_ble_eq_true rfl⟩ ⟨hcs.1, hcs.2⟩ hK hW hS hl.1 rfl (Nat.le_of_ble_eq_true rfl) dL_law_302 (fun H locs hW hS => ?_)
  refine lv_istore (lv' := [(6, .int (m_X8_version q (xs (x0 + 1).toNatClampNeg) (xs (x0 + 2).toNatClampNeg) (xs (x0 + 3).toNatClampNeg) (xs (x0 + 4).toNatClampNeg) 1 (xs (x0 + 6).toNatClampNeg)).1), (5, .int K1), (4, .int x0), (0, .ref b), (1, .ref a1), (2, .ref (u 20 0)), (3, .ref a3)]) hx hb dL_law_305 hl (by decide) rfl (fun ls hl => ?_)
  refine lv_aload_n hx hb dL_law_307 rfl (lv_at hl 5 rfl) ?_
  refine mm_callVi (n := 0) (As := []) (rest := []) ⟨hx, hb, hml, hown, hts⟩ (c_X8_thrown l D s.heap.size (PC cA u Z1) cA u (m_X8_version q (xs (x0 + 1).toNatClampNeg) (xs (x0 + 2).toNatClampNeg) (xs (x0 + 3).toNatClampNeg) (xs (x0 + 4).toNatClampNeg) 1 (xs (x0 + 6).toNatClampNeg)).2) gL_law_X8_thrown rfl (by decide +kernel) rfl ⟨Nat.le_of_ble_eq_true rfl, Nat.le_of_ble_eq_true rfl⟩ ⟨hcs.1, hcs.2⟩ hK hW hS hl.1 rfl (Nat.le_of_ble_eq_true rfl) dL_law_308 (fun H locs hW hS => ?_)
  refine lv_iload hx hb dL_law_311 (lv_at hl 1 rfl) ?_
  refine lv_icmp_eq (tgt := 318) hx hb dL_law_313 (by decide) (fun _ => ?_) (fun h => absurd (hfs.1) h)
  refine lv_iload hx hb dL_law_318 (lv_at hl 1 rfl) ?_
  refine lv_if_ne (tgt := 335) hx hb dL_law_320 (by decide) (fun hk => ?_) (fun hk => ?_)
  · refine lv_goto (tgt := 1829) hx hb dL_law_335 (by decide) ?_
    exact next u Z1 (m_X8_version q (xs (x0 + 1).toNatClampNeg) (xs (x0 + 2).toNatClampNeg) (xs (x0 + 3).toNatClampNeg) (xs (x0 + 4).toNatClampNeg) 1 (xs (x0 + 6).toNatClampNeg)).2 H locs ls hb1 rfl hb3 hW hS hfs.2.1 (lv_sub hl [2, 3, 4, 5, 6] rfl)
  · have hk0 : K1 = 0 := hk
    refine lv_aload_n hx hb dL_law_323 rfl (lv_at hl 6 rfl) ?_
    refine lv_iconst (v := 0) hx hb dL_law_324 (by decide) ?_
    refine lw_lald hb3 hx hb hK hW (hfs.2.2 hk0) dL_law_325 ?_
    refine lv_iload hx hb dL_law_326 (lv_at hl 0 rfl) ?_
    refine lv_i2l hx hb dL_law_328 rfl ?_
    refine W.lcmp hx hb dL_law_329 ?_
    refine lv_if_eq (tgt := 335) hx hb dL_law_330 (by decide) (fun _ => ?_) (fun h => absurd (lg_self _) h)
    refine lv_goto (tgt := 1829) hx hb dL_law_335 (by decide) ?_
    exact next u Z1 (m_X8_version q (xs (x0 + 1).toNatClampNeg) (xs (x0 + 2).toNatClampNeg) (xs (x0 + 3).toNatClampNeg) (xs (x0 + 4).toNatClampNeg) 1 (xs (x0 + 6).toNatClampNeg)).2 H locs ls hb1 rfl hb3 hW hS hfs.2.1 (lv_sub hl [2, 3, 4, 5, 6] rfl)
set_option maxHeartbeats 4000000 in
set_option maxRecDepth 100000 in
theorem ca_fiscal {p : Program} {l : Launch} {e : Env} {s : State} {m : MethodId} {below : List Frame} {meth : Method} {c : Code} {Q : State → Prop} {b L : Nat} {xs : Nat → Int32} {D : va_G} {cA : Nat → ClassId} (hC : LX p l s m c b L xs D cA) {H : Heap} {cells slots : Nat} {ls : Array Slot} {ad : Nat → Nat → Nat} {z : qC} {q : qM} {a1 a2 a3 : Nat} {x0 : Int32} (hin : ∀ k : Int32, 0 ≤ k.toInt → k.toInt ≤ 8 → vp_in (x0 + k) L) (ha1 : a1 = ad 0 0) (ha2 : a2 = ad 20 0) (ha3 : a3 = ad 22 0) (hW : wd D (wA s.heap.size) (PO cA ad z q) ad H) (hS : va_S (wA s.heap.size) s.heap H []) (hR : RI z q) (hl : lv_has ls 8 [(4, .int x0), (0, .ref b), (1, .ref a1), (2, .ref a2), (3, .ref a3)]) (hcs : cells + 8 ≤ room_1.cells ∧ slots + 50 ≤ room_1.slots)
    (next : ∀ (u : Nat → Nat → Nat) (z' : qC) (q' : qM) (H' : Heap) (locs' : List Loc) (ls' : Array Slot), a1 = u 0 0 → a2 = u 20 0 → a3 = u 22 0 → wd D (wA s.heap.size) (PO cA u z' q') u H' → va_S (wA s.heap.size) s.heap H' locs' → RI z' q' → lv_has ls' 8 [(4, .int x0), (0, .ref b), (1, .ref a1), (2, .ref a2), (3, .ref a3)] → W p l e room_1 s m #[Value.ref b] below meth c H' locs' (cells + 8) (slots + 50) Q (F0 m 1829 ls' [])) :
    W p l e room_1 s m #[Value.ref b] below meth c H [] cells slots Q (F0 m 338 ls []) := by
  obtain ⟨hx, hb, hml, hown, hts, hK, hKD, hKX, hKN, hlt, hX, hbl⟩ := hC
  refine lv_aload_n hx hb dL_law_338 rfl (lv_at hl 2 rfl) ?_
  refine sc_ldi (k := 1) (i0 := 1) (i4 := 0) hx hb hX hbl hS hl rfl rfl (hin 1 (by decide) (by decide)) (by decide) dL_law_339 dL_law_340 dL_law_342 dL_law_343 dL_law_344 ?_
  refine lw_callW (n := 2) (As := [.ref a1, .int (xs (x0 + 1).toNatClampNeg)]) (rest := []) ⟨hx, hb, hml, hown, hts⟩ (c_L_fiscal l hlt D s.heap.size cA ad q z (xs (x0 + 1).toNatClampNeg)) (by rw [ha1]) gL_law_L_fiscal rfl (by decide +kernel) rfl ⟨Nat.le_of_ble_eq_true rfl, Nat.le_of_ble_eq_true rfl⟩ hcs hK hW hS hKD hKX hKN (Nat.le_refl _) hl.1 rfl (Nat.le_of_ble_eq_true rfl) dL_law_345 (fun u H locs hak hW hS => ?_)
  have hb1 : a1 = u 0 0 := ha1.trans (hak 0 0 (by decide) (by decide) (by decide)).symm
  have hb2 : a2 = u 20 0 := ha2.trans (hak 20 0 (by decide) (by decide) (by decide)).symm
  have hb3 : a3 = u 22 0 := ha3.trans (hak 22 0 (by decide) (by decide) (by decide)).symm
  have hfs := fs_fiscal hR (xs (x0 + 1).toNatClampNeg)
  generalize hZ1 : (zV ((m_X7_fiscal z (xs (x0 + 1).toNatClampNeg)).1) ((m_X7_fiscal z (xs (x0 + 1).toNatClampNeg)).2) z) = Z1 at hW hfs ⊢
  generalize hK1 : (wkF (m_X7_fiscal z (xs (x0 + 1).toNatClampNeg)).1) = K1 at hfs ⊢
  refine lv_istore (lv' := [(5, .int K1), (4, .int x0), (0, .ref b), (1, .ref a1), (2, .ref a2), (3, .ref a3)]) hx hb dL_law_348 hl (by decide) rfl (fun ls hl => ?_)
  refine lv_aload_n hx hb dL_law_350 rfl (lv_at hl 4 rfl) ?_
  refine sc_ldi (k := 1) (i0 := 2) (i4 := 1) hx hb hX hbl hS hl rfl rfl (hin 1 (by decide) (by decide)) (by decide) dL_law_351 dL_law_352 dL_law_354 dL_law_355 dL_law_356 ?_
  subst hb2
  refine mm_callVv (n := 1) (As := [.int (xs (x0 + 1).toNatClampNeg)]) (rest := []) ⟨hx, hb, hml, hown, hts⟩ (c_X8_fiscal l D s.heap.size (PC cA u Z1) cA u q (xs (x0 + 1).toNatClampNeg)) gL_law_X8_fiscal rfl (by decide +kernel) rfl ⟨Nat.le_of_ble_eq_true rfl, Nat.le_of_ble_eq_true rfl⟩ ⟨hcs.1, hcs.2⟩ hK hW hS hl.1 rfl (Nat.le_of_ble_eq_true rfl) dL_law_357 (fun H locs hW hS => ?_)
  refine lv_aload_n hx hb dL_law_360 rfl (lv_at hl 4 rfl) ?_
  refine mm_callVi (n := 0) (As := []) (rest := []) ⟨hx, hb, hml, hown, hts⟩ (c_X8_thrown l D s.heap.size (PC cA u Z1) cA u (m_X8_fiscal q (xs (x0 + 1).toNatClampNeg))) gL_law_X8_thrown rfl (by decide +kernel) rfl ⟨Nat.le_of_ble_eq_true rfl, Nat.le_of_ble_eq_true rfl⟩ ⟨hcs.1, hcs.2⟩ hK hW hS hl.1 rfl (Nat.le_of_ble_eq_true rfl) dL_law_361 (fun H locs hW hS => ?_)
  refine lv_iload hx hb dL_law_364 (lv_at hl 0 rfl) ?_
  refine lv_icmp_eq (tgt := 371) hx hb dL_law_366 (by decide) (fun _ => ?_) (fun h => absurd (hfs.1) h)
  refine lv_goto (tgt := 1829) hx hb dL_law_371 (by decide) ?_
  exact next u Z1 (m_X8_fiscal q (xs (x0 + 1).toNatClampNeg)) H locs ls hb1 rfl hb3 hW hS hfs.2 (lv_sub hl [1, 2, 3, 4, 5] rfl)
set_option maxHeartbeats 4000000 in
set_option maxRecDepth 100000 in
theorem ca_open {p : Program} {l : Launch} {e : Env} {s : State} {m : MethodId} {below : List Frame} {meth : Method} {c : Code} {Q : State → Prop} {b L : Nat} {xs : Nat → Int32} {D : va_G} {cA : Nat → ClassId} (hC : LX p l s m c b L xs D cA) {H : Heap} {cells slots : Nat} {ls : Array Slot} {ad : Nat → Nat → Nat} {z : qC} {q : qM} {a1 a2 a3 : Nat} {x0 : Int32} (hin : ∀ k : Int32, 0 ≤ k.toInt → k.toInt ≤ 8 → vp_in (x0 + k) L) (ha1 : a1 = ad 0 0) (ha2 : a2 = ad 20 0) (ha3 : a3 = ad 22 0) (hW : wd D (wA s.heap.size) (PO cA ad z q) ad H) (hS : va_S (wA s.heap.size) s.heap H []) (hR : RI z q) (hl : lv_has ls 8 [(4, .int x0), (0, .ref b), (1, .ref a1), (2, .ref a2), (3, .ref a3)]) (hcs : cells + 8 ≤ room_1.cells ∧ slots + 50 ≤ room_1.slots)
    (next : ∀ (u : Nat → Nat → Nat) (z' : qC) (q' : qM) (H' : Heap) (locs' : List Loc) (ls' : Array Slot), a1 = u 0 0 → a2 = u 20 0 → a3 = u 22 0 → wd D (wA s.heap.size) (PO cA u z' q') u H' → va_S (wA s.heap.size) s.heap H' locs' → RI z' q' → lv_has ls' 8 [(4, .int x0), (0, .ref b), (1, .ref a1), (2, .ref a2), (3, .ref a3)] → W p l e room_1 s m #[Value.ref b] below meth c H' locs' (cells + 8) (slots + 50) Q (F0 m 1829 ls' [])) :
    W p l e room_1 s m #[Value.ref b] below meth c H [] cells slots Q (F0 m 374 ls []) := by
  obtain ⟨hx, hb, hml, hown, hts, hK, hKD, hKX, hKN, hlt, hX, hbl⟩ := hC
  refine lv_aload_n hx hb dL_law_374 rfl (lv_at hl 2 rfl) ?_
  refine sc_ldi (k := 1) (i0 := 1) (i4 := 0) hx hb hX hbl hS hl rfl rfl (hin 1 (by decide) (by decide)) (by decide) dL_law_375 dL_law_376 dL_law_378 dL_law_379 dL_law_380 ?_
  refine sc_ldi (k := 2) (i0 := 1) (i4 := 0) hx hb hX hbl hS hl rfl rfl (hin 2 (by decide) (by decide)) (by decide) dL_law_381 dL_law_382 dL_law_384 dL_law_385 dL_law_386 ?_
  refine lw_callW (n := 3) (As := [.ref a1, .int (xs (x0 + 1).toNatClampNeg), .int (xs (x0 + 2).toNatClampNeg)]) (rest := []) ⟨hx, hb, hml, hown, hts⟩ (c_L_open l hlt D s.heap.size cA ad q z (xs (x0 + 1).toNatClampNeg) (xs (x0 + 2).toNatClampNeg) hR.2.2.2) (by rw [ha1]) gL_law_L_open rfl (by decide +kernel) rfl ⟨Nat.le_of_ble_eq_true rfl, Nat.le_of_ble_eq_true rfl⟩ hcs hK hW hS hKD hKX hKN (Nat.le_refl _) hl.1 rfl (Nat.le_of_ble_eq_true rfl) dL_law_387 (fun u H locs hak hW hS => ?_)
  have hb1 : a1 = u 0 0 := ha1.trans (hak 0 0 (by decide) (by decide) (by decide)).symm
  have hb2 : a2 = u 20 0 := ha2.trans (hak 20 0 (by decide) (by decide) (by decide)).symm
  have hb3 : a3 = u 22 0 := ha3.trans (hak 22 0 (by decide) (by decide) (by decide)).symm
  have hfs := fs_open hR (xs (x0 + 1).toNatClampNeg) (xs (x0 + 2).toNatClampNeg)
  generalize hZ1 : (zV ((m_X7_open z (xs (x0 + 1).toNatClampNeg) (xs (x0 + 2).toNatClampNeg)).1) ((m_X7_open z (xs (x0 + 1).toNatClampNeg) (xs (x0 + 2).toNatClampNeg)).2) z) = Z1 at hW hfs ⊢
  generalize hK1 : (wkO (m_X7_open z (xs (x0 + 1).toNatClampNeg) (xs (x0 + 2).toNatClampNeg)).1) = K1 at hfs ⊢
  refine lv_istore (lv' := [(5, .int K1), (4, .int x0), (0, .ref b), (1, .ref a1), (2, .ref a2), (3, .ref a3)]) hx hb dL_law_390 hl (by decide) rfl (fun ls hl => ?_)
  refine lv_aload_n hx hb dL_law_392 rfl (lv_at hl 4 rfl) ?_
  refine sc_ldi (k := 1) (i0 := 2) (i4 := 1) hx hb hX hbl hS hl rfl rfl (hin 1 (by decide) (by decide)) (by decide) dL_law_393 dL_law_394 dL_law_396 dL_law_397 dL_law_398 ?_
  refine sc_ldi (k := 2) (i0 := 2) (i4 := 1) hx hb hX hbl hS hl rfl rfl (hin 2 (by decide) (by decide)) (by decide) dL_law_399 dL_law_400 dL_law_402 dL_law_403 dL_law_404 ?_
  subst hb2
  refine mm_callVv (n := 2) (As := [.int (xs (x0 + 1).toNatClampNeg), .int (xs (x0 + 2).toNatClampNeg)]) (rest := []) ⟨hx, hb, hml, hown, hts⟩ (c_X8_open l D s.heap.size (PC cA u Z1) cA u q (xs (x0 + 1).toNatClampNeg) (xs (x0 + 2).toNatClampNeg) hR.2.1 hR.2.2.1) gL_law_X8_open rfl (by decide +kernel) rfl ⟨Nat.le_of_ble_eq_true rfl, Nat.le_of_ble_eq_true rfl⟩ ⟨hcs.1, hcs.2⟩ hK hW hS hl.1 rfl (Nat.le_of_ble_eq_true rfl) dL_law_405 (fun H locs hW hS => ?_)
  refine lv_aload_n hx hb dL_law_408 rfl (lv_at hl 4 rfl) ?_
  refine mm_callVi (n := 0) (As := []) (rest := []) ⟨hx, hb, hml, hown, hts⟩ (c_X8_thrown l D s.heap.size (PC cA u Z1) cA u (m_X8_open q (xs (x0 + 1).toNatClampNeg) (xs (x0 + 2).toNatClampNeg))) gL_law_X8_thrown rfl (by decide +kernel) rfl ⟨Nat.le_of_ble_eq_true rfl, Nat.le_of_ble_eq_true rfl⟩ ⟨hcs.1, hcs.2⟩ hK hW hS hl.1 rfl (Nat.le_of_ble_eq_true rfl) dL_law_409 (fun H locs hW hS => ?_)
  refine lv_iload hx hb dL_law_412 (lv_at hl 0 rfl) ?_
  refine lv_icmp_eq (tgt := 419) hx hb dL_law_414 (by decide) (fun _ => ?_) (fun h => absurd (hfs.1) h)
  refine lv_goto (tgt := 1829) hx hb dL_law_419 (by decide) ?_
  exact next u Z1 (m_X8_open q (xs (x0 + 1).toNatClampNeg) (xs (x0 + 2).toNatClampNeg)) H locs ls hb1 rfl hb3 hW hS hfs.2 (lv_sub hl [1, 2, 3, 4, 5] rfl)
set_option maxHeartbeats 4000000 in
set_option maxRecDepth 100000 in
theorem ca_close {p : Program} {l : Launch} {e : Env} {s : State} {m : MethodId} {below : List Frame} {meth : Method} {c : Code} {Q : State → Prop} {b L : Nat} {xs : Nat → Int32} {D : va_G} {cA : Nat → ClassId} (hC : LX p l s m c b L xs D cA) {H : Heap} {cells slots : Nat} {ls : Array Slot} {ad : Nat → Nat → Nat} {z : qC} {q : qM} {a1 a2 a3 : Nat} {x0 : Int32} (hin : ∀ k : Int32, 0 ≤ k.toInt → k.toInt ≤ 8 → vp_in (x0 + k) L) (ha1 : a1 = ad 0 0) (ha2 : a2 = ad 20 0) (ha3 : a3 = ad 22 0) (hW : wd D (wA s.heap.size) (PO cA ad z q) ad H) (hS : va_S (wA s.heap.size) s.heap H []) (hR : RI z q) (hl : lv_has ls 8 [(4, .int x0), (0, .ref b), (1, .ref a1), (2, .ref a2), (3, .ref a3)]) (hcs : cells + 8 ≤ room_1.cells ∧ slots + 50 ≤ room_1.slots)
    (next : ∀ (u : Nat → Nat → Nat) (z' : qC) (q' : qM) (H' : Heap) (locs' : List Loc) (ls' : Array Slot), a1 = u 0 0 → a2 = u 20 0 → a3 = u 22 0 → wd D (wA s.heap.size) (PO cA u z' q') u H' → va_S (wA s.heap.size) s.heap H' locs' → RI z' q' → lv_has ls' 8 [(4, .int x0), (0, .ref b), (1, .ref a1), (2, .ref a2), (3, .ref a3)] → W p l e room_1 s m #[Value.ref b] below meth c H' locs' (cells + 8) (slots + 50) Q (F0 m 1829 ls' [])) :
    W p l e room_1 s m #[Value.ref b] below meth c H [] cells slots Q (F0 m 422 ls []) := by
  obtain ⟨hx, hb, hml, hown, hts, hK, hKD, hKX, hKN, hlt, hX, hbl⟩ := hC
  refine lv_aload_n hx hb dL_law_422 rfl (lv_at hl 2 rfl) ?_
  refine sc_ldi (k := 1) (i0 := 1) (i4 := 0) hx hb hX hbl hS hl rfl rfl (hin 1 (by decide) (by decide)) (by decide) dL_law_423 dL_law_424 dL_law_426 dL_law_427 dL_law_428 ?_
  refine sc_ldi (k := 2) (i0 := 1) (i4 := 0) hx hb hX hbl hS hl rfl rfl (hin 2 (by decide) (by decide)) (by decide) dL_law_429 dL_law_430 dL_law_432 dL_law_433 dL_law_434 ?_
  refine lw_callW (n := 3) (As := [.ref a1, .int (xs (x0 + 1).toNatClampNeg), .int (xs (x0 + 2).toNatClampNeg)]) (rest := []) ⟨hx, hb, hml, hown, hts⟩ (c_L_close l hlt D s.heap.size cA ad q z (xs (x0 + 1).toNatClampNeg) (xs (x0 + 2).toNatClampNeg) hR.2.2.2) (by rw [ha1]) gL_law_L_close rfl (by decide +kernel) rfl ⟨Nat.le_of_ble_eq_true rfl, Nat.le_of_ble_eq_true rfl⟩ hcs hK hW hS hKD hKX hKN (Nat.le_refl _) hl.1 rfl (Nat.le_of_ble_eq_true rfl) dL_law_435 (fun u H locs hak hW hS => ?_)
  have hb1 : a1 = u 0 0 := ha1.trans (hak 0 0 (by decide) (by decide) (by decide)).symm
  have hb2 : a2 = u 20 0 := ha2.trans (hak 20 0 (by decide) (by decide) (by decide)).symm
  have hb3 : a3 = u 22 0 := ha3.trans (hak 22 0 (by decide) (by decide) (by decide)).symm
  have hfs := fs_close hR (xs (x0 + 1).toNatClampNeg) (xs (x0 + 2).toNatClampNeg)
  generalize hZ1 : (zV ((m_X7_close z (xs (x0 + 1).toNatClampNeg) (xs (x0 + 2).toNatClampNeg)).1) ((m_X7_close z (xs (x0 + 1).toNatClampNeg) (xs (x0 + 2).toNatClampNeg)).2) z) = Z1 at hW hfs ⊢
  generalize hK1 : ((m_X7_close z (xs (x0 + 1).toNatClampNeg) (xs (x0 + 2).toNatClampNeg)).1) = K1 at hfs ⊢
  refine lv_istore (lv' := [(5, .int K1), (4, .int x0), (0, .ref b), (1, .ref a1), (2, .ref a2), (3, .ref a3)]) hx hb dL_law_438 hl (by decide) rfl (fun ls hl => ?_)
  refine lv_aload_n hx hb dL_law_440 rfl (lv_at hl 4 rfl) ?_
  refine sc_ldi (k := 1) (i0 := 2) (i4 := 1) hx hb hX hbl hS hl rfl rfl (hin 1 (by decide) (by decide)) (by decide) dL_law_441 dL_law_442 dL_law_444 dL_law_445 dL_law_446 ?_
  refine sc_ldi (k := 2) (i0 := 2) (i4 := 1) hx hb hX hbl hS hl rfl rfl (hin 2 (by decide) (by decide)) (by decide) dL_law_447 dL_law_448 dL_law_450 dL_law_451 dL_law_452 ?_
  subst hb2
  refine mm_callVv (n := 2) (As := [.int (xs (x0 + 1).toNatClampNeg), .int (xs (x0 + 2).toNatClampNeg)]) (rest := []) ⟨hx, hb, hml, hown, hts⟩ (c_X8_close l D s.heap.size (PC cA u Z1) cA u q (xs (x0 + 1).toNatClampNeg) (xs (x0 + 2).toNatClampNeg) hR.2.1 hR.2.2.1) gL_law_X8_close rfl (by decide +kernel) rfl ⟨Nat.le_of_ble_eq_true rfl, Nat.le_of_ble_eq_true rfl⟩ ⟨hcs.1, hcs.2⟩ hK hW hS hl.1 rfl (Nat.le_of_ble_eq_true rfl) dL_law_453 (fun H locs hW hS => ?_)
  refine lv_aload_n hx hb dL_law_456 rfl (lv_at hl 4 rfl) ?_
  refine mm_callVi (n := 0) (As := []) (rest := []) ⟨hx, hb, hml, hown, hts⟩ (c_X8_thrown l D s.heap.size (PC cA u Z1) cA u (m_X8_close q (xs (x0 + 1).toNatClampNeg) (xs (x0 + 2).toNatClampNeg))) gL_law_X8_thrown rfl (by decide +kernel) rfl ⟨Nat.le_of_ble_eq_true rfl, Nat.le_of_ble_eq_true rfl⟩ ⟨hcs.1, hcs.2⟩ hK hW hS hl.1 rfl (Nat.le_of_ble_eq_true rfl) dL_law_457 (fun H locs hW hS => ?_)
  refine lv_iload hx hb dL_law_460 (lv_at hl 0 rfl) ?_
  refine lv_icmp_eq (tgt := 467) hx hb dL_law_462 (by decide) (fun _ => ?_) (fun h => absurd (hfs.1) h)
  refine lv_goto (tgt := 1829) hx hb dL_law_467 (by decide) ?_
  exact next u Z1 (m_X8_close q (xs (x0 + 1).toNatClampNeg) (xs (x0 + 2).toNatClampNeg)) H locs ls hb1 rfl hb3 hW hS hfs.2 (lv_sub hl [1, 2, 3, 4, 5] rfl)
set_option maxHeartbeats 4000000 in
set_option maxRecDepth 100000 in
theorem ca_left {p : Program} {l : Launch} {e : Env} {s : State} {m : MethodId} {below : List Frame} {meth : Method} {c : Code} {Q : State → Prop} {b L : Nat} {xs : Nat → Int32} {D : va_G} {cA : Nat → ClassId} (hC : LX p l s m c b L xs D cA) {H : Heap} {cells slots : Nat} {ls : Array Slot} {ad : Nat → Nat → Nat} {z : qC} {q : qM} {a1 a2 a3 : Nat} {x0 : Int32} (hin : ∀ k : Int32, 0 ≤ k.toInt → k.toInt ≤ 8 → vp_in (x0 + k) L) (ha1 : a1 = ad 0 0) (ha2 : a2 = ad 20 0) (ha3 : a3 = ad 22 0) (hW : wd D (wA s.heap.size) (PO cA ad z q) ad H) (hS : va_S (wA s.heap.size) s.heap H []) (hR : RI z q) (hl : lv_has ls 8 [(4, .int x0), (0, .ref b), (1, .ref a1), (2, .ref a2), (3, .ref a3)]) (hcs : cells + 8 ≤ room_1.cells ∧ slots + 50 ≤ room_1.slots)
    (next : ∀ (u : Nat → Nat → Nat) (z' : qC) (q' : qM) (H' : Heap) (locs' : List Loc) (ls' : Array Slot), a1 = u 0 0 → a2 = u 20 0 → a3 = u 22 0 → wd D (wA s.heap.size) (PO cA u z' q') u H' → va_S (wA s.heap.size) s.heap H' locs' → RI z' q' → lv_has ls' 8 [(4, .int x0), (0, .ref b), (1, .ref a1), (2, .ref a2), (3, .ref a3)] → W p l e room_1 s m #[Value.ref b] below meth c H' locs' (cells + 8) (slots + 50) Q (F0 m 1829 ls' [])) :
    W p l e room_1 s m #[Value.ref b] below meth c H [] cells slots Q (F0 m 470 ls []) := by
  obtain ⟨hx, hb, hml, hown, hts, hK, hKD, hKX, hKN, hlt, hX, hbl⟩ := hC
  refine lv_aload_n hx hb dL_law_470 rfl (lv_at hl 2 rfl) ?_
  refine sc_ldi (k := 1) (i0 := 1) (i4 := 0) hx hb hX hbl hS hl rfl rfl (hin 1 (by decide) (by decide)) (by decide) dL_law_471 dL_law_472 dL_law_474 dL_law_475 dL_law_476 ?_
  refine sc_ldi (k := 2) (i0 := 1) (i4 := 0) hx hb hX hbl hS hl rfl rfl (hin 2 (by decide) (by decide)) (by decide) dL_law_477 dL_law_478 dL_law_480 dL_law_481 dL_law_482 ?_
  refine lw_callW (n := 3) (As := [.ref a1, .int (xs (x0 + 1).toNatClampNeg), .int (xs (x0 + 2).toNatClampNeg)]) (rest := []) ⟨hx, hb, hml, hown, hts⟩ (c_L_left l hlt D s.heap.size cA ad q z (xs (x0 + 1).toNatClampNeg) (xs (x0 + 2).toNatClampNeg) hR.2.2.2) (by rw [ha1]) gL_law_L_left rfl (by decide +kernel) rfl ⟨Nat.le_of_ble_eq_true rfl, Nat.le_of_ble_eq_true rfl⟩ hcs hK hW hS hKD hKX hKN (Nat.le_refl _) hl.1 rfl (Nat.le_of_ble_eq_true rfl) dL_law_483 (fun u H locs hak hW hS => ?_)
  have hb1 : a1 = u 0 0 := ha1.trans (hak 0 0 (by decide) (by decide) (by decide)).symm
  have hb2 : a2 = u 20 0 := ha2.trans (hak 20 0 (by decide) (by decide) (by decide)).symm
  have hb3 : a3 = u 22 0 := ha3.trans (hak 22 0 (by decide) (by decide) (by decide)).symm
  have hfs := fs_left hR (xs (x0 + 1).toNatClampNeg) (xs (x0 + 2).toNatClampNeg)
  generalize hZ1 : (zV ((m_X7_left z (xs (x0 + 1).toNatClampNeg) (xs (x0 + 2).toNatClampNeg)).1) ((m_X7_left z (xs (x0 + 1).toNatClampNeg) (xs (x0 + 2).toNatClampNeg)).2) z) = Z1 at hW hfs ⊢
  generalize hK1 : ((m_X7_left z (xs (x0 + 1).toNatClampNeg) (xs (x0 + 2).toNatClampNeg)).1) = K1 at hfs ⊢
  refine lv_istore (lv' := [(5, .int K1), (4, .int x0), (0, .ref b), (1, .ref a1), (2, .ref a2), (3, .ref a3)]) hx hb dL_law_486 hl (by decide) rfl (fun ls hl => ?_)
  refine lv_aload_n hx hb dL_law_488 rfl (lv_at hl 4 rfl) ?_
  refine sc_ldi (k := 1) (i0 := 2) (i4 := 1) hx hb hX hbl hS hl rfl rfl (hin 1 (by decide) (by decide)) (by decide) dL_law_489 dL_law_490 dL_law_492 dL_law_493 dL_law_494 ?_
  refine sc_ldi (k := 2) (i0 := 2) (i4 := 1) hx hb hX hbl hS hl rfl rfl (hin 2 (by decide) (by decide)) (by decide) dL_law_495 dL_law_496 dL_law_498 dL_law_499 dL_law_500 ?_
  subst hb2
  refine mm_callVv (n := 2) (As := [.int (xs (x0 + 1).toNatClampNeg), .int (xs (x0 + 2).toNatClampNeg)]) (rest := []) ⟨hx, hb, hml, hown, hts⟩ (c_X8_left l D s.heap.size (PC cA u Z1) cA u q (xs (x0 + 1).toNatClampNeg) (xs (x0 + 2).toNatClampNeg) hR.2.1 hR.2.2.1) gL_law_X8_left rfl (by decide +kernel) rfl ⟨Nat.le_of_ble_eq_true rfl, Nat.le_of_ble_eq_true rfl⟩ ⟨hcs.1, hcs.2⟩ hK hW hS hl.1 rfl (Nat.le_of_ble_eq_true rfl) dL_law_501 (fun H locs hW hS => ?_)
  refine lv_aload_n hx hb dL_law_504 rfl (lv_at hl 4 rfl) ?_
  refine mm_callVi (n := 0) (As := []) (rest := []) ⟨hx, hb, hml, hown, hts⟩ (c_X8_thrown l D s.heap.size (PC cA u Z1) cA u (m_X8_left q (xs (x0 + 1).toNatClampNeg) (xs (x0 + 2).toNatClampNeg))) gL_law_X8_thrown rfl (by decide +kernel) rfl ⟨Nat.le_of_ble_eq_true rfl, Nat.le_of_ble_eq_true rfl⟩ ⟨hcs.1, hcs.2⟩ hK hW hS hl.1 rfl (Nat.le_of_ble_eq_true rfl) dL_law_505 (fun H locs hW hS => ?_)
  refine lv_iload hx hb dL_law_508 (lv_at hl 0 rfl) ?_
  refine lv_icmp_eq (tgt := 515) hx hb dL_law_510 (by decide) (fun _ => ?_) (fun h => absurd (hfs.1) h)
  refine lv_goto (tgt := 1829) hx hb dL_law_515 (by decide) ?_
  exact next u Z1 (m_X8_left q (xs (x0 + 1).toNatClampNeg) (xs (x0 + 2).toNatClampNeg)) H locs ls hb1 rfl hb3 hW hS hfs.2 (lv_sub hl [1, 2, 3, 4, 5] rfl)
set_option maxHeartbeats 4000000 in
set_option maxRecDepth 100000 in
theorem ca_file {p : Program} {l : Launch} {e : Env} {s : State} {m : MethodId} {below : List Frame} {meth : Method} {c : Code} {Q : State → Prop} {b L : Nat} {xs : Nat → Int32} {D : va_G} {cA : Nat → ClassId} (hC : LX p l s m c b L xs D cA) {H : Heap} {cells slots : Nat} {ls : Array Slot} {ad : Nat → Nat → Nat} {z : qC} {q : qM} {a1 a2 a3 : Nat} {x0 : Int32} (hin : ∀ k : Int32, 0 ≤ k.toInt → k.toInt ≤ 8 → vp_in (x0 + k) L) (ha1 : a1 = ad 0 0) (ha2 : a2 = ad 20 0) (ha3 : a3 = ad 22 0) (hW : wd D (wA s.heap.size) (PO cA ad z q) ad H) (hS : va_S (wA s.heap.size) s.heap H []) (hR : RI z q) (hl : lv_has ls 8 [(4, .int x0), (0, .ref b), (1, .ref a1), (2, .ref a2), (3, .ref a3)]) (hcs : cells + 8 ≤ room_1.cells ∧ slots + 50 ≤ room_1.slots)
    (next : ∀ (u : Nat → Nat → Nat) (z' : qC) (q' : qM) (H' : Heap) (locs' : List Loc) (ls' : Array Slot), a1 = u 0 0 → a2 = u 20 0 → a3 = u 22 0 → wd D (wA s.heap.size) (PO cA u z' q') u H' → va_S (wA s.heap.size) s.heap H' locs' → RI z' q' → lv_has ls' 8 [(4, .int x0), (0, .ref b), (1, .ref a1), (2, .ref a2), (3, .ref a3)] → W p l e room_1 s m #[Value.ref b] below meth c H' locs' (cells + 8) (slots + 50) Q (F0 m 1829 ls' [])) :
    W p l e room_1 s m #[Value.ref b] below meth c H [] cells slots Q (F0 m 518 ls []) := by
  obtain ⟨hx, hb, hml, hown, hts, hK, hKD, hKX, hKN, hlt, hX, hbl⟩ := hC
  refine lv_aload_n hx hb dL_law_518 rfl (lv_at hl 2 rfl) ?_
  refine sc_ldi (k := 1) (i0 := 1) (i4 := 0) hx hb hX hbl hS hl rfl rfl (hin 1 (by decide) (by decide)) (by decide) dL_law_519 dL_law_520 dL_law_522 dL_law_523 dL_law_524 ?_
  refine sc_ldi (k := 2) (i0 := 1) (i4 := 0) hx hb hX hbl hS hl rfl rfl (hin 2 (by decide) (by decide)) (by decide) dL_law_525 dL_law_526 dL_law_528 dL_law_529 dL_law_530 ?_
  refine sc_ldi (k := 3) (i0 := 1) (i4 := 0) hx hb hX hbl hS hl rfl rfl (hin 3 (by decide) (by decide)) (by decide) dL_law_531 dL_law_532 dL_law_534 dL_law_535 dL_law_536 ?_
  refine lv_i2l hx hb dL_law_537 rfl ?_
  refine lv_bipush (v := 32) hx hb dL_law_538 (by decide) ?_
  refine lv_lshl (v := ((Int32.toInt64 (xs (x0 + 3).toNatClampNeg)) <<< (Int32.toInt64 32 &&& 63))) hx hb dL_law_540 rfl ?_
  refine sc_ldi (k := 4) (i0 := 1) (i4 := 0) hx hb hX hbl hS hl rfl rfl (hin 4 (by decide) (by decide)) (by decide) dL_law_541 dL_law_542 dL_law_544 dL_law_545 dL_law_546 ?_
  refine lv_i2l hx hb dL_law_547 rfl ?_
  refine lv_ldc2 (v := 4294967295) hx hb hown (hts _ hc129) dL_law_548 ?_
  refine lv_land hx hb dL_law_551 ?_
  refine lv_lor hx hb dL_law_552 ?_
  refine sc_ldi (k := 5) (i0 := 1) (i4 := 0) hx hb hX hbl hS hl rfl rfl (hin 5 (by decide) (by decide)) (by decide) dL_law_553 dL_law_554 dL_law_556 dL_law_557 dL_law_558 ?_
  refine sc_ldb (k := 6) (i0 := 1) (i4 := 0) hx hb hX hbl hS hl rfl rfl (hin 6 (by decide) (by decide)) (by decide) dL_law_559 dL_law_560 dL_law_562 dL_law_564 dL_law_565 ?_
  refine sc_ldb (k := 7) (i0 := 1) (i4 := 0) hx hb hX hbl hS hl rfl rfl (hin 7 (by decide) (by decide)) (by decide) dL_law_566 dL_law_567 dL_law_569 dL_law_571 dL_law_572 ?_
  refine sc_ldb (k := 8) (i0 := 1) (i4 := 0) hx hb hX hbl hS hl rfl rfl (hin 8 (by decide) (by decide)) (by decide) dL_law_573 dL_law_574 dL_law_576 dL_law_578 dL_law_579 ?_
  refine lv_aload_n hx hb dL_law_580 rfl (lv_at hl 4 rfl) ?_
  refine lw_callW (n := 9) (As := [.ref a1, .int (xs (x0 + 1).toNatClampNeg), .int (xs (x0 + 2).toNatClampNeg), .long (((Int32.toInt64 (xs (x0 + 3).toNatClampNeg)) <<< (Int32.toInt64 32 &&& 63)) ||| ((Int32.toInt64 (xs (x0 + 4).toNatClampNeg)) &&& 4294967295)), .int (xs (x0 + 5).toNatClampNeg), .int (xs (x0 + 6).toNatClampNeg), .int (xs (x0 + 7).toNatClampNeg), .int (xs (x0 + 8).toNatClampNeg), .ref a3]) (rest := []) ⟨hx, hb, hml, hown, hts⟩ (c_L_file l hlt D s.heap.size cA ad q z (xs (x0 + 1).toNatClampNeg) (xs (x0 + 2).toNatClampNeg) (((Int32.toInt64 (xs (x0 + 3).toNatClampNeg)) <<< (Int32.toInt64 32 &&& 63)) ||| ((Int32.toInt64 (xs (x0 + 4).toNatClampNeg)) &&& 4294967295)) (xs (x0 + 5).toNatClampNeg) (xs (x0 + 6).toNatClampNeg) (xs (x0 + 7).toNatClampNeg) (xs (x0 + 8).toNatClampNeg) hR.2.2.2) (by rw [ha1, ha3]) gL_law_L_file rfl (by decide +kernel) rfl ⟨Nat.le_of_ble_eq_true rfl, Nat.le_of_ble_eq_true rfl⟩ hcs hK hW hS hKD hKX hKN (Nat.le_refl _) hl.1 rfl (Nat.le_of_ble_eq_true rfl) dL_law_581 (fun u H locs hak hW hS => ?_)
  have hb1 : a1 = u 0 0 := ha1.trans (hak 0 0 (by decide) (by decide) (by decide)).symm
  have hb2 : a2 = u 20 0 := ha2.trans (hak 20 0 (by decide) (by decide) (by decide)).symm
  have hb3 : a3 = u 22 0 := ha3.trans (hak 22 0 (by decide) (by decide) (by decide)).symm
  have hfs := fs_file hR (xs (x0 + 1).toNatClampNeg) (xs (x0 + 2).toNatClampNeg) (((Int32.toInt64 (xs (x0 + 3).toNatClampNeg)) <<< (Int32.toInt64 32 &&& 63)) ||| ((Int32.toInt64 (xs (x0 + 4).toNatClampNeg)) &&& 4294967295)) (xs (x0 + 5).toNatClampNeg) (xs (x0 + 6).toNatClampNeg) (xs (x0 + 7).toNatClampNeg) (xs (x0 + 8).toNatClampNeg)
  generalize hZ1 : (zL ((m_X7_file z (xs (x0 + 1).toNatClampNeg) (xs (x0 + 2).toNatClampNeg) (((Int32.toInt64 (xs (x0 + 3).toNatClampNeg)) <<< (Int32.toInt64 32 &&& 63)) ||| ((Int32.toInt64 (xs (x0 + 4).toNatClampNeg)) &&& 4294967295)) (xs (x0 + 5).toNatClampNeg) (xs (x0 + 6).toNatClampNeg) (xs (x0 + 7).toNatClampNeg) (xs (x0 + 8).toNatClampNeg)).1) (Int32.toInt64 ((m_X7_file z (xs (x0 + 1).toNatClampNeg) (xs (x0 + 2).toNatClampNeg) (((Int32.toInt64 (xs (x0 + 3).toNatClampNeg)) <<< (Int32.toInt64 32 &&& 63)) ||| ((Int32.toInt64 (xs (x0 + 4).toNatClampNeg)) &&& 4294967295)) (xs (x0 + 5).toNatClampNeg) (xs (x0 + 6).toNatClampNeg) (xs (x0 + 7).toNatClampNeg) (xs (x0 + 8).toNatClampNeg)).2.1)) ((m_X7_file z (xs (x0 + 1).toNatClampNeg) (xs (x0 + 2).toNatClampNeg) (((Int32.toInt64 (xs (x0 + 3).toNatClampNeg)) <<< (Int32.toInt64 32 &&& 63)) ||| ((Int32.toInt64 (xs (x0 + 4).toNatClampNeg)) &&& 4294967295)) (xs (x0 + 5).toNatClampNeg) (xs (x0 + 6).toNatClampNeg) (xs (x0 + 7).toNatClampNeg) (xs (x0 + 8).toNatClampNeg)).2.2) z) = Z1 at hW hfs ⊢
  generalize hK1 : ((m_X7_file z (xs (x0 + 1).toNatClampNeg) (xs (x0 + 2).toNatClampNeg) (((Int32.toInt64 (xs (x0 + 3).toNatClampNeg)) <<< (Int32.toInt64 32 &&& 63)) ||| ((Int32.toInt64 (xs (x0 + 4).toNatClampNeg)) &&& 4294967295)) (xs (x0 + 5).toNatClampNeg) (xs (x0 + 6).toNatClampNeg) (xs (x0 + 7).toNatClampNeg) (xs (x0 + 8).toNatClampNeg)).1) = K1 at hfs ⊢
  refine lv_istore (lv' := [(5, .int K1), (4, .int x0), (0, .ref b), (1, .ref a1), (2, .ref a2), (3, .ref a3)]) hx hb dL_law_584 hl (by decide) rfl (fun ls hl => ?_)
  refine lv_aload_n hx hb dL_law_586 rfl (lv_at hl 4 rfl) ?_
  refine sc_ldi (k := 1) (i0 := 2) (i4 := 1) hx hb hX hbl hS hl rfl rfl (hin 1 (by decide) (by decide)) (by decide) dL_law_587 dL_law_588 dL_law_590 dL_law_591 dL_law_592 ?_
  refine sc_ldi (k := 2) (i0 := 2) (i4 := 1) hx hb hX hbl hS hl rfl rfl (hin 2 (by decide) (by decide)) (by decide) dL_law_593 dL_law_594 dL_law_596 dL_law_597 dL_law_598 ?_
  refine sc_ldi (k := 3) (i0 := 2) (i4 := 1) hx hb hX hbl hS hl rfl rfl (hin 3 (by decide) (by decide)) (by decide) dL_law_599 dL_law_600 dL_law_602 dL_law_603 dL_law_604 ?_
  refine lv_i2l hx hb dL_law_605 rfl ?_
  refine lv_bipush (v := 32) hx hb dL_law_606 (by decide) ?_
  refine lv_lshl (v := ((Int32.toInt64 (xs (x0 + 3).toNatClampNeg)) <<< (Int32.toInt64 32 &&& 63))) hx hb dL_law_608 rfl ?_
  refine sc_ldi (k := 4) (i0 := 2) (i4 := 1) hx hb hX hbl hS hl rfl rfl (hin 4 (by decide) (by decide)) (by decide) dL_law_609 dL_law_610 dL_law_612 dL_law_613 dL_law_614 ?_
  refine lv_i2l hx hb dL_law_615 rfl ?_
  refine lv_ldc2 (v := 4294967295) hx hb hown (hts _ hc129) dL_law_616 ?_
  refine lv_land hx hb dL_law_619 ?_
  refine lv_lor hx hb dL_law_620 ?_
  refine sc_ldi (k := 5) (i0 := 2) (i4 := 1) hx hb hX hbl hS hl rfl rfl (hin 5 (by decide) (by decide)) (by decide) dL_law_621 dL_law_622 dL_law_624 dL_law_625 dL_law_626 ?_
  refine sc_ldb (k := 6) (i0 := 2) (i4 := 1) hx hb hX hbl hS hl rfl rfl (hin 6 (by decide) (by decide)) (by decide) dL_law_627 dL_law_628 dL_law_630 dL_law_632 dL_law_633 ?_
  refine sc_ldb (k := 7) (i0 := 2) (i4 := 1) hx hb hX hbl hS hl rfl rfl (hin 7 (by decide) (by decide)) (by decide) dL_law_634 dL_law_635 dL_law_637 dL_law_639 dL_law_640 ?_
  refine sc_ldb (k := 8) (i0 := 2) (i4 := 1) hx hb hX hbl hS hl rfl rfl (hin 8 (by decide) (by decide)) (by decide) dL_law_641 dL_law_642 dL_law_644 dL_law_646 dL_law_647 ?_
  subst hb2
  refine mm_callVi (n := 7) (As := [.int (xs (x0 + 1).toNatClampNeg), .int (xs (x0 + 2).toNatClampNeg), .long (((Int32.toInt64 (xs (x0 + 3).toNatClampNeg)) <<< (Int32.toInt64 32 &&& 63)) ||| ((Int32.toInt64 (xs (x0 + 4).toNatClampNeg)) &&& 4294967295)), .int (xs (x0 + 5).toNatClampNeg), .int (xs (x0 + 6).toNatClampNeg), .int (xs (x0 + 7).toNatClampNeg), .int (xs (x0 + 8).toNatClampNeg)]) (rest := []) ⟨hx, hb, hml, hown, hts⟩ (c_X8_file l D s.heap.size (PC cA u Z1) cA u q (xs (x0 + 1).toNatClampNeg) (xs (x0 + 2).toNatClampNeg) (((Int32.toInt64 (xs (x0 + 3).toNatClampNeg)) <<< (Int32.toInt64 32 &&& 63)) ||| ((Int32.toInt64 (xs (x0 + 4).toNatClampNeg)) &&& 4294967295)) (xs (x0 + 5).toNatClampNeg) (xs (x0 + 6).toNatClampNeg) (xs (x0 + 7).toNatClampNeg) (xs (x0 + 8).toNatClampNeg) hR.2.1 hR.2.2.1) gL_law_X8_file rfl (by decide +kernel) rfl ⟨Nat.le_of_ble_eq_true rfl, Nat.le_of_ble_eq_true rfl⟩ ⟨hcs.1, hcs.2⟩ hK hW hS hl.1 rfl (Nat.le_of_ble_eq_true rfl) dL_law_648 (fun H locs hW hS => ?_)
  refine lv_istore (lv' := [(6, .int (m_X8_file q (xs (x0 + 1).toNatClampNeg) (xs (x0 + 2).toNatClampNeg) (((Int32.toInt64 (xs (x0 + 3).toNatClampNeg)) <<< (Int32.toInt64 32 &&& 63)) ||| ((Int32.toInt64 (xs (x0 + 4).toNatClampNeg)) &&& 4294967295)) (xs (x0 + 5).toNatClampNeg) (xs (x0 + 6).toNatClampNeg) (xs (x0 + 7).toNatClampNeg) (xs (x0 + 8).toNatClampNeg)).1), (5, .int K1), (4, .int x0), (0, .ref b), (1, .ref a1), (2, .ref (u 20 0)), (3, .ref a3)]) hx hb dL_law_651 hl (by decide) rfl (fun ls hl => ?_)
  refine lv_aload_n hx hb dL_law_653 rfl (lv_at hl 5 rfl) ?_
  refine mm_callVi (n := 0) (As := []) (rest := []) ⟨hx, hb, hml, hown, hts⟩ (c_X8_thrown l D s.heap.size (PC cA u Z1) cA u (m_X8_file q (xs (x0 + 1).toNatClampNeg) (xs (x0 + 2).toNatClampNeg) (((Int32.toInt64 (xs (x0 + 3).toNatClampNeg)) <<< (Int32.toInt64 32 &&& 63)) ||| ((Int32.toInt64 (xs (x0 + 4).toNatClampNeg)) &&& 4294967295)) (xs (x0 + 5).toNatClampNeg) (xs (x0 + 6).toNatClampNeg) (xs (x0 + 7).toNatClampNeg) (xs (x0 + 8).toNatClampNeg)).2) gL_law_X8_thrown rfl (by decide +kernel) rfl ⟨Nat.le_of_ble_eq_true rfl, Nat.le_of_ble_eq_true rfl⟩ ⟨hcs.1, hcs.2⟩ hK hW hS hl.1 rfl (Nat.le_of_ble_eq_true rfl) dL_law_654 (fun H locs hW hS => ?_)
  refine lv_iload hx hb dL_law_657 (lv_at hl 1 rfl) ?_
  refine lv_icmp_eq (tgt := 664) hx hb dL_law_659 (by decide) (fun _ => ?_) (fun h => absurd (hfs.1) h)
  refine lv_iload hx hb dL_law_664 (lv_at hl 1 rfl) ?_
  refine lv_if_ne (tgt := 681) hx hb dL_law_666 (by decide) (fun hk => ?_) (fun hk => ?_)
  · refine lv_goto (tgt := 1829) hx hb dL_law_681 (by decide) ?_
    exact next u Z1 (m_X8_file q (xs (x0 + 1).toNatClampNeg) (xs (x0 + 2).toNatClampNeg) (((Int32.toInt64 (xs (x0 + 3).toNatClampNeg)) <<< (Int32.toInt64 32 &&& 63)) ||| ((Int32.toInt64 (xs (x0 + 4).toNatClampNeg)) &&& 4294967295)) (xs (x0 + 5).toNatClampNeg) (xs (x0 + 6).toNatClampNeg) (xs (x0 + 7).toNatClampNeg) (xs (x0 + 8).toNatClampNeg)).2 H locs ls hb1 rfl hb3 hW hS hfs.2.1 (lv_sub hl [2, 3, 4, 5, 6] rfl)
  · have hk0 : K1 = 0 := hk
    refine lv_aload_n hx hb dL_law_669 rfl (lv_at hl 6 rfl) ?_
    refine lv_iconst (v := 0) hx hb dL_law_670 (by decide) ?_
    refine lw_lald hb3 hx hb hK hW (hfs.2.2 hk0) dL_law_671 ?_
    refine lv_iload hx hb dL_law_672 (lv_at hl 0 rfl) ?_
    refine lv_i2l hx hb dL_law_674 rfl ?_
    refine W.lcmp hx hb dL_law_675 ?_
    refine lv_if_eq (tgt := 681) hx hb dL_law_676 (by decide) (fun _ => ?_) (fun h => absurd (lg_self _) h)
    refine lv_goto (tgt := 1829) hx hb dL_law_681 (by decide) ?_
    exact next u Z1 (m_X8_file q (xs (x0 + 1).toNatClampNeg) (xs (x0 + 2).toNatClampNeg) (((Int32.toInt64 (xs (x0 + 3).toNatClampNeg)) <<< (Int32.toInt64 32 &&& 63)) ||| ((Int32.toInt64 (xs (x0 + 4).toNatClampNeg)) &&& 4294967295)) (xs (x0 + 5).toNatClampNeg) (xs (x0 + 6).toNatClampNeg) (xs (x0 + 7).toNatClampNeg) (xs (x0 + 8).toNatClampNeg)).2 H locs ls hb1 rfl hb3 hW hS hfs.2.1 (lv_sub hl [2, 3, 4, 5, 6] rfl)
set_option maxHeartbeats 4000000 in
set_option maxRecDepth 100000 in
theorem ca_hold {p : Program} {l : Launch} {e : Env} {s : State} {m : MethodId} {below : List Frame} {meth : Method} {c : Code} {Q : State → Prop} {b L : Nat} {xs : Nat → Int32} {D : va_G} {cA : Nat → ClassId} (hC : LX p l s m c b L xs D cA) {H : Heap} {cells slots : Nat} {ls : Array Slot} {ad : Nat → Nat → Nat} {z : qC} {q : qM} {a1 a2 a3 : Nat} {x0 : Int32} (hin : ∀ k : Int32, 0 ≤ k.toInt → k.toInt ≤ 8 → vp_in (x0 + k) L) (ha1 : a1 = ad 0 0) (ha2 : a2 = ad 20 0) (ha3 : a3 = ad 22 0) (hW : wd D (wA s.heap.size) (PO cA ad z q) ad H) (hS : va_S (wA s.heap.size) s.heap H []) (hR : RI z q) (hl : lv_has ls 8 [(4, .int x0), (0, .ref b), (1, .ref a1), (2, .ref a2), (3, .ref a3)]) (hcs : cells + 8 ≤ room_1.cells ∧ slots + 50 ≤ room_1.slots)
    (next : ∀ (u : Nat → Nat → Nat) (z' : qC) (q' : qM) (H' : Heap) (locs' : List Loc) (ls' : Array Slot), a1 = u 0 0 → a2 = u 20 0 → a3 = u 22 0 → wd D (wA s.heap.size) (PO cA u z' q') u H' → va_S (wA s.heap.size) s.heap H' locs' → RI z' q' → lv_has ls' 8 [(4, .int x0), (0, .ref b), (1, .ref a1), (2, .ref a2), (3, .ref a3)] → W p l e room_1 s m #[Value.ref b] below meth c H' locs' (cells + 8) (slots + 50) Q (F0 m 1829 ls' [])) :
    W p l e room_1 s m #[Value.ref b] below meth c H [] cells slots Q (F0 m 684 ls []) := by
  obtain ⟨hx, hb, hml, hown, hts, hK, hKD, hKX, hKN, hlt, hX, hbl⟩ := hC
  refine lv_aload_n hx hb dL_law_684 rfl (lv_at hl 2 rfl) ?_
  refine sc_ldi (k := 1) (i0 := 1) (i4 := 0) hx hb hX hbl hS hl rfl rfl (hin 1 (by decide) (by decide)) (by decide) dL_law_685 dL_law_686 dL_law_688 dL_law_689 dL_law_690 ?_
  refine sc_ldi (k := 2) (i0 := 1) (i4 := 0) hx hb hX hbl hS hl rfl rfl (hin 2 (by decide) (by decide)) (by decide) dL_law_691 dL_law_692 dL_law_694 dL_law_695 dL_law_696 ?_
  refine sc_ldi (k := 3) (i0 := 1) (i4 := 0) hx hb hX hbl hS hl rfl rfl (hin 3 (by decide) (by decide)) (by decide) dL_law_697 dL_law_698 dL_law_700 dL_law_701 dL_law_702 ?_
  refine sc_ldi (k := 4) (i0 := 1) (i4 := 0) hx hb hX hbl hS hl rfl rfl (hin 4 (by decide) (by decide)) (by decide) dL_law_703 dL_law_704 dL_law_706 dL_law_707 dL_law_708 ?_
  refine sc_ldi (k := 5) (i0 := 1) (i4 := 0) hx hb hX hbl hS hl rfl rfl (hin 5 (by decide) (by decide)) (by decide) dL_law_709 dL_law_710 dL_law_712 dL_law_713 dL_law_714 ?_
  refine sc_ldb (k := 6) (i0 := 1) (i4 := 0) hx hb hX hbl hS hl rfl rfl (hin 6 (by decide) (by decide)) (by decide) dL_law_715 dL_law_716 dL_law_718 dL_law_720 dL_law_721 ?_
  refine lw_callW (n := 7) (As := [.ref a1, .int (xs (x0 + 1).toNatClampNeg), .int (xs (x0 + 2).toNatClampNeg), .int (xs (x0 + 3).toNatClampNeg), .int (xs (x0 + 4).toNatClampNeg), .int (xs (x0 + 5).toNatClampNeg), .int (xs (x0 + 6).toNatClampNeg)]) (rest := []) ⟨hx, hb, hml, hown, hts⟩ (c_L_hold l hlt D s.heap.size cA ad q z (xs (x0 + 1).toNatClampNeg) (xs (x0 + 2).toNatClampNeg) (xs (x0 + 3).toNatClampNeg) (xs (x0 + 4).toNatClampNeg) (xs (x0 + 5).toNatClampNeg) (xs (x0 + 6).toNatClampNeg) hR.2.2.2) (by rw [ha1]) gL_law_L_hold rfl (by decide +kernel) rfl ⟨Nat.le_of_ble_eq_true rfl, Nat.le_of_ble_eq_true rfl⟩ hcs hK hW hS hKD hKX hKN (Nat.le_refl _) hl.1 rfl (Nat.le_of_ble_eq_true rfl) dL_law_722 (fun u H locs hak hW hS => ?_)
  have hb1 : a1 = u 0 0 := ha1.trans (hak 0 0 (by decide) (by decide) (by decide)).symm
  have hb2 : a2 = u 20 0 := ha2.trans (hak 20 0 (by decide) (by decide) (by decide)).symm
  have hb3 : a3 = u 22 0 := ha3.trans (hak 22 0 (by decide) (by decide) (by decide)).symm
  have hfs := fs_hold hR (xs (x0 + 1).toNatClampNeg) (xs (x0 + 2).toNatClampNeg) (xs (x0 + 3).toNatClampNeg) (xs (x0 + 4).toNatClampNeg) (xs (x0 + 5).toNatClampNeg) (xs (x0 + 6).toNatClampNeg)
  generalize hZ1 : (zV ((m_X7_hold z (xs (x0 + 1).toNatClampNeg) (xs (x0 + 2).toNatClampNeg) (xs (x0 + 3).toNatClampNeg) (xs (x0 + 4).toNatClampNeg) (xs (x0 + 5).toNatClampNeg) (xs (x0 + 6).toNatClampNeg)).1) ((m_X7_hold z (xs (x0 + 1).toNatClampNeg) (xs (x0 + 2).toNatClampNeg) (xs (x0 + 3).toNatClampNeg) (xs (x0 + 4).toNatClampNeg) (xs (x0 + 5).toNatClampNeg) (xs (x0 + 6).toNatClampNeg)).2) z) = Z1 at hW hfs ⊢
  generalize hK1 : ((m_X7_hold z (xs (x0 + 1).toNatClampNeg) (xs (x0 + 2).toNatClampNeg) (xs (x0 + 3).toNatClampNeg) (xs (x0 + 4).toNatClampNeg) (xs (x0 + 5).toNatClampNeg) (xs (x0 + 6).toNatClampNeg)).1) = K1 at hfs ⊢
  refine lv_istore (lv' := [(5, .int K1), (4, .int x0), (0, .ref b), (1, .ref a1), (2, .ref a2), (3, .ref a3)]) hx hb dL_law_725 hl (by decide) rfl (fun ls hl => ?_)
  refine lv_aload_n hx hb dL_law_727 rfl (lv_at hl 4 rfl) ?_
  refine sc_ldi (k := 1) (i0 := 2) (i4 := 1) hx hb hX hbl hS hl rfl rfl (hin 1 (by decide) (by decide)) (by decide) dL_law_728 dL_law_729 dL_law_731 dL_law_732 dL_law_733 ?_
  refine sc_ldi (k := 2) (i0 := 2) (i4 := 1) hx hb hX hbl hS hl rfl rfl (hin 2 (by decide) (by decide)) (by decide) dL_law_734 dL_law_735 dL_law_737 dL_law_738 dL_law_739 ?_
  refine sc_ldi (k := 3) (i0 := 2) (i4 := 1) hx hb hX hbl hS hl rfl rfl (hin 3 (by decide) (by decide)) (by decide) dL_law_740 dL_law_741 dL_law_743 dL_law_744 dL_law_745 ?_
  refine sc_ldi (k := 4) (i0 := 2) (i4 := 1) hx hb hX hbl hS hl rfl rfl (hin 4 (by decide) (by decide)) (by decide) dL_law_746 dL_law_747 dL_law_749 dL_law_750 dL_law_751 ?_
  refine sc_ldi (k := 5) (i0 := 2) (i4 := 1) hx hb hX hbl hS hl rfl rfl (hin 5 (by decide) (by decide)) (by decide) dL_law_752 dL_law_753 dL_law_755 dL_law_756 dL_law_757 ?_
  refine sc_ldb (k := 6) (i0 := 2) (i4 := 1) hx hb hX hbl hS hl rfl rfl (hin 6 (by decide) (by decide)) (by decide) dL_law_758 dL_law_759 dL_law_761 dL_law_763 dL_law_764 ?_
  subst hb2
  refine mm_callVv (n := 6) (As := [.int (xs (x0 + 1).toNatClampNeg), .int (xs (x0 + 2).toNatClampNeg), .int (xs (x0 + 3).toNatClampNeg), .int (xs (x0 + 4).toNatClampNeg), .int (xs (x0 + 5).toNatClampNeg), .int (xs (x0 + 6).toNatClampNeg)]) (rest := []) ⟨hx, hb, hml, hown, hts⟩ (c_X8_hold l D s.heap.size (PC cA u Z1) cA u q (xs (x0 + 1).toNatClampNeg) (xs (x0 + 2).toNatClampNeg) (xs (x0 + 3).toNatClampNeg) (xs (x0 + 4).toNatClampNeg) (xs (x0 + 5).toNatClampNeg) (xs (x0 + 6).toNatClampNeg) hR.2.1 hR.2.2.1) gL_law_X8_hold rfl (by decide +kernel) rfl ⟨Nat.le_of_ble_eq_true rfl, Nat.le_of_ble_eq_true rfl⟩ ⟨hcs.1, hcs.2⟩ hK hW hS hl.1 rfl (Nat.le_of_ble_eq_true rfl) dL_law_765 (fun H locs hW hS => ?_)
  refine lv_aload_n hx hb dL_law_768 rfl (lv_at hl 4 rfl) ?_
  refine mm_callVi (n := 0) (As := []) (rest := []) ⟨hx, hb, hml, hown, hts⟩ (c_X8_thrown l D s.heap.size (PC cA u Z1) cA u (m_X8_hold q (xs (x0 + 1).toNatClampNeg) (xs (x0 + 2).toNatClampNeg) (xs (x0 + 3).toNatClampNeg) (xs (x0 + 4).toNatClampNeg) (xs (x0 + 5).toNatClampNeg) (xs (x0 + 6).toNatClampNeg))) gL_law_X8_thrown rfl (by decide +kernel) rfl ⟨Nat.le_of_ble_eq_true rfl, Nat.le_of_ble_eq_true rfl⟩ ⟨hcs.1, hcs.2⟩ hK hW hS hl.1 rfl (Nat.le_of_ble_eq_true rfl) dL_law_769 (fun H locs hW hS => ?_)
  refine lv_iload hx hb dL_law_772 (lv_at hl 0 rfl) ?_
  refine lv_icmp_eq (tgt := 779) hx hb dL_law_774 (by decide) (fun _ => ?_) (fun h => absurd (hfs.1) h)
  refine lv_goto (tgt := 1829) hx hb dL_law_779 (by decide) ?_
  exact next u Z1 (m_X8_hold q (xs (x0 + 1).toNatClampNeg) (xs (x0 + 2).toNatClampNeg) (xs (x0 + 3).toNatClampNeg) (xs (x0 + 4).toNatClampNeg) (xs (x0 + 5).toNatClampNeg) (xs (x0 + 6).toNatClampNeg)) H locs ls hb1 rfl hb3 hW hS hfs.2 (lv_sub hl [1, 2, 3, 4, 5] rfl)
set_option maxHeartbeats 4000000 in
set_option maxRecDepth 100000 in
theorem ca_lift {p : Program} {l : Launch} {e : Env} {s : State} {m : MethodId} {below : List Frame} {meth : Method} {c : Code} {Q : State → Prop} {b L : Nat} {xs : Nat → Int32} {D : va_G} {cA : Nat → ClassId} (hC : LX p l s m c b L xs D cA) {H : Heap} {cells slots : Nat} {ls : Array Slot} {ad : Nat → Nat → Nat} {z : qC} {q : qM} {a1 a2 a3 : Nat} {x0 : Int32} (hin : ∀ k : Int32, 0 ≤ k.toInt → k.toInt ≤ 8 → vp_in (x0 + k) L) (ha1 : a1 = ad 0 0) (ha2 : a2 = ad 20 0) (ha3 : a3 = ad 22 0) (hW : wd D (wA s.heap.size) (PO cA ad z q) ad H) (hS : va_S (wA s.heap.size) s.heap H []) (hR : RI z q) (hl : lv_has ls 8 [(4, .int x0), (0, .ref b), (1, .ref a1), (2, .ref a2), (3, .ref a3)]) (hcs : cells + 8 ≤ room_1.cells ∧ slots + 50 ≤ room_1.slots)
    (next : ∀ (u : Nat → Nat → Nat) (z' : qC) (q' : qM) (H' : Heap) (locs' : List Loc) (ls' : Array Slot), a1 = u 0 0 → a2 = u 20 0 → a3 = u 22 0 → wd D (wA s.heap.size) (PO cA u z' q') u H' → va_S (wA s.heap.size) s.heap H' locs' → RI z' q' → lv_has ls' 8 [(4, .int x0), (0, .ref b), (1, .ref a1), (2, .ref a2), (3, .ref a3)] → W p l e room_1 s m #[Value.ref b] below meth c H' locs' (cells + 8) (slots + 50) Q (F0 m 1829 ls' [])) :
    W p l e room_1 s m #[Value.ref b] below meth c H [] cells slots Q (F0 m 782 ls []) := by
  obtain ⟨hx, hb, hml, hown, hts, hK, hKD, hKX, hKN, hlt, hX, hbl⟩ := hC
  refine lv_aload_n hx hb dL_law_782 rfl (lv_at hl 2 rfl) ?_
  refine sc_ldi (k := 1) (i0 := 1) (i4 := 0) hx hb hX hbl hS hl rfl rfl (hin 1 (by decide) (by decide)) (by decide) dL_law_783 dL_law_784 dL_law_786 dL_law_787 dL_law_788 ?_
  refine lw_callW (n := 2) (As := [.ref a1, .int (xs (x0 + 1).toNatClampNeg)]) (rest := []) ⟨hx, hb, hml, hown, hts⟩ (c_L_lift l hlt D s.heap.size cA ad q z (xs (x0 + 1).toNatClampNeg) hR.2.2.2) (by rw [ha1]) gL_law_L_lift rfl (by decide +kernel) rfl ⟨Nat.le_of_ble_eq_true rfl, Nat.le_of_ble_eq_true rfl⟩ hcs hK hW hS hKD hKX hKN (Nat.le_refl _) hl.1 rfl (Nat.le_of_ble_eq_true rfl) dL_law_789 (fun u H locs hak hW hS => ?_)
  have hb1 : a1 = u 0 0 := ha1.trans (hak 0 0 (by decide) (by decide) (by decide)).symm
  have hb2 : a2 = u 20 0 := ha2.trans (hak 20 0 (by decide) (by decide) (by decide)).symm
  have hb3 : a3 = u 22 0 := ha3.trans (hak 22 0 (by decide) (by decide) (by decide)).symm
  have hfs := fs_lift hR (xs (x0 + 1).toNatClampNeg)
  generalize hZ1 : (zV ((m_X7_lift z (xs (x0 + 1).toNatClampNeg)).1) ((m_X7_lift z (xs (x0 + 1).toNatClampNeg)).2) z) = Z1 at hW hfs ⊢
  generalize hK1 : (wkO (m_X7_lift z (xs (x0 + 1).toNatClampNeg)).1) = K1 at hfs ⊢
  refine lv_istore (lv' := [(5, .int K1), (4, .int x0), (0, .ref b), (1, .ref a1), (2, .ref a2), (3, .ref a3)]) hx hb dL_law_792 hl (by decide) rfl (fun ls hl => ?_)
  refine lv_aload_n hx hb dL_law_794 rfl (lv_at hl 4 rfl) ?_
  refine sc_ldi (k := 1) (i0 := 2) (i4 := 1) hx hb hX hbl hS hl rfl rfl (hin 1 (by decide) (by decide)) (by decide) dL_law_795 dL_law_796 dL_law_798 dL_law_799 dL_law_800 ?_
  subst hb2
  refine mm_callVv (n := 1) (As := [.int (xs (x0 + 1).toNatClampNeg)]) (rest := []) ⟨hx, hb, hml, hown, hts⟩ (c_X8_lift l D s.heap.size (PC cA u Z1) cA u q (xs (x0 + 1).toNatClampNeg) hR.2.1 hR.2.2.1) gL_law_X8_lift rfl (by decide +kernel) rfl ⟨Nat.le_of_ble_eq_true rfl, Nat.le_of_ble_eq_true rfl⟩ ⟨hcs.1, hcs.2⟩ hK hW hS hl.1 rfl (Nat.le_of_ble_eq_true rfl) dL_law_801 (fun H locs hW hS => ?_)
  refine lv_aload_n hx hb dL_law_804 rfl (lv_at hl 4 rfl) ?_
  refine mm_callVi (n := 0) (As := []) (rest := []) ⟨hx, hb, hml, hown, hts⟩ (c_X8_thrown l D s.heap.size (PC cA u Z1) cA u (m_X8_lift q (xs (x0 + 1).toNatClampNeg))) gL_law_X8_thrown rfl (by decide +kernel) rfl ⟨Nat.le_of_ble_eq_true rfl, Nat.le_of_ble_eq_true rfl⟩ ⟨hcs.1, hcs.2⟩ hK hW hS hl.1 rfl (Nat.le_of_ble_eq_true rfl) dL_law_805 (fun H locs hW hS => ?_)
  refine lv_iload hx hb dL_law_808 (lv_at hl 0 rfl) ?_
  refine lv_icmp_eq (tgt := 815) hx hb dL_law_810 (by decide) (fun _ => ?_) (fun h => absurd (hfs.1) h)
  refine lv_goto (tgt := 1829) hx hb dL_law_815 (by decide) ?_
  exact next u Z1 (m_X8_lift q (xs (x0 + 1).toNatClampNeg)) H locs ls hb1 rfl hb3 hW hS hfs.2 (lv_sub hl [1, 2, 3, 4, 5] rfl)
set_option maxHeartbeats 4000000 in
set_option maxRecDepth 100000 in
theorem ca_covered {p : Program} {l : Launch} {e : Env} {s : State} {m : MethodId} {below : List Frame} {meth : Method} {c : Code} {Q : State → Prop} {b L : Nat} {xs : Nat → Int32} {D : va_G} {cA : Nat → ClassId} (hC : LX p l s m c b L xs D cA) {H : Heap} {cells slots : Nat} {ls : Array Slot} {ad : Nat → Nat → Nat} {z : qC} {q : qM} {a1 a2 a3 : Nat} {x0 : Int32} (hin : ∀ k : Int32, 0 ≤ k.toInt → k.toInt ≤ 8 → vp_in (x0 + k) L) (ha1 : a1 = ad 0 0) (ha2 : a2 = ad 20 0) (ha3 : a3 = ad 22 0) (hW : wd D (wA s.heap.size) (PO cA ad z q) ad H) (hS : va_S (wA s.heap.size) s.heap H []) (hR : RI z q) (hl : lv_has ls 8 [(4, .int x0), (0, .ref b), (1, .ref a1), (2, .ref a2), (3, .ref a3)]) (hcs : cells + 8 ≤ room_1.cells ∧ slots + 50 ≤ room_1.slots)
    (next : ∀ (u : Nat → Nat → Nat) (z' : qC) (q' : qM) (H' : Heap) (locs' : List Loc) (ls' : Array Slot), a1 = u 0 0 → a2 = u 20 0 → a3 = u 22 0 → wd D (wA s.heap.size) (PO cA u z' q') u H' → va_S (wA s.heap.size) s.heap H' locs' → RI z' q' → lv_has ls' 8 [(4, .int x0), (0, .ref b), (1, .ref a1), (2, .ref a2), (3, .ref a3)] → W p l e room_1 s m #[Value.ref b] below meth c H' locs' (cells + 8) (slots + 50) Q (F0 m 1829 ls' [])) :
    W p l e room_1 s m #[Value.ref b] below meth c H [] cells slots Q (F0 m 818 ls []) := by
  obtain ⟨hx, hb, hml, hown, hts, hK, hKD, hKX, hKN, hlt, hX, hbl⟩ := hC
  refine lv_aload_n hx hb dL_law_818 rfl (lv_at hl 2 rfl) ?_
  refine sc_ldi (k := 1) (i0 := 1) (i4 := 0) hx hb hX hbl hS hl rfl rfl (hin 1 (by decide) (by decide)) (by decide) dL_law_819 dL_law_820 dL_law_822 dL_law_823 dL_law_824 ?_
  refine lv_aload_n hx hb dL_law_825 rfl (lv_at hl 4 rfl) ?_
  refine lw_callW (n := 3) (As := [.ref a1, .int (xs (x0 + 1).toNatClampNeg), .ref a3]) (rest := []) ⟨hx, hb, hml, hown, hts⟩ (c_L_covered l hlt D s.heap.size cA ad q z (xs (x0 + 1).toNatClampNeg) hR.2.2.2) (by rw [ha1, ha3]) gL_law_L_covered rfl (by decide +kernel) rfl ⟨Nat.le_of_ble_eq_true rfl, Nat.le_of_ble_eq_true rfl⟩ hcs hK hW hS hKD hKX hKN (Nat.le_refl _) hl.1 rfl (Nat.le_of_ble_eq_true rfl) dL_law_826 (fun u H locs hak hW hS => ?_)
  have hb1 : a1 = u 0 0 := ha1.trans (hak 0 0 (by decide) (by decide) (by decide)).symm
  have hb2 : a2 = u 20 0 := ha2.trans (hak 20 0 (by decide) (by decide) (by decide)).symm
  have hb3 : a3 = u 22 0 := ha3.trans (hak 22 0 (by decide) (by decide) (by decide)).symm
  have hfs := fs_covered hR (xs (x0 + 1).toNatClampNeg)
  generalize hZ1 : (zL ((m_X7_covered z (xs (x0 + 1).toNatClampNeg)).1) (Int32.toInt64 ((m_X7_covered z (xs (x0 + 1).toNatClampNeg)).2)) (z) z) = Z1 at hW hfs ⊢
  generalize hK1 : ((m_X7_covered z (xs (x0 + 1).toNatClampNeg)).1) = K1 at hfs ⊢
  refine lv_istore (lv' := [(5, .int K1), (4, .int x0), (0, .ref b), (1, .ref a1), (2, .ref a2), (3, .ref a3)]) hx hb dL_law_829 hl (by decide) rfl (fun ls hl => ?_)
  refine lv_aload_n hx hb dL_law_831 rfl (lv_at hl 4 rfl) ?_
  refine sc_ldi (k := 1) (i0 := 2) (i4 := 1) hx hb hX hbl hS hl rfl rfl (hin 1 (by decide) (by decide)) (by decide) dL_law_832 dL_law_833 dL_law_835 dL_law_836 dL_law_837 ?_
  subst hb2
  refine mm_callVi (n := 1) (As := [.int (xs (x0 + 1).toNatClampNeg)]) (rest := []) ⟨hx, hb, hml, hown, hts⟩ (c_X8_covered l D s.heap.size (PC cA u Z1) cA u q (xs (x0 + 1).toNatClampNeg) hR.2.1) gL_law_X8_covered rfl (by decide +kernel) rfl ⟨Nat.le_of_ble_eq_true rfl, Nat.le_of_ble_eq_true rfl⟩ ⟨hcs.1, hcs.2⟩ hK hW hS hl.1 rfl (Nat.le_of_ble_eq_true rfl) dL_law_838 (fun H locs hW hS => ?_)
  refine lv_istore (lv' := [(6, .int (m_X8_covered q (xs (x0 + 1).toNatClampNeg)).1), (5, .int K1), (4, .int x0), (0, .ref b), (1, .ref a1), (2, .ref (u 20 0)), (3, .ref a3)]) hx hb dL_law_841 hl (by decide) rfl (fun ls hl => ?_)
  refine lv_aload_n hx hb dL_law_843 rfl (lv_at hl 5 rfl) ?_
  refine mm_callVi (n := 0) (As := []) (rest := []) ⟨hx, hb, hml, hown, hts⟩ (c_X8_thrown l D s.heap.size (PC cA u Z1) cA u (m_X8_covered q (xs (x0 + 1).toNatClampNeg)).2) gL_law_X8_thrown rfl (by decide +kernel) rfl ⟨Nat.le_of_ble_eq_true rfl, Nat.le_of_ble_eq_true rfl⟩ ⟨hcs.1, hcs.2⟩ hK hW hS hl.1 rfl (Nat.le_of_ble_eq_true rfl) dL_law_844 (fun H locs hW hS => ?_)
  refine lv_iload hx hb dL_law_847 (lv_at hl 1 rfl) ?_
  refine lv_icmp_eq (tgt := 854) hx hb dL_law_849 (by decide) (fun _ => ?_) (fun h => absurd (hfs.1) h)
  refine lv_iload hx hb dL_law_854 (lv_at hl 1 rfl) ?_
  refine lv_if_ne (tgt := 871) hx hb dL_law_856 (by decide) (fun hk => ?_) (fun hk => ?_)
  · refine lv_goto (tgt := 1829) hx hb dL_law_871 (by decide) ?_
    exact next u Z1 (m_X8_covered q (xs (x0 + 1).toNatClampNeg)).2 H locs ls hb1 rfl hb3 hW hS hfs.2.1 (lv_sub hl [2, 3, 4, 5, 6] rfl)
  · have hk0 : K1 = 0 := hk
    refine lv_aload_n hx hb dL_law_859 rfl (lv_at hl 6 rfl) ?_
    refine lv_iconst (v := 0) hx hb dL_law_860 (by decide) ?_
    refine lw_lald hb3 hx hb hK hW (hfs.2.2 hk0) dL_law_861 ?_
    refine lv_iload hx hb dL_law_862 (lv_at hl 0 rfl) ?_
    refine lv_i2l hx hb dL_law_864 rfl ?_
    refine W.lcmp hx hb dL_law_865 ?_
    refine lv_if_eq (tgt := 871) hx hb dL_law_866 (by decide) (fun _ => ?_) (fun h => absurd (lg_self _) h)
    refine lv_goto (tgt := 1829) hx hb dL_law_871 (by decide) ?_
    exact next u Z1 (m_X8_covered q (xs (x0 + 1).toNatClampNeg)).2 H locs ls hb1 rfl hb3 hW hS hfs.2.1 (lv_sub hl [2, 3, 4, 5, 6] rfl)
set_option maxHeartbeats 4000000 in
set_option maxRecDepth 100000 in
theorem ca_due {p : Program} {l : Launch} {e : Env} {s : State} {m : MethodId} {below : List Frame} {meth : Method} {c : Code} {Q : State → Prop} {b L : Nat} {xs : Nat → Int32} {D : va_G} {cA : Nat → ClassId} (hC : LX p l s m c b L xs D cA) {H : Heap} {cells slots : Nat} {ls : Array Slot} {ad : Nat → Nat → Nat} {z : qC} {q : qM} {a1 a2 a3 : Nat} {x0 : Int32} (hin : ∀ k : Int32, 0 ≤ k.toInt → k.toInt ≤ 8 → vp_in (x0 + k) L) (ha1 : a1 = ad 0 0) (ha2 : a2 = ad 20 0) (ha3 : a3 = ad 22 0) (hW : wd D (wA s.heap.size) (PO cA ad z q) ad H) (hS : va_S (wA s.heap.size) s.heap H []) (hR : RI z q) (hl : lv_has ls 8 [(4, .int x0), (0, .ref b), (1, .ref a1), (2, .ref a2), (3, .ref a3)]) (hcs : cells + 8 ≤ room_1.cells ∧ slots + 50 ≤ room_1.slots)
    (next : ∀ (u : Nat → Nat → Nat) (z' : qC) (q' : qM) (H' : Heap) (locs' : List Loc) (ls' : Array Slot), a1 = u 0 0 → a2 = u 20 0 → a3 = u 22 0 → wd D (wA s.heap.size) (PO cA u z' q') u H' → va_S (wA s.heap.size) s.heap H' locs' → RI z' q' → lv_has ls' 8 [(4, .int x0), (0, .ref b), (1, .ref a1), (2, .ref a2), (3, .ref a3)] → W p l e room_1 s m #[Value.ref b] below meth c H' locs' (cells + 8) (slots + 50) Q (F0 m 1829 ls' [])) :
    W p l e room_1 s m #[Value.ref b] below meth c H [] cells slots Q (F0 m 874 ls []) := by
  obtain ⟨hx, hb, hml, hown, hts, hK, hKD, hKX, hKN, hlt, hX, hbl⟩ := hC
  refine lv_aload_n hx hb dL_law_874 rfl (lv_at hl 2 rfl) ?_
  refine sc_ldi (k := 1) (i0 := 1) (i4 := 0) hx hb hX hbl hS hl rfl rfl (hin 1 (by decide) (by decide)) (by decide) dL_law_875 dL_law_876 dL_law_878 dL_law_879 dL_law_880 ?_
  refine lv_aload_n hx hb dL_law_881 rfl (lv_at hl 4 rfl) ?_
  refine lw_callW (n := 3) (As := [.ref a1, .int (xs (x0 + 1).toNatClampNeg), .ref a3]) (rest := []) ⟨hx, hb, hml, hown, hts⟩ (c_L_due l hlt D s.heap.size cA ad q z (xs (x0 + 1).toNatClampNeg) hR.2.2.2) (by rw [ha1, ha3]) gL_law_L_due rfl (by decide +kernel) rfl ⟨Nat.le_of_ble_eq_true rfl, Nat.le_of_ble_eq_true rfl⟩ hcs hK hW hS hKD hKX hKN (Nat.le_refl _) hl.1 rfl (Nat.le_of_ble_eq_true rfl) dL_law_882 (fun u H locs hak hW hS => ?_)
  have hb1 : a1 = u 0 0 := ha1.trans (hak 0 0 (by decide) (by decide) (by decide)).symm
  have hb2 : a2 = u 20 0 := ha2.trans (hak 20 0 (by decide) (by decide) (by decide)).symm
  have hb3 : a3 = u 22 0 := ha3.trans (hak 22 0 (by decide) (by decide) (by decide)).symm
  have hfs := fs_due hR (xs (x0 + 1).toNatClampNeg)
  generalize hZ1 : (zL ((m_X7_due z (xs (x0 + 1).toNatClampNeg)).1) (Int32.toInt64 ((m_X7_due z (xs (x0 + 1).toNatClampNeg)).2)) (z) z) = Z1 at hW hfs ⊢
  generalize hK1 : ((m_X7_due z (xs (x0 + 1).toNatClampNeg)).1) = K1 at hfs ⊢
  refine lv_istore (lv' := [(5, .int K1), (4, .int x0), (0, .ref b), (1, .ref a1), (2, .ref a2), (3, .ref a3)]) hx hb dL_law_885 hl (by decide) rfl (fun ls hl => ?_)
  refine lv_aload_n hx hb dL_law_887 rfl (lv_at hl 4 rfl) ?_
  refine sc_ldi (k := 1) (i0 := 2) (i4 := 1) hx hb hX hbl hS hl rfl rfl (hin 1 (by decide) (by decide)) (by decide) dL_law_888 dL_law_889 dL_law_891 dL_law_892 dL_law_893 ?_
  subst hb2
  refine mm_callVi (n := 1) (As := [.int (xs (x0 + 1).toNatClampNeg)]) (rest := []) ⟨hx, hb, hml, hown, hts⟩ (c_X8_due l D s.heap.size (PC cA u Z1) cA u q (xs (x0 + 1).toNatClampNeg) hR.2.1) gL_law_X8_due rfl (by decide +kernel) rfl ⟨Nat.le_of_ble_eq_true rfl, Nat.le_of_ble_eq_true rfl⟩ ⟨hcs.1, hcs.2⟩ hK hW hS hl.1 rfl (Nat.le_of_ble_eq_true rfl) dL_law_894 (fun H locs hW hS => ?_)
  refine lv_istore (lv' := [(6, .int (m_X8_due q (xs (x0 + 1).toNatClampNeg)).1), (5, .int K1), (4, .int x0), (0, .ref b), (1, .ref a1), (2, .ref (u 20 0)), (3, .ref a3)]) hx hb dL_law_897 hl (by decide) rfl (fun ls hl => ?_)
  refine lv_aload_n hx hb dL_law_899 rfl (lv_at hl 5 rfl) ?_
  refine mm_callVi (n := 0) (As := []) (rest := []) ⟨hx, hb, hml, hown, hts⟩ (c_X8_thrown l D s.heap.size (PC cA u Z1) cA u (m_X8_due q (xs (x0 + 1).toNatClampNeg)).2) gL_law_X8_thrown rfl (by decide +kernel) rfl ⟨Nat.le_of_ble_eq_true rfl, Nat.le_of_ble_eq_true rfl⟩ ⟨hcs.1, hcs.2⟩ hK hW hS hl.1 rfl (Nat.le_of_ble_eq_true rfl) dL_law_900 (fun H locs hW hS => ?_)
  refine lv_iload hx hb dL_law_903 (lv_at hl 1 rfl) ?_
  refine lv_icmp_eq (tgt := 910) hx hb dL_law_905 (by decide) (fun _ => ?_) (fun h => absurd (hfs.1) h)
  refine lv_iload hx hb dL_law_910 (lv_at hl 1 rfl) ?_
  refine lv_if_ne (tgt := 927) hx hb dL_law_912 (by decide) (fun hk => ?_) (fun hk => ?_)
  · refine lv_goto (tgt := 1829) hx hb dL_law_927 (by decide) ?_
    exact next u Z1 (m_X8_due q (xs (x0 + 1).toNatClampNeg)).2 H locs ls hb1 rfl hb3 hW hS hfs.2.1 (lv_sub hl [2, 3, 4, 5, 6] rfl)
  · have hk0 : K1 = 0 := hk
    refine lv_aload_n hx hb dL_law_915 rfl (lv_at hl 6 rfl) ?_
    refine lv_iconst (v := 0) hx hb dL_law_916 (by decide) ?_
    refine lw_lald hb3 hx hb hK hW (hfs.2.2 hk0) dL_law_917 ?_
    refine lv_iload hx hb dL_law_918 (lv_at hl 0 rfl) ?_
    refine lv_i2l hx hb dL_law_920 rfl ?_
    refine W.lcmp hx hb dL_law_921 ?_
    refine lv_if_eq (tgt := 927) hx hb dL_law_922 (by decide) (fun _ => ?_) (fun h => absurd (lg_self _) h)
    refine lv_goto (tgt := 1829) hx hb dL_law_927 (by decide) ?_
    exact next u Z1 (m_X8_due q (xs (x0 + 1).toNatClampNeg)).2 H locs ls hb1 rfl hb3 hW hS hfs.2.1 (lv_sub hl [2, 3, 4, 5, 6] rfl)
set_option maxHeartbeats 4000000 in
set_option maxRecDepth 100000 in
theorem ca_record {p : Program} {l : Launch} {e : Env} {s : State} {m : MethodId} {below : List Frame} {meth : Method} {c : Code} {Q : State → Prop} {b L : Nat} {xs : Nat → Int32} {D : va_G} {cA : Nat → ClassId} (hC : LX p l s m c b L xs D cA) {H : Heap} {cells slots : Nat} {ls : Array Slot} {ad : Nat → Nat → Nat} {z : qC} {q : qM} {a1 a2 a3 : Nat} {x0 : Int32} (hin : ∀ k : Int32, 0 ≤ k.toInt → k.toInt ≤ 8 → vp_in (x0 + k) L) (ha1 : a1 = ad 0 0) (ha2 : a2 = ad 20 0) (ha3 : a3 = ad 22 0) (hW : wd D (wA s.heap.size) (PO cA ad z q) ad H) (hS : va_S (wA s.heap.size) s.heap H []) (hR : RI z q) (hl : lv_has ls 8 [(4, .int x0), (0, .ref b), (1, .ref a1), (2, .ref a2), (3, .ref a3)]) (hcs : cells + 8 ≤ room_1.cells ∧ slots + 50 ≤ room_1.slots)
    (next : ∀ (u : Nat → Nat → Nat) (z' : qC) (q' : qM) (H' : Heap) (locs' : List Loc) (ls' : Array Slot), a1 = u 0 0 → a2 = u 20 0 → a3 = u 22 0 → wd D (wA s.heap.size) (PO cA u z' q') u H' → va_S (wA s.heap.size) s.heap H' locs' → RI z' q' → lv_has ls' 8 [(4, .int x0), (0, .ref b), (1, .ref a1), (2, .ref a2), (3, .ref a3)] → W p l e room_1 s m #[Value.ref b] below meth c H' locs' (cells + 8) (slots + 50) Q (F0 m 1829 ls' [])) :
    W p l e room_1 s m #[Value.ref b] below meth c H [] cells slots Q (F0 m 930 ls []) := by
  obtain ⟨hx, hb, hml, hown, hts, hK, hKD, hKX, hKN, hlt, hX, hbl⟩ := hC
  refine lv_aload_n hx hb dL_law_930 rfl (lv_at hl 2 rfl) ?_
  refine sc_ldi (k := 1) (i0 := 1) (i4 := 0) hx hb hX hbl hS hl rfl rfl (hin 1 (by decide) (by decide)) (by decide) dL_law_931 dL_law_932 dL_law_934 dL_law_935 dL_law_936 ?_
  refine sc_ldi (k := 2) (i0 := 1) (i4 := 0) hx hb hX hbl hS hl rfl rfl (hin 2 (by decide) (by decide)) (by decide) dL_law_937 dL_law_938 dL_law_940 dL_law_941 dL_law_942 ?_
  refine lv_aload_n hx hb dL_law_943 rfl (lv_at hl 4 rfl) ?_
  refine lw_callW (n := 4) (As := [.ref a1, .int (xs (x0 + 1).toNatClampNeg), .int (xs (x0 + 2).toNatClampNeg), .ref a3]) (rest := []) ⟨hx, hb, hml, hown, hts⟩ (c_L_record l hlt D s.heap.size cA ad q z (xs (x0 + 1).toNatClampNeg) (xs (x0 + 2).toNatClampNeg) hR.2.2.2) (by rw [ha1, ha3]) gL_law_L_record rfl (by decide +kernel) rfl ⟨Nat.le_of_ble_eq_true rfl, Nat.le_of_ble_eq_true rfl⟩ hcs hK hW hS hKD hKX hKN (Nat.le_refl _) hl.1 rfl (Nat.le_of_ble_eq_true rfl) dL_law_944 (fun u H locs hak hW hS => ?_)
  have hb1 : a1 = u 0 0 := ha1.trans (hak 0 0 (by decide) (by decide) (by decide)).symm
  have hb2 : a2 = u 20 0 := ha2.trans (hak 20 0 (by decide) (by decide) (by decide)).symm
  have hb3 : a3 = u 22 0 := ha3.trans (hak 22 0 (by decide) (by decide) (by decide)).symm
  have hfs := fs_record hR (xs (x0 + 1).toNatClampNeg) (xs (x0 + 2).toNatClampNeg)
  generalize hZ1 : (zL ((m_X7_record z (xs (x0 + 1).toNatClampNeg) (xs (x0 + 2).toNatClampNeg)).1) (Int32.toInt64 ((m_X7_record z (xs (x0 + 1).toNatClampNeg) (xs (x0 + 2).toNatClampNeg)).2)) (z) z) = Z1 at hW hfs ⊢
  generalize hK1 : ((m_X7_record z (xs (x0 + 1).toNatClampNeg) (xs (x0 + 2).toNatClampNeg)).1) = K1 at hfs ⊢
  refine lv_istore (lv' := [(5, .int K1), (4, .int x0), (0, .ref b), (1, .ref a1), (2, .ref a2), (3, .ref a3)]) hx hb dL_law_947 hl (by decide) rfl (fun ls hl => ?_)
  refine lv_aload_n hx hb dL_law_949 rfl (lv_at hl 4 rfl) ?_
  refine sc_ldi (k := 1) (i0 := 2) (i4 := 1) hx hb hX hbl hS hl rfl rfl (hin 1 (by decide) (by decide)) (by decide) dL_law_950 dL_law_951 dL_law_953 dL_law_954 dL_law_955 ?_
  refine sc_ldi (k := 2) (i0 := 2) (i4 := 1) hx hb hX hbl hS hl rfl rfl (hin 2 (by decide) (by decide)) (by decide) dL_law_956 dL_law_957 dL_law_959 dL_law_960 dL_law_961 ?_
  subst hb2
  refine mm_callVi (n := 2) (As := [.int (xs (x0 + 1).toNatClampNeg), .int (xs (x0 + 2).toNatClampNeg)]) (rest := []) ⟨hx, hb, hml, hown, hts⟩ (c_X8_record l D s.heap.size (PC cA u Z1) cA u q (xs (x0 + 1).toNatClampNeg) (xs (x0 + 2).toNatClampNeg) hR.2.1) gL_law_X8_record rfl (by decide +kernel) rfl ⟨Nat.le_of_ble_eq_true rfl, Nat.le_of_ble_eq_true rfl⟩ ⟨hcs.1, hcs.2⟩ hK hW hS hl.1 rfl (Nat.le_of_ble_eq_true rfl) dL_law_962 (fun H locs hW hS => ?_)
  refine lv_istore (lv' := [(6, .int (m_X8_record q (xs (x0 + 1).toNatClampNeg) (xs (x0 + 2).toNatClampNeg)).1), (5, .int K1), (4, .int x0), (0, .ref b), (1, .ref a1), (2, .ref (u 20 0)), (3, .ref a3)]) hx hb dL_law_965 hl (by decide) rfl (fun ls hl => ?_)
  refine lv_aload_n hx hb dL_law_967 rfl (lv_at hl 5 rfl) ?_
  refine mm_callVi (n := 0) (As := []) (rest := []) ⟨hx, hb, hml, hown, hts⟩ (c_X8_thrown l D s.heap.size (PC cA u Z1) cA u (m_X8_record q (xs (x0 + 1).toNatClampNeg) (xs (x0 + 2).toNatClampNeg)).2) gL_law_X8_thrown rfl (by decide +kernel) rfl ⟨Nat.le_of_ble_eq_true rfl, Nat.le_of_ble_eq_true rfl⟩ ⟨hcs.1, hcs.2⟩ hK hW hS hl.1 rfl (Nat.le_of_ble_eq_true rfl) dL_law_968 (fun H locs hW hS => ?_)
  refine lv_iload hx hb dL_law_971 (lv_at hl 1 rfl) ?_
  refine lv_icmp_eq (tgt := 978) hx hb dL_law_973 (by decide) (fun _ => ?_) (fun h => absurd (hfs.1) h)
  refine lv_iload hx hb dL_law_978 (lv_at hl 1 rfl) ?_
  refine lv_if_ne (tgt := 995) hx hb dL_law_980 (by decide) (fun hk => ?_) (fun hk => ?_)
  · refine lv_goto (tgt := 1829) hx hb dL_law_995 (by decide) ?_
    exact next u Z1 (m_X8_record q (xs (x0 + 1).toNatClampNeg) (xs (x0 + 2).toNatClampNeg)).2 H locs ls hb1 rfl hb3 hW hS hfs.2.1 (lv_sub hl [2, 3, 4, 5, 6] rfl)
  · have hk0 : K1 = 0 := hk
    refine lv_aload_n hx hb dL_law_983 rfl (lv_at hl 6 rfl) ?_
    refine lv_iconst (v := 0) hx hb dL_law_984 (by decide) ?_
    refine lw_lald hb3 hx hb hK hW (hfs.2.2 hk0) dL_law_985 ?_
    refine lv_iload hx hb dL_law_986 (lv_at hl 0 rfl) ?_
    refine lv_i2l hx hb dL_law_988 rfl ?_
    refine W.lcmp hx hb dL_law_989 ?_
    refine lv_if_eq (tgt := 995) hx hb dL_law_990 (by decide) (fun _ => ?_) (fun h => absurd (lg_self _) h)
    refine lv_goto (tgt := 1829) hx hb dL_law_995 (by decide) ?_
    exact next u Z1 (m_X8_record q (xs (x0 + 1).toNatClampNeg) (xs (x0 + 2).toNatClampNeg)).2 H locs ls hb1 rfl hb3 hW hS hfs.2.1 (lv_sub hl [2, 3, 4, 5, 6] rfl)
set_option maxHeartbeats 4000000 in
set_option maxRecDepth 100000 in
theorem ca_read {p : Program} {l : Launch} {e : Env} {s : State} {m : MethodId} {below : List Frame} {meth : Method} {c : Code} {Q : State → Prop} {b L : Nat} {xs : Nat → Int32} {D : va_G} {cA : Nat → ClassId} (hC : LX p l s m c b L xs D cA) {H : Heap} {cells slots : Nat} {ls : Array Slot} {ad : Nat → Nat → Nat} {z : qC} {q : qM} {a1 a2 a3 : Nat} {x0 : Int32} (hin : ∀ k : Int32, 0 ≤ k.toInt → k.toInt ≤ 8 → vp_in (x0 + k) L) (ha1 : a1 = ad 0 0) (ha2 : a2 = ad 20 0) (ha3 : a3 = ad 22 0) (hW : wd D (wA s.heap.size) (PO cA ad z q) ad H) (hS : va_S (wA s.heap.size) s.heap H []) (hR : RI z q) (hl : lv_has ls 8 [(4, .int x0), (0, .ref b), (1, .ref a1), (2, .ref a2), (3, .ref a3)]) (hcs : cells + 8 ≤ room_1.cells ∧ slots + 50 ≤ room_1.slots)
    (next : ∀ (u : Nat → Nat → Nat) (z' : qC) (q' : qM) (H' : Heap) (locs' : List Loc) (ls' : Array Slot), a1 = u 0 0 → a2 = u 20 0 → a3 = u 22 0 → wd D (wA s.heap.size) (PO cA u z' q') u H' → va_S (wA s.heap.size) s.heap H' locs' → RI z' q' → lv_has ls' 8 [(4, .int x0), (0, .ref b), (1, .ref a1), (2, .ref a2), (3, .ref a3)] → W p l e room_1 s m #[Value.ref b] below meth c H' locs' (cells + 8) (slots + 50) Q (F0 m 1829 ls' [])) :
    W p l e room_1 s m #[Value.ref b] below meth c H [] cells slots Q (F0 m 998 ls []) := by
  obtain ⟨hx, hb, hml, hown, hts, hK, hKD, hKX, hKN, hlt, hX, hbl⟩ := hC
  refine lv_aload_n hx hb dL_law_998 rfl (lv_at hl 2 rfl) ?_
  refine sc_ldi (k := 1) (i0 := 1) (i4 := 0) hx hb hX hbl hS hl rfl rfl (hin 1 (by decide) (by decide)) (by decide) dL_law_999 dL_law_1000 dL_law_1002 dL_law_1003 dL_law_1004 ?_
  refine lv_aload_n hx hb dL_law_1005 rfl (lv_at hl 4 rfl) ?_
  refine lw_callW (n := 3) (As := [.ref a1, .int (xs (x0 + 1).toNatClampNeg), .ref a3]) (rest := []) ⟨hx, hb, hml, hown, hts⟩ (c_L_read l hlt D s.heap.size cA ad q z (xs (x0 + 1).toNatClampNeg) hR.2.2.2) (by rw [ha1, ha3]) gL_law_L_read rfl (by decide +kernel) rfl ⟨Nat.le_of_ble_eq_true rfl, Nat.le_of_ble_eq_true rfl⟩ hcs hK hW hS hKD hKX hKN (Nat.le_refl _) hl.1 rfl (Nat.le_of_ble_eq_true rfl) dL_law_1006 (fun u H locs hak hW hS => ?_)
  have hb1 : a1 = u 0 0 := ha1.trans (hak 0 0 (by decide) (by decide) (by decide)).symm
  have hb2 : a2 = u 20 0 := ha2.trans (hak 20 0 (by decide) (by decide) (by decide)).symm
  have hb3 : a3 = u 22 0 := ha3.trans (hak 22 0 (by decide) (by decide) (by decide)).symm
  have hfs := fs_read hR (xs (x0 + 1).toNatClampNeg)
  generalize hZ1 : (zL ((m_X7_read z (xs (x0 + 1).toNatClampNeg)).1) ((m_X7_read z (xs (x0 + 1).toNatClampNeg)).2) (z) z) = Z1 at hW hfs ⊢
  generalize hK1 : (wkO (m_X7_read z (xs (x0 + 1).toNatClampNeg)).1) = K1 at hfs ⊢
  refine lv_istore (lv' := [(5, .int K1), (4, .int x0), (0, .ref b), (1, .ref a1), (2, .ref a2), (3, .ref a3)]) hx hb dL_law_1009 hl (by decide) rfl (fun ls hl => ?_)
  refine lv_aload_n hx hb dL_law_1011 rfl (lv_at hl 4 rfl) ?_
  refine sc_ldi (k := 1) (i0 := 2) (i4 := 1) hx hb hX hbl hS hl rfl rfl (hin 1 (by decide) (by decide)) (by decide) dL_law_1012 dL_law_1013 dL_law_1015 dL_law_1016 dL_law_1017 ?_
  subst hb2
  refine mm_callVl (n := 1) (As := [.int (xs (x0 + 1).toNatClampNeg)]) (rest := []) ⟨hx, hb, hml, hown, hts⟩ (c_X8_read l D s.heap.size (PC cA u Z1) cA u q (xs (x0 + 1).toNatClampNeg) hR.2.1) gL_law_X8_read rfl (by decide +kernel) rfl ⟨Nat.le_of_ble_eq_true rfl, Nat.le_of_ble_eq_true rfl⟩ ⟨hcs.1, hcs.2⟩ hK hW hS hl.1 rfl (Nat.le_of_ble_eq_true rfl) dL_law_1018 (fun H locs hW hS => ?_)
  refine lv_lstore (lv' := [(6, .long (m_X8_read q (xs (x0 + 1).toNatClampNeg)).1), (5, .int K1), (4, .int x0), (0, .ref b), (1, .ref a1), (2, .ref (u 20 0)), (3, .ref a3)]) hx hb dL_law_1021 hl (by decide) rfl (fun ls hl => ?_)
  refine lv_aload_n hx hb dL_law_1023 rfl (lv_at hl 5 rfl) ?_
  refine mm_callVi (n := 0) (As := []) (rest := []) ⟨hx, hb, hml, hown, hts⟩ (c_X8_thrown l D s.heap.size (PC cA u Z1) cA u (m_X8_read q (xs (x0 + 1).toNatClampNeg)).2) gL_law_X8_thrown rfl (by decide +kernel) rfl ⟨Nat.le_of_ble_eq_true rfl, Nat.le_of_ble_eq_true rfl⟩ ⟨hcs.1, hcs.2⟩ hK hW hS hl.1 rfl (Nat.le_of_ble_eq_true rfl) dL_law_1024 (fun H locs hW hS => ?_)
  refine lv_iload hx hb dL_law_1027 (lv_at hl 1 rfl) ?_
  refine lv_icmp_eq (tgt := 1034) hx hb dL_law_1029 (by decide) (fun _ => ?_) (fun h => absurd (hfs.1) h)
  refine lv_iload hx hb dL_law_1034 (lv_at hl 1 rfl) ?_
  refine lv_if_ne (tgt := 1050) hx hb dL_law_1036 (by decide) (fun hk => ?_) (fun hk => ?_)
  · refine lv_goto (tgt := 1829) hx hb dL_law_1050 (by decide) ?_
    exact next u Z1 (m_X8_read q (xs (x0 + 1).toNatClampNeg)).2 H locs ls hb1 rfl hb3 hW hS hfs.2.1 (lv_sub hl [2, 3, 4, 5, 6] rfl)
  · have hk0 : K1 = 0 := hk
    refine lv_aload_n hx hb dL_law_1039 rfl (lv_at hl 6 rfl) ?_
    refine lv_iconst (v := 0) hx hb dL_law_1040 (by decide) ?_
    refine lw_lald hb3 hx hb hK hW (hfs.2.2 hk0) dL_law_1041 ?_
    refine lv_lload hx hb dL_law_1042 (lv_at hl 0 rfl) ?_
    refine W.lcmp hx hb dL_law_1044 ?_
    refine lv_if_eq (tgt := 1050) hx hb dL_law_1045 (by decide) (fun _ => ?_) (fun h => absurd (lg_self _) h)
    refine lv_goto (tgt := 1829) hx hb dL_law_1050 (by decide) ?_
    exact next u Z1 (m_X8_read q (xs (x0 + 1).toNatClampNeg)).2 H locs ls hb1 rfl hb3 hW hS hfs.2.1 (lv_sub hl [2, 3, 4, 5, 6] rfl)
set_option maxHeartbeats 4000000 in
set_option maxRecDepth 100000 in
theorem ca_find {p : Program} {l : Launch} {e : Env} {s : State} {m : MethodId} {below : List Frame} {meth : Method} {c : Code} {Q : State → Prop} {b L : Nat} {xs : Nat → Int32} {D : va_G} {cA : Nat → ClassId} (hC : LX p l s m c b L xs D cA) {H : Heap} {cells slots : Nat} {ls : Array Slot} {ad : Nat → Nat → Nat} {z : qC} {q : qM} {a1 a2 a3 : Nat} {x0 : Int32} (hin : ∀ k : Int32, 0 ≤ k.toInt → k.toInt ≤ 8 → vp_in (x0 + k) L) (ha1 : a1 = ad 0 0) (ha2 : a2 = ad 20 0) (ha3 : a3 = ad 22 0) (hW : wd D (wA s.heap.size) (PO cA ad z q) ad H) (hS : va_S (wA s.heap.size) s.heap H []) (hR : RI z q) (hl : lv_has ls 8 [(4, .int x0), (0, .ref b), (1, .ref a1), (2, .ref a2), (3, .ref a3)]) (hcs : cells + 8 ≤ room_1.cells ∧ slots + 50 ≤ room_1.slots)
    (next : ∀ (u : Nat → Nat → Nat) (z' : qC) (q' : qM) (H' : Heap) (locs' : List Loc) (ls' : Array Slot), a1 = u 0 0 → a2 = u 20 0 → a3 = u 22 0 → wd D (wA s.heap.size) (PO cA u z' q') u H' → va_S (wA s.heap.size) s.heap H' locs' → RI z' q' → lv_has ls' 8 [(4, .int x0), (0, .ref b), (1, .ref a1), (2, .ref a2), (3, .ref a3)] → W p l e room_1 s m #[Value.ref b] below meth c H' locs' (cells + 8) (slots + 50) Q (F0 m 1829 ls' [])) :
    W p l e room_1 s m #[Value.ref b] below meth c H [] cells slots Q (F0 m 1053 ls []) := by
  obtain ⟨hx, hb, hml, hown, hts, hK, hKD, hKX, hKN, hlt, hX, hbl⟩ := hC
  refine lv_aload_n hx hb dL_law_1053 rfl (lv_at hl 2 rfl) ?_
  refine sc_ldi (k := 1) (i0 := 1) (i4 := 0) hx hb hX hbl hS hl rfl rfl (hin 1 (by decide) (by decide)) (by decide) dL_law_1054 dL_law_1055 dL_law_1057 dL_law_1058 dL_law_1059 ?_
  refine sc_ldi (k := 2) (i0 := 1) (i4 := 0) hx hb hX hbl hS hl rfl rfl (hin 2 (by decide) (by decide)) (by decide) dL_law_1060 dL_law_1061 dL_law_1063 dL_law_1064 dL_law_1065 ?_
  refine sc_ldi (k := 3) (i0 := 1) (i4 := 0) hx hb hX hbl hS hl rfl rfl (hin 3 (by decide) (by decide)) (by decide) dL_law_1066 dL_law_1067 dL_law_1069 dL_law_1070 dL_law_1071 ?_
  refine sc_ldi (k := 4) (i0 := 1) (i4 := 0) hx hb hX hbl hS hl rfl rfl (hin 4 (by decide) (by decide)) (by decide) dL_law_1072 dL_law_1073 dL_law_1075 dL_law_1076 dL_law_1077 ?_
  refine lv_aload_n hx hb dL_law_1078 rfl (lv_at hl 4 rfl) ?_
  refine lw_callW (n := 6) (As := [.ref a1, .int (xs (x0 + 1).toNatClampNeg), .int (xs (x0 + 2).toNatClampNeg), .int (xs (x0 + 3).toNatClampNeg), .int (xs (x0 + 4).toNatClampNeg), .ref a3]) (rest := []) ⟨hx, hb, hml, hown, hts⟩ (c_L_find l hlt D s.heap.size cA ad q z (xs (x0 + 1).toNatClampNeg) (xs (x0 + 2).toNatClampNeg) (xs (x0 + 3).toNatClampNeg) (xs (x0 + 4).toNatClampNeg) hR.2.2.2) (by rw [ha1, ha3]) gL_law_L_find rfl (by decide +kernel) rfl ⟨Nat.le_of_ble_eq_true rfl, Nat.le_of_ble_eq_true rfl⟩ hcs hK hW hS hKD hKX hKN (Nat.le_refl _) hl.1 rfl (Nat.le_of_ble_eq_true rfl) dL_law_1079 (fun u H locs hak hW hS => ?_)
  have hb1 : a1 = u 0 0 := ha1.trans (hak 0 0 (by decide) (by decide) (by decide)).symm
  have hb2 : a2 = u 20 0 := ha2.trans (hak 20 0 (by decide) (by decide) (by decide)).symm
  have hb3 : a3 = u 22 0 := ha3.trans (hak 22 0 (by decide) (by decide) (by decide)).symm
  have hfs := fs_find hR (xs (x0 + 1).toNatClampNeg) (xs (x0 + 2).toNatClampNeg) (xs (x0 + 3).toNatClampNeg) (xs (x0 + 4).toNatClampNeg)
  generalize hZ1 : (zL ((m_X7_find z (xs (x0 + 1).toNatClampNeg) (xs (x0 + 2).toNatClampNeg) (xs (x0 + 3).toNatClampNeg) (xs (x0 + 4).toNatClampNeg)).1) (Int32.toInt64 ((m_X7_find z (xs (x0 + 1).toNatClampNeg) (xs (x0 + 2).toNatClampNeg) (xs (x0 + 3).toNatClampNeg) (xs (x0 + 4).toNatClampNeg)).2)) (z) z) = Z1 at hW hfs ⊢
  generalize hK1 : (wkT (m_X7_find z (xs (x0 + 1).toNatClampNeg) (xs (x0 + 2).toNatClampNeg) (xs (x0 + 3).toNatClampNeg) (xs (x0 + 4).toNatClampNeg)).1) = K1 at hfs ⊢
  refine lv_istore (lv' := [(5, .int K1), (4, .int x0), (0, .ref b), (1, .ref a1), (2, .ref a2), (3, .ref a3)]) hx hb dL_law_1082 hl (by decide) rfl (fun ls hl => ?_)
  refine lv_aload_n hx hb dL_law_1084 rfl (lv_at hl 4 rfl) ?_
  refine sc_ldi (k := 1) (i0 := 2) (i4 := 1) hx hb hX hbl hS hl rfl rfl (hin 1 (by decide) (by decide)) (by decide) dL_law_1085 dL_law_1086 dL_law_1088 dL_law_1089 dL_law_1090 ?_
  refine sc_ldi (k := 2) (i0 := 2) (i4 := 1) hx hb hX hbl hS hl rfl rfl (hin 2 (by decide) (by decide)) (by decide) dL_law_1091 dL_law_1092 dL_law_1094 dL_law_1095 dL_law_1096 ?_
  refine sc_ldi (k := 3) (i0 := 2) (i4 := 1) hx hb hX hbl hS hl rfl rfl (hin 3 (by decide) (by decide)) (by decide) dL_law_1097 dL_law_1098 dL_law_1100 dL_law_1101 dL_law_1102 ?_
  refine sc_ldi (k := 4) (i0 := 2) (i4 := 1) hx hb hX hbl hS hl rfl rfl (hin 4 (by decide) (by decide)) (by decide) dL_law_1103 dL_law_1104 dL_law_1106 dL_law_1107 dL_law_1108 ?_
  subst hb2
  refine mm_callVi (n := 4) (As := [.int (xs (x0 + 1).toNatClampNeg), .int (xs (x0 + 2).toNatClampNeg), .int (xs (x0 + 3).toNatClampNeg), .int (xs (x0 + 4).toNatClampNeg)]) (rest := []) ⟨hx, hb, hml, hown, hts⟩ (c_X8_find l D s.heap.size (PC cA u Z1) cA u q (xs (x0 + 1).toNatClampNeg) (xs (x0 + 2).toNatClampNeg) (xs (x0 + 3).toNatClampNeg) (xs (x0 + 4).toNatClampNeg) hR.2.1) gL_law_X8_find rfl (by decide +kernel) rfl ⟨Nat.le_of_ble_eq_true rfl, Nat.le_of_ble_eq_true rfl⟩ ⟨hcs.1, hcs.2⟩ hK hW hS hl.1 rfl (Nat.le_of_ble_eq_true rfl) dL_law_1109 (fun H locs hW hS => ?_)
  refine lv_istore (lv' := [(6, .int (m_X8_find q (xs (x0 + 1).toNatClampNeg) (xs (x0 + 2).toNatClampNeg) (xs (x0 + 3).toNatClampNeg) (xs (x0 + 4).toNatClampNeg)).1), (5, .int K1), (4, .int x0), (0, .ref b), (1, .ref a1), (2, .ref (u 20 0)), (3, .ref a3)]) hx hb dL_law_1112 hl (by decide) rfl (fun ls hl => ?_)
  refine lv_aload_n hx hb dL_law_1114 rfl (lv_at hl 5 rfl) ?_
  refine mm_callVi (n := 0) (As := []) (rest := []) ⟨hx, hb, hml, hown, hts⟩ (c_X8_thrown l D s.heap.size (PC cA u Z1) cA u (m_X8_find q (xs (x0 + 1).toNatClampNeg) (xs (x0 + 2).toNatClampNeg) (xs (x0 + 3).toNatClampNeg) (xs (x0 + 4).toNatClampNeg)).2) gL_law_X8_thrown rfl (by decide +kernel) rfl ⟨Nat.le_of_ble_eq_true rfl, Nat.le_of_ble_eq_true rfl⟩ ⟨hcs.1, hcs.2⟩ hK hW hS hl.1 rfl (Nat.le_of_ble_eq_true rfl) dL_law_1115 (fun H locs hW hS => ?_)
  refine lv_iload hx hb dL_law_1118 (lv_at hl 1 rfl) ?_
  refine lv_icmp_eq (tgt := 1125) hx hb dL_law_1120 (by decide) (fun _ => ?_) (fun h => absurd (hfs.1) h)
  refine lv_iload hx hb dL_law_1125 (lv_at hl 1 rfl) ?_
  refine lv_if_ne (tgt := 1142) hx hb dL_law_1127 (by decide) (fun hk => ?_) (fun hk => ?_)
  · refine lv_goto (tgt := 1829) hx hb dL_law_1142 (by decide) ?_
    exact next u Z1 (m_X8_find q (xs (x0 + 1).toNatClampNeg) (xs (x0 + 2).toNatClampNeg) (xs (x0 + 3).toNatClampNeg) (xs (x0 + 4).toNatClampNeg)).2 H locs ls hb1 rfl hb3 hW hS hfs.2.1 (lv_sub hl [2, 3, 4, 5, 6] rfl)
  · have hk0 : K1 = 0 := hk
    refine lv_aload_n hx hb dL_law_1130 rfl (lv_at hl 6 rfl) ?_
    refine lv_iconst (v := 0) hx hb dL_law_1131 (by decide) ?_
    refine lw_lald hb3 hx hb hK hW (hfs.2.2 hk0) dL_law_1132 ?_
    refine lv_iload hx hb dL_law_1133 (lv_at hl 0 rfl) ?_
    refine lv_i2l hx hb dL_law_1135 rfl ?_
    refine W.lcmp hx hb dL_law_1136 ?_
    refine lv_if_eq (tgt := 1142) hx hb dL_law_1137 (by decide) (fun _ => ?_) (fun h => absurd (lg_self _) h)
    refine lv_goto (tgt := 1829) hx hb dL_law_1142 (by decide) ?_
    exact next u Z1 (m_X8_find q (xs (x0 + 1).toNatClampNeg) (xs (x0 + 2).toNatClampNeg) (xs (x0 + 3).toNatClampNeg) (xs (x0 + 4).toNatClampNeg)).2 H locs ls hb1 rfl hb3 hW hS hfs.2.1 (lv_sub hl [2, 3, 4, 5, 6] rfl)
set_option maxHeartbeats 4000000 in
set_option maxRecDepth 100000 in
theorem ca_draw {p : Program} {l : Launch} {e : Env} {s : State} {m : MethodId} {below : List Frame} {meth : Method} {c : Code} {Q : State → Prop} {b L : Nat} {xs : Nat → Int32} {D : va_G} {cA : Nat → ClassId} (hC : LX p l s m c b L xs D cA) {H : Heap} {cells slots : Nat} {ls : Array Slot} {ad : Nat → Nat → Nat} {z : qC} {q : qM} {a1 a2 a3 : Nat} {x0 : Int32} (hin : ∀ k : Int32, 0 ≤ k.toInt → k.toInt ≤ 8 → vp_in (x0 + k) L) (ha1 : a1 = ad 0 0) (ha2 : a2 = ad 20 0) (ha3 : a3 = ad 22 0) (hW : wd D (wA s.heap.size) (PO cA ad z q) ad H) (hS : va_S (wA s.heap.size) s.heap H []) (hR : RI z q) (hl : lv_has ls 8 [(4, .int x0), (0, .ref b), (1, .ref a1), (2, .ref a2), (3, .ref a3)]) (hcs : cells + 8 ≤ room_1.cells ∧ slots + 50 ≤ room_1.slots)
    (next : ∀ (u : Nat → Nat → Nat) (z' : qC) (q' : qM) (H' : Heap) (locs' : List Loc) (ls' : Array Slot), a1 = u 0 0 → a2 = u 20 0 → a3 = u 22 0 → wd D (wA s.heap.size) (PO cA u z' q') u H' → va_S (wA s.heap.size) s.heap H' locs' → RI z' q' → lv_has ls' 8 [(4, .int x0), (0, .ref b), (1, .ref a1), (2, .ref a2), (3, .ref a3)] → W p l e room_1 s m #[Value.ref b] below meth c H' locs' (cells + 8) (slots + 50) Q (F0 m 1829 ls' [])) :
    W p l e room_1 s m #[Value.ref b] below meth c H [] cells slots Q (F0 m 1145 ls []) := by
  obtain ⟨hx, hb, hml, hown, hts, hK, hKD, hKX, hKN, hlt, hX, hbl⟩ := hC
  refine lv_aload_n hx hb dL_law_1145 rfl (lv_at hl 2 rfl) ?_
  refine sc_ldi (k := 1) (i0 := 1) (i4 := 0) hx hb hX hbl hS hl rfl rfl (hin 1 (by decide) (by decide)) (by decide) dL_law_1146 dL_law_1147 dL_law_1149 dL_law_1150 dL_law_1151 ?_
  refine sc_ldi (k := 2) (i0 := 1) (i4 := 0) hx hb hX hbl hS hl rfl rfl (hin 2 (by decide) (by decide)) (by decide) dL_law_1152 dL_law_1153 dL_law_1155 dL_law_1156 dL_law_1157 ?_
  refine lv_aload_n hx hb dL_law_1158 rfl (lv_at hl 4 rfl) ?_
  refine lw_callW (n := 4) (As := [.ref a1, .int (xs (x0 + 1).toNatClampNeg), .int (xs (x0 + 2).toNatClampNeg), .ref a3]) (rest := []) ⟨hx, hb, hml, hown, hts⟩ (c_L_draw l hlt D s.heap.size cA ad q z (xs (x0 + 1).toNatClampNeg) (xs (x0 + 2).toNatClampNeg) hR.2.2.2) (by rw [ha1, ha3]) gL_law_L_draw rfl (by decide +kernel) rfl ⟨Nat.le_of_ble_eq_true rfl, Nat.le_of_ble_eq_true rfl⟩ hcs hK hW hS hKD hKX hKN (Nat.le_refl _) hl.1 rfl (Nat.le_of_ble_eq_true rfl) dL_law_1159 (fun u H locs hak hW hS => ?_)
  have hb1 : a1 = u 0 0 := ha1.trans (hak 0 0 (by decide) (by decide) (by decide)).symm
  have hb2 : a2 = u 20 0 := ha2.trans (hak 20 0 (by decide) (by decide) (by decide)).symm
  have hb3 : a3 = u 22 0 := ha3.trans (hak 22 0 (by decide) (by decide) (by decide)).symm
  have hfs := fs_draw hR (xs (x0 + 1).toNatClampNeg) (xs (x0 + 2).toNatClampNeg)
  generalize hZ1 : (zL ((m_X7_draw z (xs (x0 + 1).toNatClampNeg) (xs (x0 + 2).toNatClampNeg)).1) (Int32.toInt64 ((m_X7_draw z (xs (x0 + 1).toNatClampNeg) (xs (x0 + 2).toNatClampNeg)).2.1)) ((m_X7_draw z (xs (x0 + 1).toNatClampNeg) (xs (x0 + 2).toNatClampNeg)).2.2) z) = Z1 at hW hfs ⊢
  generalize hK1 : ((m_X7_draw z (xs (x0 + 1).toNatClampNeg) (xs (x0 + 2).toNatClampNeg)).1) = K1 at hfs ⊢
  refine lv_istore (lv' := [(5, .int K1), (4, .int x0), (0, .ref b), (1, .ref a1), (2, .ref a2), (3, .ref a3)]) hx hb dL_law_1162 hl (by decide) rfl (fun ls hl => ?_)
  refine lv_aload_n hx hb dL_law_1164 rfl (lv_at hl 4 rfl) ?_
  refine sc_ldi (k := 1) (i0 := 2) (i4 := 1) hx hb hX hbl hS hl rfl rfl (hin 1 (by decide) (by decide)) (by decide) dL_law_1165 dL_law_1166 dL_law_1168 dL_law_1169 dL_law_1170 ?_
  refine sc_ldi (k := 2) (i0 := 2) (i4 := 1) hx hb hX hbl hS hl rfl rfl (hin 2 (by decide) (by decide)) (by decide) dL_law_1171 dL_law_1172 dL_law_1174 dL_law_1175 dL_law_1176 ?_
  subst hb2
  refine mm_callVi (n := 2) (As := [.int (xs (x0 + 1).toNatClampNeg), .int (xs (x0 + 2).toNatClampNeg)]) (rest := []) ⟨hx, hb, hml, hown, hts⟩ (c_X8_draw l D s.heap.size (PC cA u Z1) cA u q (xs (x0 + 1).toNatClampNeg) (xs (x0 + 2).toNatClampNeg) hR.2.1 hR.2.2.1) gL_law_X8_draw rfl (by decide +kernel) rfl ⟨Nat.le_of_ble_eq_true rfl, Nat.le_of_ble_eq_true rfl⟩ ⟨hcs.1, hcs.2⟩ hK hW hS hl.1 rfl (Nat.le_of_ble_eq_true rfl) dL_law_1177 (fun H locs hW hS => ?_)
  refine lv_istore (lv' := [(6, .int (m_X8_draw q (xs (x0 + 1).toNatClampNeg) (xs (x0 + 2).toNatClampNeg)).1), (5, .int K1), (4, .int x0), (0, .ref b), (1, .ref a1), (2, .ref (u 20 0)), (3, .ref a3)]) hx hb dL_law_1180 hl (by decide) rfl (fun ls hl => ?_)
  refine lv_aload_n hx hb dL_law_1182 rfl (lv_at hl 5 rfl) ?_
  refine mm_callVi (n := 0) (As := []) (rest := []) ⟨hx, hb, hml, hown, hts⟩ (c_X8_thrown l D s.heap.size (PC cA u Z1) cA u (m_X8_draw q (xs (x0 + 1).toNatClampNeg) (xs (x0 + 2).toNatClampNeg)).2) gL_law_X8_thrown rfl (by decide +kernel) rfl ⟨Nat.le_of_ble_eq_true rfl, Nat.le_of_ble_eq_true rfl⟩ ⟨hcs.1, hcs.2⟩ hK hW hS hl.1 rfl (Nat.le_of_ble_eq_true rfl) dL_law_1183 (fun H locs hW hS => ?_)
  refine lv_iload hx hb dL_law_1186 (lv_at hl 1 rfl) ?_
  refine lv_icmp_eq (tgt := 1193) hx hb dL_law_1188 (by decide) (fun _ => ?_) (fun h => absurd (hfs.1) h)
  refine lv_iload hx hb dL_law_1193 (lv_at hl 1 rfl) ?_
  refine lv_if_ne (tgt := 1210) hx hb dL_law_1195 (by decide) (fun hk => ?_) (fun hk => ?_)
  · refine lv_goto (tgt := 1829) hx hb dL_law_1210 (by decide) ?_
    exact next u Z1 (m_X8_draw q (xs (x0 + 1).toNatClampNeg) (xs (x0 + 2).toNatClampNeg)).2 H locs ls hb1 rfl hb3 hW hS hfs.2.1 (lv_sub hl [2, 3, 4, 5, 6] rfl)
  · have hk0 : K1 = 0 := hk
    refine lv_aload_n hx hb dL_law_1198 rfl (lv_at hl 6 rfl) ?_
    refine lv_iconst (v := 0) hx hb dL_law_1199 (by decide) ?_
    refine lw_lald hb3 hx hb hK hW (hfs.2.2 hk0) dL_law_1200 ?_
    refine lv_iload hx hb dL_law_1201 (lv_at hl 0 rfl) ?_
    refine lv_i2l hx hb dL_law_1203 rfl ?_
    refine W.lcmp hx hb dL_law_1204 ?_
    refine lv_if_eq (tgt := 1210) hx hb dL_law_1205 (by decide) (fun _ => ?_) (fun h => absurd (lg_self _) h)
    refine lv_goto (tgt := 1829) hx hb dL_law_1210 (by decide) ?_
    exact next u Z1 (m_X8_draw q (xs (x0 + 1).toNatClampNeg) (xs (x0 + 2).toNatClampNeg)).2 H locs ls hb1 rfl hb3 hW hS hfs.2.1 (lv_sub hl [2, 3, 4, 5, 6] rfl)
set_option maxHeartbeats 4000000 in
set_option maxRecDepth 100000 in
theorem ca_listed {p : Program} {l : Launch} {e : Env} {s : State} {m : MethodId} {below : List Frame} {meth : Method} {c : Code} {Q : State → Prop} {b L : Nat} {xs : Nat → Int32} {D : va_G} {cA : Nat → ClassId} (hC : LX p l s m c b L xs D cA) {H : Heap} {cells slots : Nat} {ls : Array Slot} {ad : Nat → Nat → Nat} {z : qC} {q : qM} {a1 a2 a3 : Nat} {x0 : Int32} (hin : ∀ k : Int32, 0 ≤ k.toInt → k.toInt ≤ 8 → vp_in (x0 + k) L) (ha1 : a1 = ad 0 0) (ha2 : a2 = ad 20 0) (ha3 : a3 = ad 22 0) (hW : wd D (wA s.heap.size) (PO cA ad z q) ad H) (hS : va_S (wA s.heap.size) s.heap H []) (hR : RI z q) (hl : lv_has ls 8 [(4, .int x0), (0, .ref b), (1, .ref a1), (2, .ref a2), (3, .ref a3)]) (hcs : cells + 8 ≤ room_1.cells ∧ slots + 50 ≤ room_1.slots)
    (next : ∀ (u : Nat → Nat → Nat) (z' : qC) (q' : qM) (H' : Heap) (locs' : List Loc) (ls' : Array Slot), a1 = u 0 0 → a2 = u 20 0 → a3 = u 22 0 → wd D (wA s.heap.size) (PO cA u z' q') u H' → va_S (wA s.heap.size) s.heap H' locs' → RI z' q' → lv_has ls' 8 [(4, .int x0), (0, .ref b), (1, .ref a1), (2, .ref a2), (3, .ref a3)] → W p l e room_1 s m #[Value.ref b] below meth c H' locs' (cells + 8) (slots + 50) Q (F0 m 1829 ls' [])) :
    W p l e room_1 s m #[Value.ref b] below meth c H [] cells slots Q (F0 m 1213 ls []) := by
  obtain ⟨hx, hb, hml, hown, hts, hK, hKD, hKX, hKN, hlt, hX, hbl⟩ := hC
  refine lv_aload_n hx hb dL_law_1213 rfl (lv_at hl 2 rfl) ?_
  refine sc_ldi (k := 1) (i0 := 1) (i4 := 0) hx hb hX hbl hS hl rfl rfl (hin 1 (by decide) (by decide)) (by decide) dL_law_1214 dL_law_1215 dL_law_1217 dL_law_1218 dL_law_1219 ?_
  refine sc_ldi (k := 2) (i0 := 1) (i4 := 0) hx hb hX hbl hS hl rfl rfl (hin 2 (by decide) (by decide)) (by decide) dL_law_1220 dL_law_1221 dL_law_1223 dL_law_1224 dL_law_1225 ?_
  refine lv_aload_n hx hb dL_law_1226 rfl (lv_at hl 4 rfl) ?_
  refine lw_callW (n := 4) (As := [.ref a1, .int (xs (x0 + 1).toNatClampNeg), .int (xs (x0 + 2).toNatClampNeg), .ref a3]) (rest := []) ⟨hx, hb, hml, hown, hts⟩ (c_L_listed l hlt D s.heap.size cA ad q z (xs (x0 + 1).toNatClampNeg) (xs (x0 + 2).toNatClampNeg) hR.2.2.2) (by rw [ha1, ha3]) gL_law_L_listed rfl (by decide +kernel) rfl ⟨Nat.le_of_ble_eq_true rfl, Nat.le_of_ble_eq_true rfl⟩ hcs hK hW hS hKD hKX hKN (Nat.le_refl _) hl.1 rfl (Nat.le_of_ble_eq_true rfl) dL_law_1227 (fun u H locs hak hW hS => ?_)
  have hb1 : a1 = u 0 0 := ha1.trans (hak 0 0 (by decide) (by decide) (by decide)).symm
  have hb2 : a2 = u 20 0 := ha2.trans (hak 20 0 (by decide) (by decide) (by decide)).symm
  have hb3 : a3 = u 22 0 := ha3.trans (hak 22 0 (by decide) (by decide) (by decide)).symm
  have hfs := fs_listed hR (xs (x0 + 1).toNatClampNeg) (xs (x0 + 2).toNatClampNeg)
  generalize hZ1 : (zL ((m_X7_listed z (xs (x0 + 1).toNatClampNeg) (xs (x0 + 2).toNatClampNeg)).1) (Int32.toInt64 ((m_X7_listed z (xs (x0 + 1).toNatClampNeg) (xs (x0 + 2).toNatClampNeg)).2)) (z) z) = Z1 at hW hfs ⊢
  generalize hK1 : ((m_X7_listed z (xs (x0 + 1).toNatClampNeg) (xs (x0 + 2).toNatClampNeg)).1) = K1 at hfs ⊢
  refine lv_istore (lv' := [(5, .int K1), (4, .int x0), (0, .ref b), (1, .ref a1), (2, .ref a2), (3, .ref a3)]) hx hb dL_law_1230 hl (by decide) rfl (fun ls hl => ?_)
  refine lv_aload_n hx hb dL_law_1232 rfl (lv_at hl 4 rfl) ?_
  refine sc_ldi (k := 1) (i0 := 2) (i4 := 1) hx hb hX hbl hS hl rfl rfl (hin 1 (by decide) (by decide)) (by decide) dL_law_1233 dL_law_1234 dL_law_1236 dL_law_1237 dL_law_1238 ?_
  refine sc_ldi (k := 2) (i0 := 2) (i4 := 1) hx hb hX hbl hS hl rfl rfl (hin 2 (by decide) (by decide)) (by decide) dL_law_1239 dL_law_1240 dL_law_1242 dL_law_1243 dL_law_1244 ?_
  subst hb2
  refine mm_callVi (n := 2) (As := [.int (xs (x0 + 1).toNatClampNeg), .int (xs (x0 + 2).toNatClampNeg)]) (rest := []) ⟨hx, hb, hml, hown, hts⟩ (c_X8_listed l D s.heap.size (PC cA u Z1) cA u q (xs (x0 + 1).toNatClampNeg) (xs (x0 + 2).toNatClampNeg) hR.2.2.1) gL_law_X8_listed rfl (by decide +kernel) rfl ⟨Nat.le_of_ble_eq_true rfl, Nat.le_of_ble_eq_true rfl⟩ ⟨hcs.1, hcs.2⟩ hK hW hS hl.1 rfl (Nat.le_of_ble_eq_true rfl) dL_law_1245 (fun H locs hW hS => ?_)
  refine lv_istore (lv' := [(6, .int (m_X8_listed q (xs (x0 + 1).toNatClampNeg) (xs (x0 + 2).toNatClampNeg)).1), (5, .int K1), (4, .int x0), (0, .ref b), (1, .ref a1), (2, .ref (u 20 0)), (3, .ref a3)]) hx hb dL_law_1248 hl (by decide) rfl (fun ls hl => ?_)
  refine lv_aload_n hx hb dL_law_1250 rfl (lv_at hl 5 rfl) ?_
  refine mm_callVi (n := 0) (As := []) (rest := []) ⟨hx, hb, hml, hown, hts⟩ (c_X8_thrown l D s.heap.size (PC cA u Z1) cA u (m_X8_listed q (xs (x0 + 1).toNatClampNeg) (xs (x0 + 2).toNatClampNeg)).2) gL_law_X8_thrown rfl (by decide +kernel) rfl ⟨Nat.le_of_ble_eq_true rfl, Nat.le_of_ble_eq_true rfl⟩ ⟨hcs.1, hcs.2⟩ hK hW hS hl.1 rfl (Nat.le_of_ble_eq_true rfl) dL_law_1251 (fun H locs hW hS => ?_)
  refine lv_iload hx hb dL_law_1254 (lv_at hl 1 rfl) ?_
  refine lv_icmp_eq (tgt := 1261) hx hb dL_law_1256 (by decide) (fun _ => ?_) (fun h => absurd (hfs.1) h)
  refine lv_iload hx hb dL_law_1261 (lv_at hl 1 rfl) ?_
  refine lv_if_ne (tgt := 1278) hx hb dL_law_1263 (by decide) (fun hk => ?_) (fun hk => ?_)
  · refine lv_goto (tgt := 1829) hx hb dL_law_1278 (by decide) ?_
    exact next u Z1 (m_X8_listed q (xs (x0 + 1).toNatClampNeg) (xs (x0 + 2).toNatClampNeg)).2 H locs ls hb1 rfl hb3 hW hS hfs.2.1 (lv_sub hl [2, 3, 4, 5, 6] rfl)
  · have hk0 : K1 = 0 := hk
    refine lv_aload_n hx hb dL_law_1266 rfl (lv_at hl 6 rfl) ?_
    refine lv_iconst (v := 0) hx hb dL_law_1267 (by decide) ?_
    refine lw_lald hb3 hx hb hK hW (hfs.2.2 hk0) dL_law_1268 ?_
    refine lv_iload hx hb dL_law_1269 (lv_at hl 0 rfl) ?_
    refine lv_i2l hx hb dL_law_1271 rfl ?_
    refine W.lcmp hx hb dL_law_1272 ?_
    refine lv_if_eq (tgt := 1278) hx hb dL_law_1273 (by decide) (fun _ => ?_) (fun h => absurd (lg_self _) h)
    refine lv_goto (tgt := 1829) hx hb dL_law_1278 (by decide) ?_
    exact next u Z1 (m_X8_listed q (xs (x0 + 1).toNatClampNeg) (xs (x0 + 2).toNatClampNeg)).2 H locs ls hb1 rfl hb3 hW hS hfs.2.1 (lv_sub hl [2, 3, 4, 5, 6] rfl)
set_option maxHeartbeats 4000000 in
set_option maxRecDepth 100000 in
theorem ca_approve {p : Program} {l : Launch} {e : Env} {s : State} {m : MethodId} {below : List Frame} {meth : Method} {c : Code} {Q : State → Prop} {b L : Nat} {xs : Nat → Int32} {D : va_G} {cA : Nat → ClassId} (hC : LX p l s m c b L xs D cA) {H : Heap} {cells slots : Nat} {ls : Array Slot} {ad : Nat → Nat → Nat} {z : qC} {q : qM} {a1 a2 a3 : Nat} {x0 : Int32} (hin : ∀ k : Int32, 0 ≤ k.toInt → k.toInt ≤ 8 → vp_in (x0 + k) L) (ha1 : a1 = ad 0 0) (ha2 : a2 = ad 20 0) (ha3 : a3 = ad 22 0) (hW : wd D (wA s.heap.size) (PO cA ad z q) ad H) (hS : va_S (wA s.heap.size) s.heap H []) (hR : RI z q) (hl : lv_has ls 8 [(4, .int x0), (0, .ref b), (1, .ref a1), (2, .ref a2), (3, .ref a3)]) (hcs : cells + 8 ≤ room_1.cells ∧ slots + 50 ≤ room_1.slots)
    (next : ∀ (u : Nat → Nat → Nat) (z' : qC) (q' : qM) (H' : Heap) (locs' : List Loc) (ls' : Array Slot), a1 = u 0 0 → a2 = u 20 0 → a3 = u 22 0 → wd D (wA s.heap.size) (PO cA u z' q') u H' → va_S (wA s.heap.size) s.heap H' locs' → RI z' q' → lv_has ls' 8 [(4, .int x0), (0, .ref b), (1, .ref a1), (2, .ref a2), (3, .ref a3)] → W p l e room_1 s m #[Value.ref b] below meth c H' locs' (cells + 8) (slots + 50) Q (F0 m 1829 ls' [])) :
    W p l e room_1 s m #[Value.ref b] below meth c H [] cells slots Q (F0 m 1281 ls []) := by
  obtain ⟨hx, hb, hml, hown, hts, hK, hKD, hKX, hKN, hlt, hX, hbl⟩ := hC
  refine lv_aload_n hx hb dL_law_1281 rfl (lv_at hl 2 rfl) ?_
  refine sc_ldi (k := 1) (i0 := 1) (i4 := 0) hx hb hX hbl hS hl rfl rfl (hin 1 (by decide) (by decide)) (by decide) dL_law_1282 dL_law_1283 dL_law_1285 dL_law_1286 dL_law_1287 ?_
  refine sc_ldi (k := 2) (i0 := 1) (i4 := 0) hx hb hX hbl hS hl rfl rfl (hin 2 (by decide) (by decide)) (by decide) dL_law_1288 dL_law_1289 dL_law_1291 dL_law_1292 dL_law_1293 ?_
  refine lv_aload_n hx hb dL_law_1294 rfl (lv_at hl 4 rfl) ?_
  refine lw_callW (n := 4) (As := [.ref a1, .int (xs (x0 + 1).toNatClampNeg), .int (xs (x0 + 2).toNatClampNeg), .ref a3]) (rest := []) ⟨hx, hb, hml, hown, hts⟩ (c_L_approve l hlt D s.heap.size cA ad q z (xs (x0 + 1).toNatClampNeg) (xs (x0 + 2).toNatClampNeg) hR.2.2.2) (by rw [ha1, ha3]) gL_law_L_approve rfl (by decide +kernel) rfl ⟨Nat.le_of_ble_eq_true rfl, Nat.le_of_ble_eq_true rfl⟩ hcs hK hW hS hKD hKX hKN (Nat.le_refl _) hl.1 rfl (Nat.le_of_ble_eq_true rfl) dL_law_1295 (fun u H locs hak hW hS => ?_)
  have hb1 : a1 = u 0 0 := ha1.trans (hak 0 0 (by decide) (by decide) (by decide)).symm
  have hb2 : a2 = u 20 0 := ha2.trans (hak 20 0 (by decide) (by decide) (by decide)).symm
  have hb3 : a3 = u 22 0 := ha3.trans (hak 22 0 (by decide) (by decide) (by decide)).symm
  have hfs := fs_approve hR (xs (x0 + 1).toNatClampNeg) (xs (x0 + 2).toNatClampNeg)
  generalize hZ1 : (zL ((m_X7_approve z (xs (x0 + 1).toNatClampNeg) (xs (x0 + 2).toNatClampNeg)).1) (Int32.toInt64 ((m_X7_approve z (xs (x0 + 1).toNatClampNeg) (xs (x0 + 2).toNatClampNeg)).2.1)) ((m_X7_approve z (xs (x0 + 1).toNatClampNeg) (xs (x0 + 2).toNatClampNeg)).2.2) z) = Z1 at hW hfs ⊢
  generalize hK1 : (wkO (m_X7_approve z (xs (x0 + 1).toNatClampNeg) (xs (x0 + 2).toNatClampNeg)).1) = K1 at hfs ⊢
  refine lv_istore (lv' := [(5, .int K1), (4, .int x0), (0, .ref b), (1, .ref a1), (2, .ref a2), (3, .ref a3)]) hx hb dL_law_1298 hl (by decide) rfl (fun ls hl => ?_)
  refine lv_aload_n hx hb dL_law_1300 rfl (lv_at hl 4 rfl) ?_
  refine sc_ldi (k := 1) (i0 := 2) (i4 := 1) hx hb hX hbl hS hl rfl rfl (hin 1 (by decide) (by decide)) (by decide) dL_law_1301 dL_law_1302 dL_law_1304 dL_law_1305 dL_law_1306 ?_
  refine sc_ldi (k := 2) (i0 := 2) (i4 := 1) hx hb hX hbl hS hl rfl rfl (hin 2 (by decide) (by decide)) (by decide) dL_law_1307 dL_law_1308 dL_law_1310 dL_law_1311 dL_law_1312 ?_
  subst hb2
  refine mm_callVi (n := 2) (As := [.int (xs (x0 + 1).toNatClampNeg), .int (xs (x0 + 2).toNatClampNeg)]) (rest := []) ⟨hx, hb, hml, hown, hts⟩ (c_X8_approve l D s.heap.size (PC cA u Z1) cA u q (xs (x0 + 1).toNatClampNeg) (xs (x0 + 2).toNatClampNeg) hR.2.1 hR.2.2.1) gL_law_X8_approve rfl (by decide +kernel) rfl ⟨Nat.le_of_ble_eq_true rfl, Nat.le_of_ble_eq_true rfl⟩ ⟨hcs.1, hcs.2⟩ hK hW hS hl.1 rfl (Nat.le_of_ble_eq_true rfl) dL_law_1313 (fun H locs hW hS => ?_)
  refine lv_istore (lv' := [(6, .int (m_X8_approve q (xs (x0 + 1).toNatClampNeg) (xs (x0 + 2).toNatClampNeg)).1), (5, .int K1), (4, .int x0), (0, .ref b), (1, .ref a1), (2, .ref (u 20 0)), (3, .ref a3)]) hx hb dL_law_1316 hl (by decide) rfl (fun ls hl => ?_)
  refine lv_aload_n hx hb dL_law_1318 rfl (lv_at hl 5 rfl) ?_
  refine mm_callVi (n := 0) (As := []) (rest := []) ⟨hx, hb, hml, hown, hts⟩ (c_X8_thrown l D s.heap.size (PC cA u Z1) cA u (m_X8_approve q (xs (x0 + 1).toNatClampNeg) (xs (x0 + 2).toNatClampNeg)).2) gL_law_X8_thrown rfl (by decide +kernel) rfl ⟨Nat.le_of_ble_eq_true rfl, Nat.le_of_ble_eq_true rfl⟩ ⟨hcs.1, hcs.2⟩ hK hW hS hl.1 rfl (Nat.le_of_ble_eq_true rfl) dL_law_1319 (fun H locs hW hS => ?_)
  refine lv_iload hx hb dL_law_1322 (lv_at hl 1 rfl) ?_
  refine lv_icmp_eq (tgt := 1329) hx hb dL_law_1324 (by decide) (fun _ => ?_) (fun h => absurd (hfs.1) h)
  refine lv_iload hx hb dL_law_1329 (lv_at hl 1 rfl) ?_
  refine lv_if_ne (tgt := 1346) hx hb dL_law_1331 (by decide) (fun hk => ?_) (fun hk => ?_)
  · refine lv_goto (tgt := 1829) hx hb dL_law_1346 (by decide) ?_
    exact next u Z1 (m_X8_approve q (xs (x0 + 1).toNatClampNeg) (xs (x0 + 2).toNatClampNeg)).2 H locs ls hb1 rfl hb3 hW hS hfs.2.1 (lv_sub hl [2, 3, 4, 5, 6] rfl)
  · have hk0 : K1 = 0 := hk
    refine lv_aload_n hx hb dL_law_1334 rfl (lv_at hl 6 rfl) ?_
    refine lv_iconst (v := 0) hx hb dL_law_1335 (by decide) ?_
    refine lw_lald hb3 hx hb hK hW (hfs.2.2 hk0) dL_law_1336 ?_
    refine lv_iload hx hb dL_law_1337 (lv_at hl 0 rfl) ?_
    refine lv_i2l hx hb dL_law_1339 rfl ?_
    refine W.lcmp hx hb dL_law_1340 ?_
    refine lv_if_eq (tgt := 1346) hx hb dL_law_1341 (by decide) (fun _ => ?_) (fun h => absurd (lg_self _) h)
    refine lv_goto (tgt := 1829) hx hb dL_law_1346 (by decide) ?_
    exact next u Z1 (m_X8_approve q (xs (x0 + 1).toNatClampNeg) (xs (x0 + 2).toNatClampNeg)).2 H locs ls hb1 rfl hb3 hW hS hfs.2.1 (lv_sub hl [2, 3, 4, 5, 6] rfl)
set_option maxHeartbeats 4000000 in
set_option maxRecDepth 100000 in
theorem ca_strike {p : Program} {l : Launch} {e : Env} {s : State} {m : MethodId} {below : List Frame} {meth : Method} {c : Code} {Q : State → Prop} {b L : Nat} {xs : Nat → Int32} {D : va_G} {cA : Nat → ClassId} (hC : LX p l s m c b L xs D cA) {H : Heap} {cells slots : Nat} {ls : Array Slot} {ad : Nat → Nat → Nat} {z : qC} {q : qM} {a1 a2 a3 : Nat} {x0 : Int32} (hin : ∀ k : Int32, 0 ≤ k.toInt → k.toInt ≤ 8 → vp_in (x0 + k) L) (ha1 : a1 = ad 0 0) (ha2 : a2 = ad 20 0) (ha3 : a3 = ad 22 0) (hW : wd D (wA s.heap.size) (PO cA ad z q) ad H) (hS : va_S (wA s.heap.size) s.heap H []) (hR : RI z q) (hl : lv_has ls 8 [(4, .int x0), (0, .ref b), (1, .ref a1), (2, .ref a2), (3, .ref a3)]) (hcs : cells + 8 ≤ room_1.cells ∧ slots + 50 ≤ room_1.slots)
    (next : ∀ (u : Nat → Nat → Nat) (z' : qC) (q' : qM) (H' : Heap) (locs' : List Loc) (ls' : Array Slot), a1 = u 0 0 → a2 = u 20 0 → a3 = u 22 0 → wd D (wA s.heap.size) (PO cA u z' q') u H' → va_S (wA s.heap.size) s.heap H' locs' → RI z' q' → lv_has ls' 8 [(4, .int x0), (0, .ref b), (1, .ref a1), (2, .ref a2), (3, .ref a3)] → W p l e room_1 s m #[Value.ref b] below meth c H' locs' (cells + 8) (slots + 50) Q (F0 m 1829 ls' [])) :
    W p l e room_1 s m #[Value.ref b] below meth c H [] cells slots Q (F0 m 1349 ls []) := by
  obtain ⟨hx, hb, hml, hown, hts, hK, hKD, hKX, hKN, hlt, hX, hbl⟩ := hC
  refine lv_aload_n hx hb dL_law_1349 rfl (lv_at hl 2 rfl) ?_
  refine sc_ldi (k := 1) (i0 := 1) (i4 := 0) hx hb hX hbl hS hl rfl rfl (hin 1 (by decide) (by decide)) (by decide) dL_law_1350 dL_law_1351 dL_law_1353 dL_law_1354 dL_law_1355 ?_
  refine sc_ldi (k := 2) (i0 := 1) (i4 := 0) hx hb hX hbl hS hl rfl rfl (hin 2 (by decide) (by decide)) (by decide) dL_law_1356 dL_law_1357 dL_law_1359 dL_law_1360 dL_law_1361 ?_
  refine lv_aload_n hx hb dL_law_1362 rfl (lv_at hl 4 rfl) ?_
  refine lw_callW (n := 4) (As := [.ref a1, .int (xs (x0 + 1).toNatClampNeg), .int (xs (x0 + 2).toNatClampNeg), .ref a3]) (rest := []) ⟨hx, hb, hml, hown, hts⟩ (c_L_strike l hlt D s.heap.size cA ad q z (xs (x0 + 1).toNatClampNeg) (xs (x0 + 2).toNatClampNeg) hR.2.2.2) (by rw [ha1, ha3]) gL_law_L_strike rfl (by decide +kernel) rfl ⟨Nat.le_of_ble_eq_true rfl, Nat.le_of_ble_eq_true rfl⟩ hcs hK hW hS hKD hKX hKN (Nat.le_refl _) hl.1 rfl (Nat.le_of_ble_eq_true rfl) dL_law_1363 (fun u H locs hak hW hS => ?_)
  have hb1 : a1 = u 0 0 := ha1.trans (hak 0 0 (by decide) (by decide) (by decide)).symm
  have hb2 : a2 = u 20 0 := ha2.trans (hak 20 0 (by decide) (by decide) (by decide)).symm
  have hb3 : a3 = u 22 0 := ha3.trans (hak 22 0 (by decide) (by decide) (by decide)).symm
  have hfs := fs_strike hR (xs (x0 + 1).toNatClampNeg) (xs (x0 + 2).toNatClampNeg)
  generalize hZ1 : (zL ((m_X7_strike z (xs (x0 + 1).toNatClampNeg) (xs (x0 + 2).toNatClampNeg)).1) (Int32.toInt64 ((m_X7_strike z (xs (x0 + 1).toNatClampNeg) (xs (x0 + 2).toNatClampNeg)).2.1)) ((m_X7_strike z (xs (x0 + 1).toNatClampNeg) (xs (x0 + 2).toNatClampNeg)).2.2) z) = Z1 at hW hfs ⊢
  generalize hK1 : (wkO (m_X7_strike z (xs (x0 + 1).toNatClampNeg) (xs (x0 + 2).toNatClampNeg)).1) = K1 at hfs ⊢
  refine lv_istore (lv' := [(5, .int K1), (4, .int x0), (0, .ref b), (1, .ref a1), (2, .ref a2), (3, .ref a3)]) hx hb dL_law_1366 hl (by decide) rfl (fun ls hl => ?_)
  refine lv_aload_n hx hb dL_law_1368 rfl (lv_at hl 4 rfl) ?_
  refine sc_ldi (k := 1) (i0 := 2) (i4 := 1) hx hb hX hbl hS hl rfl rfl (hin 1 (by decide) (by decide)) (by decide) dL_law_1369 dL_law_1370 dL_law_1372 dL_law_1373 dL_law_1374 ?_
  refine sc_ldi (k := 2) (i0 := 2) (i4 := 1) hx hb hX hbl hS hl rfl rfl (hin 2 (by decide) (by decide)) (by decide) dL_law_1375 dL_law_1376 dL_law_1378 dL_law_1379 dL_law_1380 ?_
  subst hb2
  refine mm_callVi (n := 2) (As := [.int (xs (x0 + 1).toNatClampNeg), .int (xs (x0 + 2).toNatClampNeg)]) (rest := []) ⟨hx, hb, hml, hown, hts⟩ (c_X8_strike l D s.heap.size (PC cA u Z1) cA u q (xs (x0 + 1).toNatClampNeg) (xs (x0 + 2).toNatClampNeg) hR.2.1 hR.2.2.1) gL_law_X8_strike rfl (by decide +kernel) rfl ⟨Nat.le_of_ble_eq_true rfl, Nat.le_of_ble_eq_true rfl⟩ ⟨hcs.1, hcs.2⟩ hK hW hS hl.1 rfl (Nat.le_of_ble_eq_true rfl) dL_law_1381 (fun H locs hW hS => ?_)
  refine lv_istore (lv' := [(6, .int (m_X8_strike q (xs (x0 + 1).toNatClampNeg) (xs (x0 + 2).toNatClampNeg)).1), (5, .int K1), (4, .int x0), (0, .ref b), (1, .ref a1), (2, .ref (u 20 0)), (3, .ref a3)]) hx hb dL_law_1384 hl (by decide) rfl (fun ls hl => ?_)
  refine lv_aload_n hx hb dL_law_1386 rfl (lv_at hl 5 rfl) ?_
  refine mm_callVi (n := 0) (As := []) (rest := []) ⟨hx, hb, hml, hown, hts⟩ (c_X8_thrown l D s.heap.size (PC cA u Z1) cA u (m_X8_strike q (xs (x0 + 1).toNatClampNeg) (xs (x0 + 2).toNatClampNeg)).2) gL_law_X8_thrown rfl (by decide +kernel) rfl ⟨Nat.le_of_ble_eq_true rfl, Nat.le_of_ble_eq_true rfl⟩ ⟨hcs.1, hcs.2⟩ hK hW hS hl.1 rfl (Nat.le_of_ble_eq_true rfl) dL_law_1387 (fun H locs hW hS => ?_)
  refine lv_iload hx hb dL_law_1390 (lv_at hl 1 rfl) ?_
  refine lv_icmp_eq (tgt := 1397) hx hb dL_law_1392 (by decide) (fun _ => ?_) (fun h => absurd (hfs.1) h)
  refine lv_iload hx hb dL_law_1397 (lv_at hl 1 rfl) ?_
  refine lv_if_ne (tgt := 1414) hx hb dL_law_1399 (by decide) (fun hk => ?_) (fun hk => ?_)
  · refine lv_goto (tgt := 1829) hx hb dL_law_1414 (by decide) ?_
    exact next u Z1 (m_X8_strike q (xs (x0 + 1).toNatClampNeg) (xs (x0 + 2).toNatClampNeg)).2 H locs ls hb1 rfl hb3 hW hS hfs.2.1 (lv_sub hl [2, 3, 4, 5, 6] rfl)
  · have hk0 : K1 = 0 := hk
    refine lv_aload_n hx hb dL_law_1402 rfl (lv_at hl 6 rfl) ?_
    refine lv_iconst (v := 0) hx hb dL_law_1403 (by decide) ?_
    refine lw_lald hb3 hx hb hK hW (hfs.2.2 hk0) dL_law_1404 ?_
    refine lv_iload hx hb dL_law_1405 (lv_at hl 0 rfl) ?_
    refine lv_i2l hx hb dL_law_1407 rfl ?_
    refine W.lcmp hx hb dL_law_1408 ?_
    refine lv_if_eq (tgt := 1414) hx hb dL_law_1409 (by decide) (fun _ => ?_) (fun h => absurd (lg_self _) h)
    refine lv_goto (tgt := 1829) hx hb dL_law_1414 (by decide) ?_
    exact next u Z1 (m_X8_strike q (xs (x0 + 1).toNatClampNeg) (xs (x0 + 2).toNatClampNeg)).2 H locs ls hb1 rfl hb3 hW hS hfs.2.1 (lv_sub hl [2, 3, 4, 5, 6] rfl)
set_option maxHeartbeats 4000000 in
set_option maxRecDepth 100000 in
theorem ca_carry {p : Program} {l : Launch} {e : Env} {s : State} {m : MethodId} {below : List Frame} {meth : Method} {c : Code} {Q : State → Prop} {b L : Nat} {xs : Nat → Int32} {D : va_G} {cA : Nat → ClassId} (hC : LX p l s m c b L xs D cA) {H : Heap} {cells slots : Nat} {ls : Array Slot} {ad : Nat → Nat → Nat} {z : qC} {q : qM} {a1 a2 a3 : Nat} {x0 : Int32} (hin : ∀ k : Int32, 0 ≤ k.toInt → k.toInt ≤ 8 → vp_in (x0 + k) L) (ha1 : a1 = ad 0 0) (ha2 : a2 = ad 20 0) (ha3 : a3 = ad 22 0) (hW : wd D (wA s.heap.size) (PO cA ad z q) ad H) (hS : va_S (wA s.heap.size) s.heap H []) (hR : RI z q) (hl : lv_has ls 8 [(4, .int x0), (0, .ref b), (1, .ref a1), (2, .ref a2), (3, .ref a3)]) (hcs : cells + 8 ≤ room_1.cells ∧ slots + 50 ≤ room_1.slots)
    (next : ∀ (u : Nat → Nat → Nat) (z' : qC) (q' : qM) (H' : Heap) (locs' : List Loc) (ls' : Array Slot), a1 = u 0 0 → a2 = u 20 0 → a3 = u 22 0 → wd D (wA s.heap.size) (PO cA u z' q') u H' → va_S (wA s.heap.size) s.heap H' locs' → RI z' q' → lv_has ls' 8 [(4, .int x0), (0, .ref b), (1, .ref a1), (2, .ref a2), (3, .ref a3)] → W p l e room_1 s m #[Value.ref b] below meth c H' locs' (cells + 8) (slots + 50) Q (F0 m 1829 ls' [])) :
    W p l e room_1 s m #[Value.ref b] below meth c H [] cells slots Q (F0 m 1417 ls []) := by
  obtain ⟨hx, hb, hml, hown, hts, hK, hKD, hKX, hKN, hlt, hX, hbl⟩ := hC
  refine lv_aload_n hx hb dL_law_1417 rfl (lv_at hl 2 rfl) ?_
  refine sc_ldi (k := 1) (i0 := 1) (i4 := 0) hx hb hX hbl hS hl rfl rfl (hin 1 (by decide) (by decide)) (by decide) dL_law_1418 dL_law_1419 dL_law_1421 dL_law_1422 dL_law_1423 ?_
  refine sc_ldi (k := 2) (i0 := 1) (i4 := 0) hx hb hX hbl hS hl rfl rfl (hin 2 (by decide) (by decide)) (by decide) dL_law_1424 dL_law_1425 dL_law_1427 dL_law_1428 dL_law_1429 ?_
  refine sc_ldi (k := 3) (i0 := 1) (i4 := 0) hx hb hX hbl hS hl rfl rfl (hin 3 (by decide) (by decide)) (by decide) dL_law_1430 dL_law_1431 dL_law_1433 dL_law_1434 dL_law_1435 ?_
  refine lv_aload_n hx hb dL_law_1436 rfl (lv_at hl 4 rfl) ?_
  refine lw_callW (n := 5) (As := [.ref a1, .int (xs (x0 + 1).toNatClampNeg), .int (xs (x0 + 2).toNatClampNeg), .int (xs (x0 + 3).toNatClampNeg), .ref a3]) (rest := []) ⟨hx, hb, hml, hown, hts⟩ (c_L_carry l hlt D s.heap.size cA ad q z (xs (x0 + 1).toNatClampNeg) (xs (x0 + 2).toNatClampNeg) (xs (x0 + 3).toNatClampNeg) hR.2.2.2) (by rw [ha1, ha3]) gL_law_L_carry rfl (by decide +kernel) rfl ⟨Nat.le_of_ble_eq_true rfl, Nat.le_of_ble_eq_true rfl⟩ hcs hK hW hS hKD hKX hKN (Nat.le_refl _) hl.1 rfl (Nat.le_of_ble_eq_true rfl) dL_law_1437 (fun u H locs hak hW hS => ?_)
  have hb1 : a1 = u 0 0 := ha1.trans (hak 0 0 (by decide) (by decide) (by decide)).symm
  have hb2 : a2 = u 20 0 := ha2.trans (hak 20 0 (by decide) (by decide) (by decide)).symm
  have hb3 : a3 = u 22 0 := ha3.trans (hak 22 0 (by decide) (by decide) (by decide)).symm
  have hfs := fs_carry hR (xs (x0 + 1).toNatClampNeg) (xs (x0 + 2).toNatClampNeg) (xs (x0 + 3).toNatClampNeg)
  generalize hZ1 : (zL ((m_X7_carry z (xs (x0 + 1).toNatClampNeg) (xs (x0 + 2).toNatClampNeg) (xs (x0 + 3).toNatClampNeg)).1) (Int32.toInt64 ((m_X7_carry z (xs (x0 + 1).toNatClampNeg) (xs (x0 + 2).toNatClampNeg) (xs (x0 + 3).toNatClampNeg)).2.1)) ((m_X7_carry z (xs (x0 + 1).toNatClampNeg) (xs (x0 + 2).toNatClampNeg) (xs (x0 + 3).toNatClampNeg)).2.2) z) = Z1 at hW hfs ⊢
  generalize hK1 : ((m_X7_carry z (xs (x0 + 1).toNatClampNeg) (xs (x0 + 2).toNatClampNeg) (xs (x0 + 3).toNatClampNeg)).1) = K1 at hfs ⊢
  refine lv_istore (lv' := [(5, .int K1), (4, .int x0), (0, .ref b), (1, .ref a1), (2, .ref a2), (3, .ref a3)]) hx hb dL_law_1440 hl (by decide) rfl (fun ls hl => ?_)
  refine lv_aload_n hx hb dL_law_1442 rfl (lv_at hl 4 rfl) ?_
  refine sc_ldi (k := 1) (i0 := 2) (i4 := 1) hx hb hX hbl hS hl rfl rfl (hin 1 (by decide) (by decide)) (by decide) dL_law_1443 dL_law_1444 dL_law_1446 dL_law_1447 dL_law_1448 ?_
  refine sc_ldi (k := 2) (i0 := 2) (i4 := 1) hx hb hX hbl hS hl rfl rfl (hin 2 (by decide) (by decide)) (by decide) dL_law_1449 dL_law_1450 dL_law_1452 dL_law_1453 dL_law_1454 ?_
  refine sc_ldi (k := 3) (i0 := 2) (i4 := 1) hx hb hX hbl hS hl rfl rfl (hin 3 (by decide) (by decide)) (by decide) dL_law_1455 dL_law_1456 dL_law_1458 dL_law_1459 dL_law_1460 ?_
  subst hb2
  refine mm_callVi (n := 3) (As := [.int (xs (x0 + 1).toNatClampNeg), .int (xs (x0 + 2).toNatClampNeg), .int (xs (x0 + 3).toNatClampNeg)]) (rest := []) ⟨hx, hb, hml, hown, hts⟩ (c_X8_carry l D s.heap.size (PC cA u Z1) cA u q (xs (x0 + 1).toNatClampNeg) (xs (x0 + 2).toNatClampNeg) (xs (x0 + 3).toNatClampNeg) hR.2.1 hR.2.2.1) gL_law_X8_carry rfl (by decide +kernel) rfl ⟨Nat.le_of_ble_eq_true rfl, Nat.le_of_ble_eq_true rfl⟩ ⟨hcs.1, hcs.2⟩ hK hW hS hl.1 rfl (Nat.le_of_ble_eq_true rfl) dL_law_1461 (fun H locs hW hS => ?_)
  refine lv_istore (lv' := [(6, .int (m_X8_carry q (xs (x0 + 1).toNatClampNeg) (xs (x0 + 2).toNatClampNeg) (xs (x0 + 3).toNatClampNeg)).1), (5, .int K1), (4, .int x0), (0, .ref b), (1, .ref a1), (2, .ref (u 20 0)), (3, .ref a3)]) hx hb dL_law_1464 hl (by decide) rfl (fun ls hl => ?_)
  refine lv_aload_n hx hb dL_law_1466 rfl (lv_at hl 5 rfl) ?_
  refine mm_callVi (n := 0) (As := []) (rest := []) ⟨hx, hb, hml, hown, hts⟩ (c_X8_thrown l D s.heap.size (PC cA u Z1) cA u (m_X8_carry q (xs (x0 + 1).toNatClampNeg) (xs (x0 + 2).toNatClampNeg) (xs (x0 + 3).toNatClampNeg)).2) gL_law_X8_thrown rfl (by decide +kernel) rfl ⟨Nat.le_of_ble_eq_true rfl, Nat.le_of_ble_eq_true rfl⟩ ⟨hcs.1, hcs.2⟩ hK hW hS hl.1 rfl (Nat.le_of_ble_eq_true rfl) dL_law_1467 (fun H locs hW hS => ?_)
  refine lv_iload hx hb dL_law_1470 (lv_at hl 1 rfl) ?_
  refine lv_icmp_eq (tgt := 1477) hx hb dL_law_1472 (by decide) (fun _ => ?_) (fun h => absurd (hfs.1) h)
  refine lv_iload hx hb dL_law_1477 (lv_at hl 1 rfl) ?_
  refine lv_if_ne (tgt := 1494) hx hb dL_law_1479 (by decide) (fun hk => ?_) (fun hk => ?_)
  · refine lv_goto (tgt := 1829) hx hb dL_law_1494 (by decide) ?_
    exact next u Z1 (m_X8_carry q (xs (x0 + 1).toNatClampNeg) (xs (x0 + 2).toNatClampNeg) (xs (x0 + 3).toNatClampNeg)).2 H locs ls hb1 rfl hb3 hW hS hfs.2.1 (lv_sub hl [2, 3, 4, 5, 6] rfl)
  · have hk0 : K1 = 0 := hk
    refine lv_aload_n hx hb dL_law_1482 rfl (lv_at hl 6 rfl) ?_
    refine lv_iconst (v := 0) hx hb dL_law_1483 (by decide) ?_
    refine lw_lald hb3 hx hb hK hW (hfs.2.2 hk0) dL_law_1484 ?_
    refine lv_iload hx hb dL_law_1485 (lv_at hl 0 rfl) ?_
    refine lv_i2l hx hb dL_law_1487 rfl ?_
    refine W.lcmp hx hb dL_law_1488 ?_
    refine lv_if_eq (tgt := 1494) hx hb dL_law_1489 (by decide) (fun _ => ?_) (fun h => absurd (lg_self _) h)
    refine lv_goto (tgt := 1829) hx hb dL_law_1494 (by decide) ?_
    exact next u Z1 (m_X8_carry q (xs (x0 + 1).toNatClampNeg) (xs (x0 + 2).toNatClampNeg) (xs (x0 + 3).toNatClampNeg)).2 H locs ls hb1 rfl hb3 hW hS hfs.2.1 (lv_sub hl [2, 3, 4, 5, 6] rfl)
set_option maxHeartbeats 4000000 in
set_option maxRecDepth 100000 in
theorem ca_count {p : Program} {l : Launch} {e : Env} {s : State} {m : MethodId} {below : List Frame} {meth : Method} {c : Code} {Q : State → Prop} {b L : Nat} {xs : Nat → Int32} {D : va_G} {cA : Nat → ClassId} (hC : LX p l s m c b L xs D cA) {H : Heap} {cells slots : Nat} {ls : Array Slot} {ad : Nat → Nat → Nat} {z : qC} {q : qM} {a1 a2 a3 : Nat} {x0 : Int32} (hin : ∀ k : Int32, 0 ≤ k.toInt → k.toInt ≤ 8 → vp_in (x0 + k) L) (ha1 : a1 = ad 0 0) (ha2 : a2 = ad 20 0) (ha3 : a3 = ad 22 0) (hW : wd D (wA s.heap.size) (PO cA ad z q) ad H) (hS : va_S (wA s.heap.size) s.heap H []) (hR : RI z q) (hl : lv_has ls 8 [(4, .int x0), (0, .ref b), (1, .ref a1), (2, .ref a2), (3, .ref a3)]) (hcs : cells + 8 ≤ room_1.cells ∧ slots + 50 ≤ room_1.slots)
    (next : ∀ (u : Nat → Nat → Nat) (z' : qC) (q' : qM) (H' : Heap) (locs' : List Loc) (ls' : Array Slot), a1 = u 0 0 → a2 = u 20 0 → a3 = u 22 0 → wd D (wA s.heap.size) (PO cA u z' q') u H' → va_S (wA s.heap.size) s.heap H' locs' → RI z' q' → lv_has ls' 8 [(4, .int x0), (0, .ref b), (1, .ref a1), (2, .ref a2), (3, .ref a3)] → W p l e room_1 s m #[Value.ref b] below meth c H' locs' (cells + 8) (slots + 50) Q (F0 m 1829 ls' [])) :
    W p l e room_1 s m #[Value.ref b] below meth c H [] cells slots Q (F0 m 1497 ls []) := by
  obtain ⟨hx, hb, hml, hown, hts, hK, hKD, hKX, hKN, hlt, hX, hbl⟩ := hC
  refine lv_aload_n hx hb dL_law_1497 rfl (lv_at hl 2 rfl) ?_
  refine sc_ldi (k := 1) (i0 := 1) (i4 := 0) hx hb hX hbl hS hl rfl rfl (hin 1 (by decide) (by decide)) (by decide) dL_law_1498 dL_law_1499 dL_law_1501 dL_law_1502 dL_law_1503 ?_
  refine lv_aload_n hx hb dL_law_1504 rfl (lv_at hl 4 rfl) ?_
  refine lw_callW (n := 3) (As := [.ref a1, .int (xs (x0 + 1).toNatClampNeg), .ref a3]) (rest := []) ⟨hx, hb, hml, hown, hts⟩ (c_L_count l hlt D s.heap.size cA ad q z (xs (x0 + 1).toNatClampNeg) hR.2.2.2) (by rw [ha1, ha3]) gL_law_L_count rfl (by decide +kernel) rfl ⟨Nat.le_of_ble_eq_true rfl, Nat.le_of_ble_eq_true rfl⟩ hcs hK hW hS hKD hKX hKN (Nat.le_refl _) hl.1 rfl (Nat.le_of_ble_eq_true rfl) dL_law_1505 (fun u H locs hak hW hS => ?_)
  have hb1 : a1 = u 0 0 := ha1.trans (hak 0 0 (by decide) (by decide) (by decide)).symm
  have hb2 : a2 = u 20 0 := ha2.trans (hak 20 0 (by decide) (by decide) (by decide)).symm
  have hb3 : a3 = u 22 0 := ha3.trans (hak 22 0 (by decide) (by decide) (by decide)).symm
  have hfs := fs_count hR (xs (x0 + 1).toNatClampNeg)
  generalize hZ1 : (zL ((m_X7_count z (xs (x0 + 1).toNatClampNeg)).1) (Int32.toInt64 ((m_X7_count z (xs (x0 + 1).toNatClampNeg)).2)) (z) z) = Z1 at hW hfs ⊢
  generalize hK1 : (wkT (m_X7_count z (xs (x0 + 1).toNatClampNeg)).1) = K1 at hfs ⊢
  refine lv_istore (lv' := [(5, .int K1), (4, .int x0), (0, .ref b), (1, .ref a1), (2, .ref a2), (3, .ref a3)]) hx hb dL_law_1508 hl (by decide) rfl (fun ls hl => ?_)
  refine lv_aload_n hx hb dL_law_1510 rfl (lv_at hl 4 rfl) ?_
  refine sc_ldi (k := 1) (i0 := 2) (i4 := 1) hx hb hX hbl hS hl rfl rfl (hin 1 (by decide) (by decide)) (by decide) dL_law_1511 dL_law_1512 dL_law_1514 dL_law_1515 dL_law_1516 ?_
  subst hb2
  refine mm_callVi (n := 1) (As := [.int (xs (x0 + 1).toNatClampNeg)]) (rest := []) ⟨hx, hb, hml, hown, hts⟩ (c_X8_count l D s.heap.size (PC cA u Z1) cA u q (xs (x0 + 1).toNatClampNeg) hR.2.1) gL_law_X8_count rfl (by decide +kernel) rfl ⟨Nat.le_of_ble_eq_true rfl, Nat.le_of_ble_eq_true rfl⟩ ⟨hcs.1, hcs.2⟩ hK hW hS hl.1 rfl (Nat.le_of_ble_eq_true rfl) dL_law_1517 (fun H locs hW hS => ?_)
  refine lv_istore (lv' := [(6, .int (m_X8_count q (xs (x0 + 1).toNatClampNeg)).1), (5, .int K1), (4, .int x0), (0, .ref b), (1, .ref a1), (2, .ref (u 20 0)), (3, .ref a3)]) hx hb dL_law_1520 hl (by decide) rfl (fun ls hl => ?_)
  refine lv_aload_n hx hb dL_law_1522 rfl (lv_at hl 5 rfl) ?_
  refine mm_callVi (n := 0) (As := []) (rest := []) ⟨hx, hb, hml, hown, hts⟩ (c_X8_thrown l D s.heap.size (PC cA u Z1) cA u (m_X8_count q (xs (x0 + 1).toNatClampNeg)).2) gL_law_X8_thrown rfl (by decide +kernel) rfl ⟨Nat.le_of_ble_eq_true rfl, Nat.le_of_ble_eq_true rfl⟩ ⟨hcs.1, hcs.2⟩ hK hW hS hl.1 rfl (Nat.le_of_ble_eq_true rfl) dL_law_1523 (fun H locs hW hS => ?_)
  refine lv_iload hx hb dL_law_1526 (lv_at hl 1 rfl) ?_
  refine lv_icmp_eq (tgt := 1533) hx hb dL_law_1528 (by decide) (fun _ => ?_) (fun h => absurd (hfs.1) h)
  refine lv_iload hx hb dL_law_1533 (lv_at hl 1 rfl) ?_
  refine lv_if_ne (tgt := 1550) hx hb dL_law_1535 (by decide) (fun hk => ?_) (fun hk => ?_)
  · refine lv_goto (tgt := 1829) hx hb dL_law_1550 (by decide) ?_
    exact next u Z1 (m_X8_count q (xs (x0 + 1).toNatClampNeg)).2 H locs ls hb1 rfl hb3 hW hS hfs.2.1 (lv_sub hl [2, 3, 4, 5, 6] rfl)
  · have hk0 : K1 = 0 := hk
    refine lv_aload_n hx hb dL_law_1538 rfl (lv_at hl 6 rfl) ?_
    refine lv_iconst (v := 0) hx hb dL_law_1539 (by decide) ?_
    refine lw_lald hb3 hx hb hK hW (hfs.2.2 hk0) dL_law_1540 ?_
    refine lv_iload hx hb dL_law_1541 (lv_at hl 0 rfl) ?_
    refine lv_i2l hx hb dL_law_1543 rfl ?_
    refine W.lcmp hx hb dL_law_1544 ?_
    refine lv_if_eq (tgt := 1550) hx hb dL_law_1545 (by decide) (fun _ => ?_) (fun h => absurd (lg_self _) h)
    refine lv_goto (tgt := 1829) hx hb dL_law_1550 (by decide) ?_
    exact next u Z1 (m_X8_count q (xs (x0 + 1).toNatClampNeg)).2 H locs ls hb1 rfl hb3 hW hS hfs.2.1 (lv_sub hl [2, 3, 4, 5, 6] rfl)
set_option maxHeartbeats 4000000 in
set_option maxRecDepth 100000 in
theorem ca_act {p : Program} {l : Launch} {e : Env} {s : State} {m : MethodId} {below : List Frame} {meth : Method} {c : Code} {Q : State → Prop} {b L : Nat} {xs : Nat → Int32} {D : va_G} {cA : Nat → ClassId} (hC : LX p l s m c b L xs D cA) {H : Heap} {cells slots : Nat} {ls : Array Slot} {ad : Nat → Nat → Nat} {z : qC} {q : qM} {a1 a2 a3 : Nat} {x0 : Int32} (hin : ∀ k : Int32, 0 ≤ k.toInt → k.toInt ≤ 8 → vp_in (x0 + k) L) (ha1 : a1 = ad 0 0) (ha2 : a2 = ad 20 0) (ha3 : a3 = ad 22 0) (hW : wd D (wA s.heap.size) (PO cA ad z q) ad H) (hS : va_S (wA s.heap.size) s.heap H []) (hR : RI z q) (hl : lv_has ls 8 [(4, .int x0), (0, .ref b), (1, .ref a1), (2, .ref a2), (3, .ref a3)]) (hcs : cells + 8 ≤ room_1.cells ∧ slots + 50 ≤ room_1.slots)
    (next : ∀ (u : Nat → Nat → Nat) (z' : qC) (q' : qM) (H' : Heap) (locs' : List Loc) (ls' : Array Slot), a1 = u 0 0 → a2 = u 20 0 → a3 = u 22 0 → wd D (wA s.heap.size) (PO cA u z' q') u H' → va_S (wA s.heap.size) s.heap H' locs' → RI z' q' → lv_has ls' 8 [(4, .int x0), (0, .ref b), (1, .ref a1), (2, .ref a2), (3, .ref a3)] → W p l e room_1 s m #[Value.ref b] below meth c H' locs' (cells + 8) (slots + 50) Q (F0 m 1829 ls' [])) :
    W p l e room_1 s m #[Value.ref b] below meth c H [] cells slots Q (F0 m 1553 ls []) := by
  obtain ⟨hx, hb, hml, hown, hts, hK, hKD, hKX, hKN, hlt, hX, hbl⟩ := hC
  refine lv_aload_n hx hb dL_law_1553 rfl (lv_at hl 2 rfl) ?_
  refine sc_ldi (k := 1) (i0 := 1) (i4 := 0) hx hb hX hbl hS hl rfl rfl (hin 1 (by decide) (by decide)) (by decide) dL_law_1554 dL_law_1555 dL_law_1557 dL_law_1558 dL_law_1559 ?_
  refine sc_ldi (k := 2) (i0 := 1) (i4 := 0) hx hb hX hbl hS hl rfl rfl (hin 2 (by decide) (by decide)) (by decide) dL_law_1560 dL_law_1561 dL_law_1563 dL_law_1564 dL_law_1565 ?_
  refine lv_aload_n hx hb dL_law_1566 rfl (lv_at hl 4 rfl) ?_
  refine lw_callW (n := 4) (As := [.ref a1, .int (xs (x0 + 1).toNatClampNeg), .int (xs (x0 + 2).toNatClampNeg), .ref a3]) (rest := []) ⟨hx, hb, hml, hown, hts⟩ (c_L_act l hlt D s.heap.size cA ad q z (xs (x0 + 1).toNatClampNeg) (xs (x0 + 2).toNatClampNeg) hR.2.2.2) (by rw [ha1, ha3]) gL_law_L_act rfl (by decide +kernel) rfl ⟨Nat.le_of_ble_eq_true rfl, Nat.le_of_ble_eq_true rfl⟩ hcs hK hW hS hKD hKX hKN (Nat.le_refl _) hl.1 rfl (Nat.le_of_ble_eq_true rfl) dL_law_1567 (fun u H locs hak hW hS => ?_)
  have hb1 : a1 = u 0 0 := ha1.trans (hak 0 0 (by decide) (by decide) (by decide)).symm
  have hb2 : a2 = u 20 0 := ha2.trans (hak 20 0 (by decide) (by decide) (by decide)).symm
  have hb3 : a3 = u 22 0 := ha3.trans (hak 22 0 (by decide) (by decide) (by decide)).symm
  have hfs := fs_act hR (xs (x0 + 1).toNatClampNeg) (xs (x0 + 2).toNatClampNeg)
  generalize hZ1 : (zL ((m_X7_act z (xs (x0 + 1).toNatClampNeg) (xs (x0 + 2).toNatClampNeg)).1) (Int32.toInt64 ((m_X7_act z (xs (x0 + 1).toNatClampNeg) (xs (x0 + 2).toNatClampNeg)).2)) (z) z) = Z1 at hW hfs ⊢
  generalize hK1 : ((m_X7_act z (xs (x0 + 1).toNatClampNeg) (xs (x0 + 2).toNatClampNeg)).1) = K1 at hfs ⊢
  refine lv_istore (lv' := [(5, .int K1), (4, .int x0), (0, .ref b), (1, .ref a1), (2, .ref a2), (3, .ref a3)]) hx hb dL_law_1570 hl (by decide) rfl (fun ls hl => ?_)
  refine lv_aload_n hx hb dL_law_1572 rfl (lv_at hl 4 rfl) ?_
  refine sc_ldi (k := 1) (i0 := 2) (i4 := 1) hx hb hX hbl hS hl rfl rfl (hin 1 (by decide) (by decide)) (by decide) dL_law_1573 dL_law_1574 dL_law_1576 dL_law_1577 dL_law_1578 ?_
  refine sc_ldi (k := 2) (i0 := 2) (i4 := 1) hx hb hX hbl hS hl rfl rfl (hin 2 (by decide) (by decide)) (by decide) dL_law_1579 dL_law_1580 dL_law_1582 dL_law_1583 dL_law_1584 ?_
  subst hb2
  refine mm_callVi (n := 2) (As := [.int (xs (x0 + 1).toNatClampNeg), .int (xs (x0 + 2).toNatClampNeg)]) (rest := []) ⟨hx, hb, hml, hown, hts⟩ (c_X8_act l D s.heap.size (PC cA u Z1) cA u q (xs (x0 + 1).toNatClampNeg) (xs (x0 + 2).toNatClampNeg) hR.2.2.1) gL_law_X8_act rfl (by decide +kernel) rfl ⟨Nat.le_of_ble_eq_true rfl, Nat.le_of_ble_eq_true rfl⟩ ⟨hcs.1, hcs.2⟩ hK hW hS hl.1 rfl (Nat.le_of_ble_eq_true rfl) dL_law_1585 (fun H locs hW hS => ?_)
  refine lv_istore (lv' := [(6, .int (m_X8_act q (xs (x0 + 1).toNatClampNeg) (xs (x0 + 2).toNatClampNeg)).1), (5, .int K1), (4, .int x0), (0, .ref b), (1, .ref a1), (2, .ref (u 20 0)), (3, .ref a3)]) hx hb dL_law_1588 hl (by decide) rfl (fun ls hl => ?_)
  refine lv_aload_n hx hb dL_law_1590 rfl (lv_at hl 5 rfl) ?_
  refine mm_callVi (n := 0) (As := []) (rest := []) ⟨hx, hb, hml, hown, hts⟩ (c_X8_thrown l D s.heap.size (PC cA u Z1) cA u (m_X8_act q (xs (x0 + 1).toNatClampNeg) (xs (x0 + 2).toNatClampNeg)).2) gL_law_X8_thrown rfl (by decide +kernel) rfl ⟨Nat.le_of_ble_eq_true rfl, Nat.le_of_ble_eq_true rfl⟩ ⟨hcs.1, hcs.2⟩ hK hW hS hl.1 rfl (Nat.le_of_ble_eq_true rfl) dL_law_1591 (fun H locs hW hS => ?_)
  refine lv_iload hx hb dL_law_1594 (lv_at hl 1 rfl) ?_
  refine lv_icmp_eq (tgt := 1601) hx hb dL_law_1596 (by decide) (fun _ => ?_) (fun h => absurd (hfs.1) h)
  refine lv_iload hx hb dL_law_1601 (lv_at hl 1 rfl) ?_
  refine lv_if_ne (tgt := 1618) hx hb dL_law_1603 (by decide) (fun hk => ?_) (fun hk => ?_)
  · refine lv_goto (tgt := 1829) hx hb dL_law_1618 (by decide) ?_
    exact next u Z1 (m_X8_act q (xs (x0 + 1).toNatClampNeg) (xs (x0 + 2).toNatClampNeg)).2 H locs ls hb1 rfl hb3 hW hS hfs.2.1 (lv_sub hl [2, 3, 4, 5, 6] rfl)
  · have hk0 : K1 = 0 := hk
    refine lv_aload_n hx hb dL_law_1606 rfl (lv_at hl 6 rfl) ?_
    refine lv_iconst (v := 0) hx hb dL_law_1607 (by decide) ?_
    refine lw_lald hb3 hx hb hK hW (hfs.2.2 hk0) dL_law_1608 ?_
    refine lv_iload hx hb dL_law_1609 (lv_at hl 0 rfl) ?_
    refine lv_i2l hx hb dL_law_1611 rfl ?_
    refine W.lcmp hx hb dL_law_1612 ?_
    refine lv_if_eq (tgt := 1618) hx hb dL_law_1613 (by decide) (fun _ => ?_) (fun h => absurd (lg_self _) h)
    refine lv_goto (tgt := 1829) hx hb dL_law_1618 (by decide) ?_
    exact next u Z1 (m_X8_act q (xs (x0 + 1).toNatClampNeg) (xs (x0 + 2).toNatClampNeg)).2 H locs ls hb1 rfl hb3 hW hS hfs.2.1 (lv_sub hl [2, 3, 4, 5, 6] rfl)
set_option maxHeartbeats 4000000 in
set_option maxRecDepth 100000 in
theorem ca_link {p : Program} {l : Launch} {e : Env} {s : State} {m : MethodId} {below : List Frame} {meth : Method} {c : Code} {Q : State → Prop} {b L : Nat} {xs : Nat → Int32} {D : va_G} {cA : Nat → ClassId} (hC : LX p l s m c b L xs D cA) {H : Heap} {cells slots : Nat} {ls : Array Slot} {ad : Nat → Nat → Nat} {z : qC} {q : qM} {a1 a2 a3 : Nat} {x0 : Int32} (hin : ∀ k : Int32, 0 ≤ k.toInt → k.toInt ≤ 8 → vp_in (x0 + k) L) (ha1 : a1 = ad 0 0) (ha2 : a2 = ad 20 0) (ha3 : a3 = ad 22 0) (hW : wd D (wA s.heap.size) (PO cA ad z q) ad H) (hS : va_S (wA s.heap.size) s.heap H []) (hR : RI z q) (hl : lv_has ls 8 [(4, .int x0), (0, .ref b), (1, .ref a1), (2, .ref a2), (3, .ref a3)]) (hcs : cells + 8 ≤ room_1.cells ∧ slots + 50 ≤ room_1.slots)
    (next : ∀ (u : Nat → Nat → Nat) (z' : qC) (q' : qM) (H' : Heap) (locs' : List Loc) (ls' : Array Slot), a1 = u 0 0 → a2 = u 20 0 → a3 = u 22 0 → wd D (wA s.heap.size) (PO cA u z' q') u H' → va_S (wA s.heap.size) s.heap H' locs' → RI z' q' → lv_has ls' 8 [(4, .int x0), (0, .ref b), (1, .ref a1), (2, .ref a2), (3, .ref a3)] → W p l e room_1 s m #[Value.ref b] below meth c H' locs' (cells + 8) (slots + 50) Q (F0 m 1829 ls' [])) :
    W p l e room_1 s m #[Value.ref b] below meth c H [] cells slots Q (F0 m 1621 ls []) := by
  obtain ⟨hx, hb, hml, hown, hts, hK, hKD, hKX, hKN, hlt, hX, hbl⟩ := hC
  refine lv_aload_n hx hb dL_law_1621 rfl (lv_at hl 2 rfl) ?_
  refine sc_ldi (k := 1) (i0 := 1) (i4 := 0) hx hb hX hbl hS hl rfl rfl (hin 1 (by decide) (by decide)) (by decide) dL_law_1622 dL_law_1623 dL_law_1625 dL_law_1626 dL_law_1627 ?_
  refine lv_aload_n hx hb dL_law_1628 rfl (lv_at hl 4 rfl) ?_
  refine lw_callW (n := 3) (As := [.ref a1, .int (xs (x0 + 1).toNatClampNeg), .ref a3]) (rest := []) ⟨hx, hb, hml, hown, hts⟩ (c_L_link l hlt D s.heap.size cA ad q z (xs (x0 + 1).toNatClampNeg) hR.2.2.2) (by rw [ha1, ha3]) gL_law_L_link rfl (by decide +kernel) rfl ⟨Nat.le_of_ble_eq_true rfl, Nat.le_of_ble_eq_true rfl⟩ hcs hK hW hS hKD hKX hKN (Nat.le_refl _) hl.1 rfl (Nat.le_of_ble_eq_true rfl) dL_law_1629 (fun u H locs hak hW hS => ?_)
  have hb1 : a1 = u 0 0 := ha1.trans (hak 0 0 (by decide) (by decide) (by decide)).symm
  have hb2 : a2 = u 20 0 := ha2.trans (hak 20 0 (by decide) (by decide) (by decide)).symm
  have hb3 : a3 = u 22 0 := ha3.trans (hak 22 0 (by decide) (by decide) (by decide)).symm
  have hfs := fs_link hR (xs (x0 + 1).toNatClampNeg)
  generalize hZ1 : (zL ((m_X7_link z (xs (x0 + 1).toNatClampNeg)).1) ((m_X7_link z (xs (x0 + 1).toNatClampNeg)).2) (z) z) = Z1 at hW hfs ⊢
  generalize hK1 : ((m_X7_link z (xs (x0 + 1).toNatClampNeg)).1) = K1 at hfs ⊢
  refine lv_istore (lv' := [(5, .int K1), (4, .int x0), (0, .ref b), (1, .ref a1), (2, .ref a2), (3, .ref a3)]) hx hb dL_law_1632 hl (by decide) rfl (fun ls hl => ?_)
  refine lv_aload_n hx hb dL_law_1634 rfl (lv_at hl 4 rfl) ?_
  refine sc_ldi (k := 1) (i0 := 2) (i4 := 1) hx hb hX hbl hS hl rfl rfl (hin 1 (by decide) (by decide)) (by decide) dL_law_1635 dL_law_1636 dL_law_1638 dL_law_1639 dL_law_1640 ?_
  subst hb2
  refine mm_callVl (n := 1) (As := [.int (xs (x0 + 1).toNatClampNeg)]) (rest := []) ⟨hx, hb, hml, hown, hts⟩ (c_X8_link l D s.heap.size (PC cA u Z1) cA u q (xs (x0 + 1).toNatClampNeg) hR.2.2.1) gL_law_X8_link rfl (by decide +kernel) rfl ⟨Nat.le_of_ble_eq_true rfl, Nat.le_of_ble_eq_true rfl⟩ ⟨hcs.1, hcs.2⟩ hK hW hS hl.1 rfl (Nat.le_of_ble_eq_true rfl) dL_law_1641 (fun H locs hW hS => ?_)
  refine lv_lstore (lv' := [(6, .long (m_X8_link q (xs (x0 + 1).toNatClampNeg)).1), (5, .int K1), (4, .int x0), (0, .ref b), (1, .ref a1), (2, .ref (u 20 0)), (3, .ref a3)]) hx hb dL_law_1644 hl (by decide) rfl (fun ls hl => ?_)
  refine lv_aload_n hx hb dL_law_1646 rfl (lv_at hl 5 rfl) ?_
  refine mm_callVi (n := 0) (As := []) (rest := []) ⟨hx, hb, hml, hown, hts⟩ (c_X8_thrown l D s.heap.size (PC cA u Z1) cA u (m_X8_link q (xs (x0 + 1).toNatClampNeg)).2) gL_law_X8_thrown rfl (by decide +kernel) rfl ⟨Nat.le_of_ble_eq_true rfl, Nat.le_of_ble_eq_true rfl⟩ ⟨hcs.1, hcs.2⟩ hK hW hS hl.1 rfl (Nat.le_of_ble_eq_true rfl) dL_law_1647 (fun H locs hW hS => ?_)
  refine lv_iload hx hb dL_law_1650 (lv_at hl 1 rfl) ?_
  refine lv_icmp_eq (tgt := 1657) hx hb dL_law_1652 (by decide) (fun _ => ?_) (fun h => absurd (hfs.1) h)
  refine lv_iload hx hb dL_law_1657 (lv_at hl 1 rfl) ?_
  refine lv_if_ne (tgt := 1673) hx hb dL_law_1659 (by decide) (fun hk => ?_) (fun hk => ?_)
  · refine lv_goto (tgt := 1829) hx hb dL_law_1673 (by decide) ?_
    exact next u Z1 (m_X8_link q (xs (x0 + 1).toNatClampNeg)).2 H locs ls hb1 rfl hb3 hW hS hfs.2.1 (lv_sub hl [2, 3, 4, 5, 6] rfl)
  · have hk0 : K1 = 0 := hk
    refine lv_aload_n hx hb dL_law_1662 rfl (lv_at hl 6 rfl) ?_
    refine lv_iconst (v := 0) hx hb dL_law_1663 (by decide) ?_
    refine lw_lald hb3 hx hb hK hW (hfs.2.2 hk0) dL_law_1664 ?_
    refine lv_lload hx hb dL_law_1665 (lv_at hl 0 rfl) ?_
    refine W.lcmp hx hb dL_law_1667 ?_
    refine lv_if_eq (tgt := 1673) hx hb dL_law_1668 (by decide) (fun _ => ?_) (fun h => absurd (lg_self _) h)
    refine lv_goto (tgt := 1829) hx hb dL_law_1673 (by decide) ?_
    exact next u Z1 (m_X8_link q (xs (x0 + 1).toNatClampNeg)).2 H locs ls hb1 rfl hb3 hW hS hfs.2.1 (lv_sub hl [2, 3, 4, 5, 6] rfl)
set_option maxHeartbeats 4000000 in
set_option maxRecDepth 100000 in
theorem ca_spoil {p : Program} {l : Launch} {e : Env} {s : State} {m : MethodId} {below : List Frame} {meth : Method} {c : Code} {Q : State → Prop} {b L : Nat} {xs : Nat → Int32} {D : va_G} {cA : Nat → ClassId} (hC : LX p l s m c b L xs D cA) {H : Heap} {cells slots : Nat} {ls : Array Slot} {ad : Nat → Nat → Nat} {z : qC} {q : qM} {a1 a2 a3 : Nat} {x0 : Int32} (hin : ∀ k : Int32, 0 ≤ k.toInt → k.toInt ≤ 8 → vp_in (x0 + k) L) (ha1 : a1 = ad 0 0) (ha2 : a2 = ad 20 0) (ha3 : a3 = ad 22 0) (hW : wd D (wA s.heap.size) (PO cA ad z q) ad H) (hS : va_S (wA s.heap.size) s.heap H []) (hR : RI z q) (hl : lv_has ls 8 [(4, .int x0), (0, .ref b), (1, .ref a1), (2, .ref a2), (3, .ref a3)]) (hcs : cells + 8 ≤ room_1.cells ∧ slots + 50 ≤ room_1.slots)
    (next : ∀ (u : Nat → Nat → Nat) (z' : qC) (q' : qM) (H' : Heap) (locs' : List Loc) (ls' : Array Slot), a1 = u 0 0 → a2 = u 20 0 → a3 = u 22 0 → wd D (wA s.heap.size) (PO cA u z' q') u H' → va_S (wA s.heap.size) s.heap H' locs' → RI z' q' → lv_has ls' 8 [(4, .int x0), (0, .ref b), (1, .ref a1), (2, .ref a2), (3, .ref a3)] → W p l e room_1 s m #[Value.ref b] below meth c H' locs' (cells + 8) (slots + 50) Q (F0 m 1829 ls' [])) :
    W p l e room_1 s m #[Value.ref b] below meth c H [] cells slots Q (F0 m 1676 ls []) := by
  obtain ⟨hx, hb, hml, hown, hts, hK, hKD, hKX, hKN, hlt, hX, hbl⟩ := hC
  refine lv_aload_n hx hb dL_law_1676 rfl (lv_at hl 2 rfl) ?_
  refine sc_ldi (k := 1) (i0 := 1) (i4 := 0) hx hb hX hbl hS hl rfl rfl (hin 1 (by decide) (by decide)) (by decide) dL_law_1677 dL_law_1678 dL_law_1680 dL_law_1681 dL_law_1682 ?_
  refine sc_ldi (k := 2) (i0 := 1) (i4 := 0) hx hb hX hbl hS hl rfl rfl (hin 2 (by decide) (by decide)) (by decide) dL_law_1683 dL_law_1684 dL_law_1686 dL_law_1687 dL_law_1688 ?_
  refine sc_ldi (k := 3) (i0 := 1) (i4 := 0) hx hb hX hbl hS hl rfl rfl (hin 3 (by decide) (by decide)) (by decide) dL_law_1689 dL_law_1690 dL_law_1692 dL_law_1693 dL_law_1694 ?_
  refine lw_callW (n := 4) (As := [.ref a1, .int (xs (x0 + 1).toNatClampNeg), .int (xs (x0 + 2).toNatClampNeg), .int (xs (x0 + 3).toNatClampNeg)]) (rest := []) ⟨hx, hb, hml, hown, hts⟩ (c_L_spoil l hlt D s.heap.size cA ad q z (xs (x0 + 1).toNatClampNeg) (xs (x0 + 2).toNatClampNeg) (xs (x0 + 3).toNatClampNeg) hR.2.2.2) (by rw [ha1]) gL_law_L_spoil rfl (by decide +kernel) rfl ⟨Nat.le_of_ble_eq_true rfl, Nat.le_of_ble_eq_true rfl⟩ hcs hK hW hS hKD hKX hKN (Nat.le_refl _) hl.1 rfl (Nat.le_of_ble_eq_true rfl) dL_law_1695 (fun u H locs hak hW hS => ?_)
  have hb1 : a1 = u 0 0 := ha1.trans (hak 0 0 (by decide) (by decide) (by decide)).symm
  have hb2 : a2 = u 20 0 := ha2.trans (hak 20 0 (by decide) (by decide) (by decide)).symm
  have hb3 : a3 = u 22 0 := ha3.trans (hak 22 0 (by decide) (by decide) (by decide)).symm
  have hfs := fs_spoil hR (xs (x0 + 1).toNatClampNeg) (xs (x0 + 2).toNatClampNeg) (xs (x0 + 3).toNatClampNeg)
  generalize hZ1 : (zV ((m_X7_spoil z (xs (x0 + 1).toNatClampNeg) (xs (x0 + 2).toNatClampNeg) (xs (x0 + 3).toNatClampNeg)).1) ((m_X7_spoil z (xs (x0 + 1).toNatClampNeg) (xs (x0 + 2).toNatClampNeg) (xs (x0 + 3).toNatClampNeg)).2) z) = Z1 at hW hfs ⊢
  generalize hK1 : ((m_X7_spoil z (xs (x0 + 1).toNatClampNeg) (xs (x0 + 2).toNatClampNeg) (xs (x0 + 3).toNatClampNeg)).1) = K1 at hfs ⊢
  refine lv_istore (lv' := [(5, .int K1), (4, .int x0), (0, .ref b), (1, .ref a1), (2, .ref a2), (3, .ref a3)]) hx hb dL_law_1698 hl (by decide) rfl (fun ls hl => ?_)
  refine lv_aload_n hx hb dL_law_1700 rfl (lv_at hl 4 rfl) ?_
  refine sc_ldi (k := 1) (i0 := 2) (i4 := 1) hx hb hX hbl hS hl rfl rfl (hin 1 (by decide) (by decide)) (by decide) dL_law_1701 dL_law_1702 dL_law_1704 dL_law_1705 dL_law_1706 ?_
  refine sc_ldi (k := 2) (i0 := 2) (i4 := 1) hx hb hX hbl hS hl rfl rfl (hin 2 (by decide) (by decide)) (by decide) dL_law_1707 dL_law_1708 dL_law_1710 dL_law_1711 dL_law_1712 ?_
  refine sc_ldi (k := 3) (i0 := 2) (i4 := 1) hx hb hX hbl hS hl rfl rfl (hin 3 (by decide) (by decide)) (by decide) dL_law_1713 dL_law_1714 dL_law_1716 dL_law_1717 dL_law_1718 ?_
  subst hb2
  refine mm_callVv (n := 3) (As := [.int (xs (x0 + 1).toNatClampNeg), .int (xs (x0 + 2).toNatClampNeg), .int (xs (x0 + 3).toNatClampNeg)]) (rest := []) ⟨hx, hb, hml, hown, hts⟩ (c_X8_spoil l D s.heap.size (PC cA u Z1) cA u q (xs (x0 + 1).toNatClampNeg) (xs (x0 + 2).toNatClampNeg) (xs (x0 + 3).toNatClampNeg) hR.2.2.1) gL_law_X8_spoil rfl (by decide +kernel) rfl ⟨Nat.le_of_ble_eq_true rfl, Nat.le_of_ble_eq_true rfl⟩ ⟨hcs.1, hcs.2⟩ hK hW hS hl.1 rfl (Nat.le_of_ble_eq_true rfl) dL_law_1719 (fun H locs hW hS => ?_)
  refine lv_aload_n hx hb dL_law_1722 rfl (lv_at hl 4 rfl) ?_
  refine mm_callVi (n := 0) (As := []) (rest := []) ⟨hx, hb, hml, hown, hts⟩ (c_X8_thrown l D s.heap.size (PC cA u Z1) cA u (m_X8_spoil q (xs (x0 + 1).toNatClampNeg) (xs (x0 + 2).toNatClampNeg) (xs (x0 + 3).toNatClampNeg))) gL_law_X8_thrown rfl (by decide +kernel) rfl ⟨Nat.le_of_ble_eq_true rfl, Nat.le_of_ble_eq_true rfl⟩ ⟨hcs.1, hcs.2⟩ hK hW hS hl.1 rfl (Nat.le_of_ble_eq_true rfl) dL_law_1723 (fun H locs hW hS => ?_)
  refine lv_iload hx hb dL_law_1726 (lv_at hl 0 rfl) ?_
  refine lv_icmp_eq (tgt := 1733) hx hb dL_law_1728 (by decide) (fun _ => ?_) (fun h => absurd (hfs.1) h)
  refine lv_goto (tgt := 1829) hx hb dL_law_1733 (by decide) ?_
  exact next u Z1 (m_X8_spoil q (xs (x0 + 1).toNatClampNeg) (xs (x0 + 2).toNatClampNeg) (xs (x0 + 3).toNatClampNeg)) H locs ls hb1 rfl hb3 hW hS hfs.2 (lv_sub hl [1, 2, 3, 4, 5] rfl)
set_option maxHeartbeats 4000000 in
set_option maxRecDepth 100000 in
theorem ca_later {p : Program} {l : Launch} {e : Env} {s : State} {m : MethodId} {below : List Frame} {meth : Method} {c : Code} {Q : State → Prop} {b L : Nat} {xs : Nat → Int32} {D : va_G} {cA : Nat → ClassId} (hC : LX p l s m c b L xs D cA) {H : Heap} {cells slots : Nat} {ls : Array Slot} {ad : Nat → Nat → Nat} {z : qC} {q : qM} {a1 a2 a3 : Nat} {x0 : Int32} (hin : ∀ k : Int32, 0 ≤ k.toInt → k.toInt ≤ 8 → vp_in (x0 + k) L) (ha1 : a1 = ad 0 0) (ha2 : a2 = ad 20 0) (ha3 : a3 = ad 22 0) (hW : wd D (wA s.heap.size) (PO cA ad z q) ad H) (hS : va_S (wA s.heap.size) s.heap H []) (hR : RI z q) (hl : lv_has ls 8 [(4, .int x0), (0, .ref b), (1, .ref a1), (2, .ref a2), (3, .ref a3)]) (hcs : cells + 8 ≤ room_1.cells ∧ slots + 50 ≤ room_1.slots)
    (next : ∀ (u : Nat → Nat → Nat) (z' : qC) (q' : qM) (H' : Heap) (locs' : List Loc) (ls' : Array Slot), a1 = u 0 0 → a2 = u 20 0 → a3 = u 22 0 → wd D (wA s.heap.size) (PO cA u z' q') u H' → va_S (wA s.heap.size) s.heap H' locs' → RI z' q' → lv_has ls' 8 [(4, .int x0), (0, .ref b), (1, .ref a1), (2, .ref a2), (3, .ref a3)] → W p l e room_1 s m #[Value.ref b] below meth c H' locs' (cells + 8) (slots + 50) Q (F0 m 1829 ls' [])) :
    W p l e room_1 s m #[Value.ref b] below meth c H [] cells slots Q (F0 m 1749 ls []) := by
  obtain ⟨hx, hb, hml, hown, hts, hK, hKD, hKX, hKN, hlt, hX, hbl⟩ := hC
  refine lv_aload_n hx hb dL_law_1749 rfl (lv_at hl 2 rfl) ?_
  refine sc_ldi (k := 1) (i0 := 1) (i4 := 0) hx hb hX hbl hS hl rfl rfl (hin 1 (by decide) (by decide)) (by decide) dL_law_1750 dL_law_1751 dL_law_1753 dL_law_1754 dL_law_1755 ?_
  refine sc_ldi (k := 2) (i0 := 1) (i4 := 0) hx hb hX hbl hS hl rfl rfl (hin 2 (by decide) (by decide)) (by decide) dL_law_1756 dL_law_1757 dL_law_1759 dL_law_1760 dL_law_1761 ?_
  refine sc_ldi (k := 3) (i0 := 1) (i4 := 0) hx hb hX hbl hS hl rfl rfl (hin 3 (by decide) (by decide)) (by decide) dL_law_1762 dL_law_1763 dL_law_1765 dL_law_1766 dL_law_1767 ?_
  refine lv_aload_n hx hb dL_law_1768 rfl (lv_at hl 4 rfl) ?_
  refine lw_callW (n := 5) (As := [.ref a1, .int (xs (x0 + 1).toNatClampNeg), .int (xs (x0 + 2).toNatClampNeg), .int (xs (x0 + 3).toNatClampNeg), .ref a3]) (rest := []) ⟨hx, hb, hml, hown, hts⟩ (c_L_later l hlt D s.heap.size cA ad q z (xs (x0 + 1).toNatClampNeg) (xs (x0 + 2).toNatClampNeg) (xs (x0 + 3).toNatClampNeg)) (by rw [ha1, ha3]) gL_law_L_later rfl (by decide +kernel) rfl ⟨Nat.le_of_ble_eq_true rfl, Nat.le_of_ble_eq_true rfl⟩ hcs hK hW hS hKD hKX hKN (Nat.le_refl _) hl.1 rfl (Nat.le_of_ble_eq_true rfl) dL_law_1769 (fun u H locs hak hW hS => ?_)
  have hb1 : a1 = u 0 0 := ha1.trans (hak 0 0 (by decide) (by decide) (by decide)).symm
  have hb2 : a2 = u 20 0 := ha2.trans (hak 20 0 (by decide) (by decide) (by decide)).symm
  have hb3 : a3 = u 22 0 := ha3.trans (hak 22 0 (by decide) (by decide) (by decide)).symm
  have hfs := fs_later hR (xs (x0 + 1).toNatClampNeg) (xs (x0 + 2).toNatClampNeg) (xs (x0 + 3).toNatClampNeg)
  generalize hZ1 : (zL ((m_X7_later (xs (x0 + 1).toNatClampNeg) (xs (x0 + 2).toNatClampNeg) (xs (x0 + 3).toNatClampNeg)).1) (Int32.toInt64 ((m_X7_later (xs (x0 + 1).toNatClampNeg) (xs (x0 + 2).toNatClampNeg) (xs (x0 + 3).toNatClampNeg)).2)) (z) z) = Z1 at hW hfs ⊢
  generalize hK1 : (wkT (m_X7_later (xs (x0 + 1).toNatClampNeg) (xs (x0 + 2).toNatClampNeg) (xs (x0 + 3).toNatClampNeg)).1) = K1 at hfs ⊢
  refine lv_istore (lv' := [(5, .int K1), (4, .int x0), (0, .ref b), (1, .ref a1), (2, .ref a2), (3, .ref a3)]) hx hb dL_law_1772 hl (by decide) rfl (fun ls hl => ?_)
  refine lv_aload_n hx hb dL_law_1774 rfl (lv_at hl 4 rfl) ?_
  refine sc_ldi (k := 1) (i0 := 2) (i4 := 1) hx hb hX hbl hS hl rfl rfl (hin 1 (by decide) (by decide)) (by decide) dL_law_1775 dL_law_1776 dL_law_1778 dL_law_1779 dL_law_1780 ?_
  refine sc_ldi (k := 2) (i0 := 2) (i4 := 1) hx hb hX hbl hS hl rfl rfl (hin 2 (by decide) (by decide)) (by decide) dL_law_1781 dL_law_1782 dL_law_1784 dL_law_1785 dL_law_1786 ?_
  refine sc_ldi (k := 3) (i0 := 2) (i4 := 1) hx hb hX hbl hS hl rfl rfl (hin 3 (by decide) (by decide)) (by decide) dL_law_1787 dL_law_1788 dL_law_1790 dL_law_1791 dL_law_1792 ?_
  subst hb2
  refine mm_callVi (n := 3) (As := [.int (xs (x0 + 1).toNatClampNeg), .int (xs (x0 + 2).toNatClampNeg), .int (xs (x0 + 3).toNatClampNeg)]) (rest := []) ⟨hx, hb, hml, hown, hts⟩ (c_X8_later l D s.heap.size (PC cA u Z1) cA u q (xs (x0 + 1).toNatClampNeg) (xs (x0 + 2).toNatClampNeg) (xs (x0 + 3).toNatClampNeg)) gL_law_X8_later rfl (by decide +kernel) rfl ⟨Nat.le_of_ble_eq_true rfl, Nat.le_of_ble_eq_true rfl⟩ ⟨hcs.1, hcs.2⟩ hK hW hS hl.1 rfl (Nat.le_of_ble_eq_true rfl) dL_law_1793 (fun H locs hW hS => ?_)
  refine lv_istore (lv' := [(6, .int (m_X8_later q (xs (x0 + 1).toNatClampNeg) (xs (x0 + 2).toNatClampNeg) (xs (x0 + 3).toNatClampNeg)).1), (5, .int K1), (4, .int x0), (0, .ref b), (1, .ref a1), (2, .ref (u 20 0)), (3, .ref a3)]) hx hb dL_law_1796 hl (by decide) rfl (fun ls hl => ?_)
  refine lv_aload_n hx hb dL_law_1798 rfl (lv_at hl 5 rfl) ?_
  refine mm_callVi (n := 0) (As := []) (rest := []) ⟨hx, hb, hml, hown, hts⟩ (c_X8_thrown l D s.heap.size (PC cA u Z1) cA u (m_X8_later q (xs (x0 + 1).toNatClampNeg) (xs (x0 + 2).toNatClampNeg) (xs (x0 + 3).toNatClampNeg)).2) gL_law_X8_thrown rfl (by decide +kernel) rfl ⟨Nat.le_of_ble_eq_true rfl, Nat.le_of_ble_eq_true rfl⟩ ⟨hcs.1, hcs.2⟩ hK hW hS hl.1 rfl (Nat.le_of_ble_eq_true rfl) dL_law_1799 (fun H locs hW hS => ?_)
  refine lv_iload hx hb dL_law_1802 (lv_at hl 1 rfl) ?_
  refine lv_icmp_eq (tgt := 1809) hx hb dL_law_1804 (by decide) (fun _ => ?_) (fun h => absurd (hfs.1) h)
  refine lv_iload hx hb dL_law_1809 (lv_at hl 1 rfl) ?_
  refine lv_if_ne (tgt := 1826) hx hb dL_law_1811 (by decide) (fun hk => ?_) (fun hk => ?_)
  · refine lv_goto (tgt := 1829) hx hb dL_law_1826 (by decide) ?_
    exact next u Z1 (m_X8_later q (xs (x0 + 1).toNatClampNeg) (xs (x0 + 2).toNatClampNeg) (xs (x0 + 3).toNatClampNeg)).2 H locs ls hb1 rfl hb3 hW hS hfs.2.1 (lv_sub hl [2, 3, 4, 5, 6] rfl)
  · have hk0 : K1 = 0 := hk
    refine lv_aload_n hx hb dL_law_1814 rfl (lv_at hl 6 rfl) ?_
    refine lv_iconst (v := 0) hx hb dL_law_1815 (by decide) ?_
    refine lw_lald hb3 hx hb hK hW (hfs.2.2 hk0) dL_law_1816 ?_
    refine lv_iload hx hb dL_law_1817 (lv_at hl 0 rfl) ?_
    refine lv_i2l hx hb dL_law_1819 rfl ?_
    refine W.lcmp hx hb dL_law_1820 ?_
    refine lv_if_eq (tgt := 1826) hx hb dL_law_1821 (by decide) (fun _ => ?_) (fun h => absurd (lg_self _) h)
    refine lv_goto (tgt := 1829) hx hb dL_law_1826 (by decide) ?_
    exact next u Z1 (m_X8_later q (xs (x0 + 1).toNatClampNeg) (xs (x0 + 2).toNatClampNeg) (xs (x0 + 3).toNatClampNeg)).2 H locs ls hb1 rfl hb3 hW hS hfs.2.1 (lv_sub hl [2, 3, 4, 5, 6] rfl)
set_option maxHeartbeats 4000000 in
set_option maxRecDepth 100000 in
theorem ca_broken {p : Program} {l : Launch} {e : Env} {s : State} {m : MethodId} {below : List Frame} {meth : Method} {c : Code} {Q : State → Prop} {b L : Nat} {xs : Nat → Int32} {D : va_G} {cA : Nat → ClassId} (hC : LX p l s m c b L xs D cA) {H : Heap} {cells slots : Nat} {ls : Array Slot} {ad : Nat → Nat → Nat} {z : qC} {q : qM} {a1 a2 a3 : Nat} {x0 : Int32} (hin : ∀ k : Int32, 0 ≤ k.toInt → k.toInt ≤ 8 → vp_in (x0 + k) L) (ha1 : a1 = ad 0 0) (ha2 : a2 = ad 20 0) (ha3 : a3 = ad 22 0) (hW : wd D (wA s.heap.size) (PO cA ad z q) ad H) (hS : va_S (wA s.heap.size) s.heap H []) (hR : RI z q) (hl : lv_has ls 8 [(4, .int x0), (0, .ref b), (1, .ref a1), (2, .ref a2), (3, .ref a3)]) (hcs : cells + 8 ≤ room_1.cells ∧ slots + 50 ≤ room_1.slots)
    (next : ∀ (u : Nat → Nat → Nat) (z' : qC) (q' : qM) (H' : Heap) (locs' : List Loc) (ls' : Array Slot), a1 = u 0 0 → a2 = u 20 0 → a3 = u 22 0 → wd D (wA s.heap.size) (PO cA u z' q') u H' → va_S (wA s.heap.size) s.heap H' locs' → RI z' q' → lv_has ls' 8 [(4, .int x0), (0, .ref b), (1, .ref a1), (2, .ref a2), (3, .ref a3)] → W p l e room_1 s m #[Value.ref b] below meth c H' locs' (cells + 8) (slots + 50) Q (F0 m 1829 ls' [])) :
    W p l e room_1 s m #[Value.ref b] below meth c H [] cells slots Q (F0 m 1736 ls []) := by
  obtain ⟨hx, hb, hml, hown, hts, hK, hKD, hKX, hKN, hlt, hX, hbl⟩ := hC
  refine lv_aload_n hx hb dL_law_1736 rfl (lv_at hl 2 rfl) ?_
  subst ha1
  subst ha2
  refine ow_callVi (C := RX7) (T := TX7) (N := 11) (ci := 6) (k := 0) (j := 0) (n := 0) (As := []) (rest := []) ⟨hx, hb, hml, hown, hts⟩ (c_X7_broken l D s.heap.size cA ad q z hR.2.2.2) (PO_k0) rfl gL_law_X7_broken rfl (by decide +kernel) rfl ⟨Nat.le_of_ble_eq_true rfl, Nat.le_of_ble_eq_true rfl⟩ ⟨Nat.le_of_add_right_le hcs.1, Nat.le_of_add_right_le hcs.2⟩ hK hW hS hKD hl.1 rfl (Nat.le_of_ble_eq_true rfl) dL_law_1737 (fun H locs hW hS => ?_)
  refine lv_aload_n hx hb dL_law_1740 rfl (lv_at hl 3 rfl) ?_
  refine mm_callVi (n := 0) (As := []) (rest := [.int (m_X7_broken z)]) ⟨hx, hb, hml, hown, hts⟩ (c_X8_broken l D s.heap.size (PC cA ad z) cA ad q hR.2.1 hR.2.2.1) gL_law_X8_broken rfl (by decide +kernel) rfl ⟨Nat.le_of_ble_eq_true rfl, Nat.le_of_ble_eq_true rfl⟩ ⟨Nat.le_of_add_right_le hcs.1, Nat.le_of_add_right_le hcs.2⟩ hK hW hS hl.1 rfl (Nat.le_of_ble_eq_true rfl) dL_law_1741 (fun H locs hW hS => ?_)
  have hst := st_broken hR
  refine lv_icmp_eq (tgt := 1829) hx hb dL_law_1744 (by decide) (fun _ => ?_) (fun h => absurd hst.1 h)
  exact W.widen (k := cells + 8) (n := slots + 50) (Nat.le_add_right _ _) (Nat.le_add_right _ _) (next ad z (m_X8_broken q).2 H locs ls rfl rfl ha3 hW hS hst.2 hl)
