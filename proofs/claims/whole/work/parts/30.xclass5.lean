/-! laid by wip/whole/tools/xclass5.py -/
/-- contracts of the methods that make an object: addresses of old cells stay, but for those kinds -/
def xd_i (l : Launch) (y : MethodName) (ws : List Cond) (fr lo mc ms : Nat) (D : va_G) (b0 : Nat) (cA : Nat → ClassId) (ad : Nat → Nat → Nat) (m : qM) (c : qC) (av : List Value) (E : Int32 × Int32 × qC) : Prop :=
  vx_Met l y ws { frames := fr, cells := mc, slots := ms, locals := lo } (va_Pc av (WX D b0 cA ad m c)) (va_Qi (fun r (u : Nat → Nat → Nat) => (E.1 = 0 ∧ r = E.2.1) ∧ adk ad u) (fun u U => WE D b0 cA u m E.2.2 U) (wA b0)) (xQX D b0 cA ad m c E.1) mc ms (wA b0)
def xd_v (l : Launch) (y : MethodName) (ws : List Cond) (fr lo mc ms : Nat) (D : va_G) (b0 : Nat) (cA : Nat → ClassId) (ad : Nat → Nat → Nat) (m : qM) (c : qC) (av : List Value) (E : Int32 × qC) : Prop :=
  vx_Met l y ws { frames := fr, cells := mc, slots := ms, locals := lo } (va_Pc av (WX D b0 cA ad m c)) (va_Qv (fun (u : Nat → Nat → Nat) => E.1 = 0 ∧ adk ad u) (fun u U => WE D b0 cA u m E.2 U) (wA b0)) (xQX D b0 cA ad m c E.1) mc ms (wA b0)
section XDR
variable {p : Program} {l : Launch} {e : Env} {R : Room} {s : State} {m : MethodId} {args : Array Value} {below : List Frame} {meth : Method} {c : Code} {H : Heap} {locs : List Loc} {cells slots mc ms : Nat}
variable {cc : ByteArray} {pc : Nat} {ls : Array Slot} {D : va_G} {b0 : Nat} {cA : Nat → ClassId} {ad0 ad : Nat → Nat → Nat} {q : qM} {z : qC} {XC : String → State → State → Prop}
theorem od_iret {E : Int32 × Int32 × qC} {v : Int32} (hx : p.tables.exec = Jvm.exec) (hb : c.code = cc) (hr : meth.sig.returnType = some .int) (hlk : meth.locks = false) (hK : va_K D vwCl (wd_tys cA) s) (hW : wd D (wA b0) (PO cA ad z q) ad H) (hak : adk ad0 ad) (hS : va_S (wA b0) s.heap H locs) (hc : cells ≤ mc) (hs : slots ≤ ms) (hE : (0, v, z) = E) (hdg : decode cc pc = .ok (.ireturn, 1)) :
    W p l e R s m args below meth c H locs cells slots (vx_MQ below (va_Qi (fun r (u : Nat → Nat → Nat) => (E.1 = 0 ∧ r = E.2.1) ∧ adk ad0 u) (fun u U => WE D b0 cA u q E.2.2 U) (wA b0)) XC args s mc ms (wA b0)) (F0 m pc ls [.int v]) := by
  subst hE
  exact vx_ret (W.widen (k := mc) (n := ms) hc hs (W.iret hx hb hr (fun t ht hw => ⟨⟨v, ad, rfl, ⟨⟨rfl, rfl⟩, hak⟩, va_K.moved hw.alike hK, by rw [ht]; exact hW⟩, hS.F ht⟩) hS.2.2 hdg hlk))
theorem od_vret {E : Int32 × qC} (hx : p.tables.exec = Jvm.exec) (hb : c.code = cc) (hr : meth.sig.returnType = none) (hlk : meth.locks = false) (hK : va_K D vwCl (wd_tys cA) s) (hW : wd D (wA b0) (PO cA ad z q) ad H) (hak : adk ad0 ad) (hS : va_S (wA b0) s.heap H locs) (hc : cells ≤ mc) (hs : slots ≤ ms) (hE : (0, z) = E) (hdg : decode cc pc = .ok (.return_, 1)) :
    W p l e R s m args below meth c H locs cells slots (vx_MQ below (va_Qv (fun (u : Nat → Nat → Nat) => E.1 = 0 ∧ adk ad0 u) (fun u U => WE D b0 cA u q E.2 U) (wA b0)) XC args s mc ms (wA b0)) (F0 m pc ls []) := by
  subst hE
  exact vx_ret (W.widen (k := mc) (n := ms) hc hs (W.vret hx hb hr (fun t ht hw => ⟨⟨ad, rfl, ⟨rfl, hak⟩, va_K.moved hw.alike hK, by rw [ht]; exact hW⟩, hS.F ht⟩) hS.2.2 hdg hlk))
end XDR

def m_X7_open (q : qC) (f : Int32) (cl : Int32) : Int32 × qC := (if f < 0 then (1, q) else (if f < 16 then (if (m_X7_needClass cl) = 0 then (if (m_X7_needRoom q 1) = 0 then (if (q.1 3 0 (Int32.toNatClampNeg f)) = 0 then (if (q.1 10 (Int32.toNatClampNeg cl) 4) = 0 then (3, q) else (0, (m_X0_write (cq_i (cq_i (cq_i (cq_i (cq_i q 14 (Int32.toNatClampNeg f) 0 f) 14 (Int32.toNatClampNeg f) 1 cl) 14 (Int32.toNatClampNeg f) 2 (-1)) 14 (Int32.toNatClampNeg f) 3 (-1)) 3 0 (Int32.toNatClampNeg f) 1) 2 f cl 0 0))) else (3, q)) else ((m_X7_needRoom q 1), q)) else ((m_X7_needClass cl), q)) else (1, q)))
set_option maxHeartbeats 4000000 in
set_option maxRecDepth 100000 in
theorem c_X7_open (l : Launch) (hlt : l.stackTraces = false) (D : va_G) (b0 : Nat) (cA : Nat → ClassId) (ad : Nat → Nat → Nat) (mq : qM) (q : qC) (f : Int32) (cl : Int32) (hI : cI q) : xd_v l yX7_open wsX7_open 7 111 3 18 D b0 cA ad mq q [.ref (ad 0 0), .int f, .int cl] (m_X7_open q f cl) := by
  refine xc_of (by decide) rfl (Nat.le_of_ble_eq_true rfl) ?_
  intro p e s m below meth c hx hb hml hr hlk hown hts hK hW hKD hKX hz hxt ls hl
  have hown : s.vm.findClass RX7 = some m.cls := hown
  have hS : va_S (wA b0) s.heap s.heap [] := va_S.rf
  have hl : lv_has ls 3 [(0, .ref (ad 0 0)), (1, .int f), (2, .int cl)] := hl
  have hin_X7 : ∀ w ∈ wsX70, w ∈ wsX7_open := fun w h => List.mem_cons_of_mem _ (List.mem_append_left _ (List.mem_append_left _ (List.mem_append_left _ (List.mem_append_left _ (List.mem_append_left _ (List.mem_append_right _ h))))))
  have hin_X6 : ∀ w ∈ wsX60, w ∈ wsX7_open := fun w h => List.mem_cons_of_mem _ (List.mem_append_left _ (List.mem_append_left _ (List.mem_append_left _ (List.mem_append_left _ (List.mem_append_right _ h)))))
  have hin_X4 : ∀ w ∈ wsX40, w ∈ wsX7_open := fun w h => List.mem_cons_of_mem _ (List.mem_append_left _ (List.mem_append_left _ (List.mem_append_left _ (List.mem_append_right _ h))))
  have hin_X0 : ∀ w ∈ wsX00, w ∈ wsX7_open := fun w h => List.mem_cons_of_mem _ (List.mem_append_left _ (List.mem_append_left _ (List.mem_append_right _ h)))
  have hat_1 := xat_1 (fun w h => hts w (List.mem_cons_of_mem _ (List.mem_append_left _ (List.mem_append_right _ h)))) hKX
  have hat_3 := xat_3 (fun w h => hts w (List.mem_cons_of_mem _ (List.mem_append_right _ h))) hKX
  refine lv_iload_n hx hb dX7_open_0 rfl (lv_at hl 1 rfl) ?_
  refine lv_if_lt (tgt := 10) hx hb dX7_open_1 (by decide) (fun c_1 => ?_) (fun c_1 => ?_)
  · exact ox_throwS (cls := "java/lang/IndexOutOfBoundsException") (text := "no such folder") hx hb hlt hown (hts _ (List.mem_of_getElem? (i := 1) rfl)) (hts _ (List.mem_of_getElem? (i := 2) rfl)) hat_1 (by decide +kernel) (by decide +kernel) hK hW hS hKX (by decide +kernel) (hl.1.trans hml.symm) hxt (by rw [m_X7_open, if_pos c_1]; exact ⟨rfl, show ¬ (1 : Int32) = 0 by decide⟩) (Nat.le_of_ble_eq_true rfl) (Nat.le_of_ble_eq_true rfl) (Nat.le_of_ble_eq_true rfl) (Nat.le_of_ble_eq_true rfl) hlk (Nat.le_of_ble_eq_true rfl) (Nat.le_of_ble_eq_true rfl) dX7_open_10 dX7_open_13 dX7_open_14 dX7_open_16 dX7_open_19
  · refine lv_iload_n hx hb dX7_open_4 rfl (lv_at hl 1 rfl) ?_
    refine lv_bipush (v := 16) hx hb dX7_open_5 (by decide) ?_
    refine lv_icmp_lt (tgt := 20) hx hb dX7_open_7 (by decide) (fun c_2 => ?_) (fun c_2 => ?_)
    · refine lv_iload_n hx hb dX7_open_20 rfl (lv_at hl 2 rfl) ?_
      refine ox_callSv (n := 1) (As := [.int cl]) (rest := []) (z2 := q) (k0 := (m_X7_needClass cl)) ⟨hx, hb, hml, hown, hts⟩ (c_X7_needClass l hlt D b0 cA ad mq q cl) gX7_open_X7_needClass rfl (by decide +kernel) rfl ⟨Nat.le_of_ble_eq_true rfl, Nat.le_of_ble_eq_true rfl⟩ ⟨Nat.le_of_ble_eq_true rfl, Nat.le_of_ble_eq_true rfl⟩ hK hW hS hKD hKX hz hl.1 rfl (Nat.le_of_ble_eq_true rfl) dX7_open_21 (fun hne H locs ce q9 hW hS h1 h2 h3 => ox_out hxt hlk hK (by rw [m_X7_open, if_neg c_1, if_pos c_2, if_neg hne]) hne hW hS h1 h2 h3 (Nat.le_of_ble_eq_true rfl) (Nat.le_of_ble_eq_true rfl)) (fun c_3 H locs hW hS => ?_)
      refine lv_aload_n hx hb dX7_open_24 rfl (lv_at hl 0 rfl) ?_
      refine lv_iconst (v := 1) hx hb dX7_open_25 (by decide) ?_
      refine ox_callVv (C := RX7) (T := TX7) (N := 11) (ci := 6) (k := 0) (j := 0) (n := 1) (As := [.int 1]) (rest := []) (z2 := q) (k0 := (m_X7_needRoom q 1)) ⟨hx, hb, hml, hown, hts⟩ (c_X7_needRoom l hlt D b0 cA ad mq q 1) (PO_k0) rfl gX7_open_X7_needRoom rfl (by decide +kernel) rfl ⟨Nat.le_of_ble_eq_true rfl, Nat.le_of_ble_eq_true rfl⟩ ⟨Nat.le_of_ble_eq_true rfl, Nat.le_of_ble_eq_true rfl⟩ hK hW hS hKD hKX hz hl.1 rfl (Nat.le_of_ble_eq_true rfl) dX7_open_26 (fun hne H locs ce q9 hW hS h1 h2 h3 => ox_out hxt hlk hK (by rw [m_X7_open, if_neg c_1, if_pos c_2, if_pos c_3, if_neg hne]) hne hW hS h1 h2 h3 (Nat.le_of_ble_eq_true rfl) (Nat.le_of_ble_eq_true rfl)) (fun c_4 H locs hW hS => ?_)
      refine lv_aload_n hx hb dX7_open_29 rfl (lv_at hl 0 rfl) ?_
      refine ow_get (v2 := .ref (ad 3 0)) (ci := 6) (C := RX7) (T := TX7) (N := 11) hx hb hts hin_X7 hown hK hW 0 0 (PO_k0) rfl 2 (by decide) (List.mem_of_getElem? (i := 5) rfl) rfl rfl rfl dX7_open_30 ?_
      refine lv_iload_n hx hb dX7_open_33 rfl (lv_at hl 1 rfl) ?_
      have b_5 : vp_in f 16 := by
        have u_1 := rg_e f
        have k_2 : (0 : Int32).toInt = 0 := rfl
        have v_3 := cv_nlt c_1
        have k_4 : (16 : Int32).toInt = 16 := rfl
        have v_5 := cv_lt c_2
        have u_6 := rg_e (m_X7_needClass cl)
        have v_7 := cv_eq c_3
        have u_8 := rg_e cl
        have v_9 := ncl_t c_3
        have u_10 := rg_e (m_X7_needRoom q 1)
        have v_11 := cv_eq c_4
        have k_12 : (1 : Int32).toInt = 1 := rfl
        have v_13 := nro_t hI c_4
        have w_14 := hI.2.2.2.2.2.2.2.2.2.2.1
        exact vp_in_iff.mpr (by omega)
      by_cases c_6 : (q.1 3 0 (Int32.toNatClampNeg f)) = 0
      · refine ow_aldn hx hb hK hW 3 0 (PO_k3) 4 rfl b_5 c_6 dX7_open_34 ?_
        refine lv_ifnonnullN hx hb dX7_open_35 ?_
        refine lv_aload_n hx hb dX7_open_38 rfl (lv_at hl 0 rfl) ?_
        refine ow_get (v2 := .ref (ad 2 0)) (ci := 6) (C := RX7) (T := TX7) (N := 11) hx hb hts hin_X7 hown hK hW 0 0 (PO_k0) rfl 1 (by decide) (List.mem_of_getElem? (i := 6) rfl) rfl rfl rfl dX7_open_39 ?_
        refine lv_iload_n hx hb dX7_open_42 rfl (lv_at hl 2 rfl) ?_
        have b_7 : vp_in cl 8 := by
          have u_1 := rg_e cl
          have u_2 := rg_e f
          have k_3 : (0 : Int32).toInt = 0 := rfl
          have v_4 := cv_nlt c_1
          have k_5 : (16 : Int32).toInt = 16 := rfl
          have v_6 := cv_lt c_2
          have u_7 := rg_e (m_X7_needClass cl)
          have v_8 := cv_eq c_3
          have v_9 := ncl_t c_3
          have u_10 := rg_e (m_X7_needRoom q 1)
          have v_11 := cv_eq c_4
          have k_12 : (1 : Int32).toInt = 1 := rfl
          have v_13 := nro_t hI c_4
          have w_14 := hI.2.2.2.2.2.2.2.2.2.2.1
          exact vp_in_iff.mpr (by omega)
        refine ow_aald hx hb hK hW 2 0 (PO_k2) 3 rfl b_7 dX7_open_43 ?_
        refine ow_get (v2 := .int (q.1 10 (Int32.toNatClampNeg cl) 4)) (ci := 5) (C := RX6) (T := TX6) (N := 5) hx hb hts hin_X6 hown hK hW 10 (Int32.toNatClampNeg cl) (PO_k10 (lt8 b_7)) rfl 4 (by decide) (List.mem_of_getElem? (i := 7) rfl) rfl rfl rfl dX7_open_44 ?_
        refine lv_if_ne (tgt := 60) hx hb dX7_open_47 (by decide) (fun c_8 => ?_) (fun c_8 => ?_)
        · refine lv_aload_n hx hb dX7_open_60 rfl (lv_at hl 0 rfl) ?_
          refine ow_get (v2 := .ref (ad 3 0)) (ci := 6) (C := RX7) (T := TX7) (N := 11) hx hb hts hin_X7 hown hK hW 0 0 (PO_k0) rfl 2 (by decide) (List.mem_of_getElem? (i := 5) rfl) rfl rfl rfl dX7_open_61 ?_
          refine lv_iload_n hx hb dX7_open_64 rfl (lv_at hl 1 rfl) ?_
          refine bd_new (ci := 3) (C := RX4) (T := TX4) (N := 4) (fs := [.int 0, .int 0, .int 0, .int 0]) hx hb hts hin_X4 tyX4 tyX4_ok hown (List.mem_of_getElem? (i := 8) rfl) (List.mem_of_getElem? (i := 9) rfl) (List.mem_of_getElem? (i := 10) rfl) hK hW hS hz rfl (fun j hj => by rcases (show j = 0 ∨ j = 1 ∨ j = 2 ∨ j = 3 by omega) with rfl | rfl | rfl | rfl <;> rfl) 23 0 PO_23 (Nat.le_of_ble_eq_true rfl) (Nat.le_of_ble_eq_true rfl) dX7_open_65 (fun q9 H hW hS => ?_)
          refine lv_dup hx hb dX7_open_68 rfl ?_
          refine lv_iload_n hx hb dX7_open_69 rfl (lv_at hl 1 rfl) ?_
          refine lv_iload_n hx hb dX7_open_70 rfl (lv_at hl 2 rfl) ?_
          refine bd_ini (n := 2) (As := [.int f, .int cl]) (rest := [.ref q9, .int f, .ref (ad 3 0)]) ⟨hx, hb, hml, hown, hts⟩ (c_X4_init l D b0 cA (pu (PO cA ad q mq) 23 0 (.inr (3, [.int 0, .int 0, .int 0, .int 0]))) (au ad 23 0 q9) 23 0 q9 f cl au_s pu_s) gX7_open_X4_init rfl (List.mem_of_getElem? (i := 10) rfl) (List.mem_of_getElem? (i := 21) rfl) (List.mem_of_getElem? (i := 22) rfl) rfl (by decide +kernel) rfl ⟨Nat.le_of_ble_eq_true rfl, Nat.le_of_ble_eq_true rfl⟩ ⟨Nat.le_of_ble_eq_true rfl, Nat.le_of_ble_eq_true rfl⟩ hK hW hS hz hl.1 rfl (Nat.le_of_ble_eq_true rfl) dX7_open_71 (fun ad2 H locs hF hW hS => ?_)
          have hF : ad2 = au ad 23 0 q9 := hF
          subst hF
          unfold P2_X4_init at hW
          rw [pu_pu] at hW
          have b_9 : vp_in f 16 := by
            have u_1 := rg_e f
            have k_2 : (0 : Int32).toInt = 0 := rfl
            have v_3 := cv_nlt c_1
            have k_4 : (16 : Int32).toInt = 16 := rfl
            have v_5 := cv_lt c_2
            have u_6 := rg_e (m_X7_needClass cl)
            have v_7 := cv_eq c_3
            have u_8 := rg_e cl
            have v_9 := ncl_t c_3
            have u_10 := rg_e (m_X7_needRoom q 1)
            have v_11 := cv_eq c_4
            have k_12 : (1 : Int32).toInt = 1 := rfl
            have v_13 := nro_t hI c_4
            have u_14 := rg_e (q.1 10 (Int32.toNatClampNeg cl) 4)
            have v_15 := cv_ne c_8
            have w_16 := hI.2.2.2.2.2.2.2.2.2.2.1
            exact vp_in_iff.mpr (by omega)
          refine bd_aast (a := ad 3 0) (t := 4) (C := RX4) (T := TX4) (N := 4) hx hb hK hW hS 3 0 (au_n (fun h => absurd h.1 (by decide))) ((pu_n (fun h => absurd h.1 (by decide))).trans PO_k3) rfl 23 0 au_s pu_s rfl b_9 dX7_open_74 (fun H locs hW hS => ?_)
          have hmk := mk14 (J := (Int32.toNatClampNeg f)) (n := f) (cl := cl) c_6 hI.1 hW
          obtain ⟨ad, hak, hW, hl⟩ : ∃ ad2 : Nat → Nat → Nat, adk ad ad2 ∧ wd D (wA b0) (PO cA ad2 (cq_i (cq_i (cq_i (cq_i (cq_i q 14 (Int32.toNatClampNeg f) 0 f) 14 (Int32.toNatClampNeg f) 1 cl) 14 (Int32.toNatClampNeg f) 2 (-1)) 14 (Int32.toNatClampNeg f) 3 (-1)) 3 0 (Int32.toNatClampNeg f) 1) mq) ad2 H ∧ lv_has ls 3 [(0, .ref (ad2 0 0)), (1, .int f), (2, .int cl)] := ⟨au ad 14 (Int32.toNatClampNeg f) q9, hmk.2, hmk.1, lv_sub hl [0, 1, 2] rfl⟩
          refine lv_aload_n hx hb dX7_open_75 rfl (lv_at hl 0 rfl) ?_
          refine ow_get (v2 := .ref (ad 7 0)) (ci := 6) (C := RX7) (T := TX7) (N := 11) hx hb hts hin_X7 hown hK hW 0 0 (PO_k0) rfl 6 (by decide) (List.mem_of_getElem? (i := 11) rfl) rfl rfl rfl dX7_open_76 ?_
          refine lv_iconst (v := 2) hx hb dX7_open_79 (by decide) ?_
          refine lv_iload_n hx hb dX7_open_80 rfl (lv_at hl 1 rfl) ?_
          refine lv_iload_n hx hb dX7_open_81 rfl (lv_at hl 2 rfl) ?_
          refine lv_iconst (v := 0) hx hb dX7_open_82 (by decide) ?_
          refine lv_lconst (v := 0) hx hb dX7_open_83 (by decide) ?_
          have h_10 : 0 ≤ ((cq_i (cq_i (cq_i (cq_i (cq_i q 14 (Int32.toNatClampNeg f) 0 f) 14 (Int32.toNatClampNeg f) 1 cl) 14 (Int32.toNatClampNeg f) 2 (-1)) 14 (Int32.toNatClampNeg f) 3 (-1)) 3 0 (Int32.toNatClampNeg f) 1).1 7 0 2).toInt ∧ ((cq_i (cq_i (cq_i (cq_i (cq_i q 14 (Int32.toNatClampNeg f) 0 f) 14 (Int32.toNatClampNeg f) 1 cl) 14 (Int32.toNatClampNeg f) 2 (-1)) 14 (Int32.toNatClampNeg f) 3 (-1)) 3 0 (Int32.toNatClampNeg f) 1).1 7 0 2).toInt ≤ 399 := by
            rw [show (cq_i (cq_i (cq_i (cq_i (cq_i q 14 (Int32.toNatClampNeg f) 0 f) 14 (Int32.toNatClampNeg f) 1 cl) 14 (Int32.toNatClampNeg f) 2 (-1)) 14 (Int32.toNatClampNeg f) 3 (-1)) 3 0 (Int32.toNatClampNeg f) 1).1 7 0 2 = (q.1 7 0 2) from ((cq_ne (by decide)).trans ((cq_ne (by decide)).trans ((cq_ne (by decide)).trans ((cq_ne (by decide)).trans (cq_ne (by decide))))))]
            have k_1 : (2 : Int32).toInt = 2 := rfl
            have u_2 := rg_e f
            have u_3 := rg_e cl
            have k_4 : (0 : Int32).toInt = 0 := rfl
            have v_5 := cv_nlt c_1
            have k_6 : (16 : Int32).toInt = 16 := rfl
            have v_7 := cv_lt c_2
            have u_8 := rg_e (m_X7_needClass cl)
            have v_9 := cv_eq c_3
            have v_10 := ncl_t c_3
            have u_11 := rg_e (m_X7_needRoom q 1)
            have v_12 := cv_eq c_4
            have k_13 : (1 : Int32).toInt = 1 := rfl
            have v_14 := nro_t hI c_4
            have u_15 := rg_e (q.1 10 (Int32.toNatClampNeg cl) 4)
            have v_16 := cv_ne c_8
            have w_17 := hI.2.2.2.2.2.2.2.2.2.2.1
            exact by omega
          refine ow_callVv (C := RX0) (T := TX0) (N := 3) (ci := 0) (k := 7) (j := 0) (n := 5) (As := [.int 2, .int f, .int cl, .int 0, .long 0]) (rest := []) (z2 := (m_X0_write (cq_i (cq_i (cq_i (cq_i (cq_i q 14 (Int32.toNatClampNeg f) 0 f) 14 (Int32.toNatClampNeg f) 1 cl) 14 (Int32.toNatClampNeg f) 2 (-1)) 14 (Int32.toNatClampNeg f) 3 (-1)) 3 0 (Int32.toNatClampNeg f) 1) 2 f cl 0 0)) ⟨hx, hb, hml, hown, hts⟩ (c_X0_write l D b0 cA ad mq (cq_i (cq_i (cq_i (cq_i (cq_i q 14 (Int32.toNatClampNeg f) 0 f) 14 (Int32.toNatClampNeg f) 1 cl) 14 (Int32.toNatClampNeg f) 2 (-1)) 14 (Int32.toNatClampNeg f) 3 (-1)) 3 0 (Int32.toNatClampNeg f) 1) 2 f cl 0 0 h_10) (PO_k7) rfl gX7_open_X0_write rfl (by decide +kernel) rfl ⟨Nat.le_of_ble_eq_true rfl, Nat.le_of_ble_eq_true rfl⟩ ⟨Nat.le_of_ble_eq_true rfl, Nat.le_of_ble_eq_true rfl⟩ hK hW hS hKD hl.1 rfl (Nat.le_of_ble_eq_true rfl) dX7_open_84 (fun H locs hW hS => ?_)
          exact od_vret hx hb hr hlk hK hW hak hS (Nat.le_of_ble_eq_true rfl) (Nat.le_of_ble_eq_true rfl) (by rw [m_X7_open, if_neg c_1, if_pos c_2, if_pos c_3, if_pos c_4, if_pos c_6, if_neg c_8]) dX7_open_87
        · exact ox_throwS (cls := "java/lang/IllegalStateException") (text := "the folder is there, or its class has no version") hx hb hlt hown (hts _ (List.mem_of_getElem? (i := 3) rfl)) (hts _ (List.mem_of_getElem? (i := 4) rfl)) hat_3 (by decide +kernel) (by decide +kernel) hK hW hS hKX (by decide +kernel) (hl.1.trans hml.symm) hxt (by rw [m_X7_open, if_neg c_1, if_pos c_2, if_pos c_3, if_pos c_4, if_pos c_6, if_pos c_8]; exact ⟨rfl, show ¬ (3 : Int32) = 0 by decide⟩) (Nat.le_of_ble_eq_true rfl) (Nat.le_of_ble_eq_true rfl) (Nat.le_of_ble_eq_true rfl) (Nat.le_of_ble_eq_true rfl) hlk (Nat.le_of_ble_eq_true rfl) (Nat.le_of_ble_eq_true rfl) dX7_open_50 dX7_open_53 dX7_open_54 dX7_open_56 dX7_open_59
      · refine ow_aldp hx hb hK hW 3 0 (PO_k3) 4 rfl b_5 c_6 dX7_open_34 ?_
        refine lv_ifnonnull (tgt := 50) hx hb dX7_open_35 (by decide) ?_
        exact ox_throwS (cls := "java/lang/IllegalStateException") (text := "the folder is there, or its class has no version") hx hb hlt hown (hts _ (List.mem_of_getElem? (i := 3) rfl)) (hts _ (List.mem_of_getElem? (i := 4) rfl)) hat_3 (by decide +kernel) (by decide +kernel) hK hW hS hKX (by decide +kernel) (hl.1.trans hml.symm) hxt (by rw [m_X7_open, if_neg c_1, if_pos c_2, if_pos c_3, if_pos c_4, if_neg c_6]; exact ⟨rfl, show ¬ (3 : Int32) = 0 by decide⟩) (Nat.le_of_ble_eq_true rfl) (Nat.le_of_ble_eq_true rfl) (Nat.le_of_ble_eq_true rfl) (Nat.le_of_ble_eq_true rfl) hlk (Nat.le_of_ble_eq_true rfl) (Nat.le_of_ble_eq_true rfl) dX7_open_50 dX7_open_53 dX7_open_54 dX7_open_56 dX7_open_59
    · exact ox_throwS (cls := "java/lang/IndexOutOfBoundsException") (text := "no such folder") hx hb hlt hown (hts _ (List.mem_of_getElem? (i := 1) rfl)) (hts _ (List.mem_of_getElem? (i := 2) rfl)) hat_1 (by decide +kernel) (by decide +kernel) hK hW hS hKX (by decide +kernel) (hl.1.trans hml.symm) hxt (by rw [m_X7_open, if_neg c_1, if_neg c_2]; exact ⟨rfl, show ¬ (1 : Int32) = 0 by decide⟩) (Nat.le_of_ble_eq_true rfl) (Nat.le_of_ble_eq_true rfl) (Nat.le_of_ble_eq_true rfl) (Nat.le_of_ble_eq_true rfl) hlk (Nat.le_of_ble_eq_true rfl) (Nat.le_of_ble_eq_true rfl) dX7_open_10 dX7_open_13 dX7_open_14 dX7_open_16 dX7_open_19

def m_X7_file (q : qC) (f : Int32) (size : Int32) (dg : Int64) (ka : Int32) (kb : Int32) (kc : Int32) (day : Int32) : Int32 × Int32 × qC := (if (m_X7_folderAt q f) = 0 then (if (m_X7_needKeyOrNone ka) = 0 then (if (m_X7_needKeyOrNone kb) = 0 then (if (m_X7_needKeyOrNone kc) = 0 then (if (m_X7_needDayOfAct q day) = 0 then (if size < 1 then (2, 0, q) else (if size ≤ 65536 then (if (m_X7_needRoom q 1) = 0 then (if (q.1 14 (Int32.toNatClampNeg f) 2) = (-1) then (if (q.1 0 0 7) < 64 then (0, (q.1 0 0 7), (m_X0_write (cq_i (cq_i (cq_i (cq_i (cq_i (cq_i (cq_i (cq_i (cq_l (cq_i (cq_i q 16 (Int32.toNatClampNeg (q.1 0 0 7)) 0 f) 16 (Int32.toNatClampNeg (q.1 0 0 7)) 1 size) 16 (Int32.toNatClampNeg (q.1 0 0 7)) 2 dg) 16 (Int32.toNatClampNeg (q.1 0 0 7)) 3 ka) 16 (Int32.toNatClampNeg (q.1 0 0 7)) 4 kb) 16 (Int32.toNatClampNeg (q.1 0 0 7)) 5 kc) 16 (Int32.toNatClampNeg (q.1 0 0 7)) 6 day) 16 (Int32.toNatClampNeg (q.1 0 0 7)) 7 0) 5 0 (Int32.toNatClampNeg (q.1 0 0 7)) 1) 0 0 7 ((q.1 0 0 7) + 1)) 0 0 9 day) 5 (q.1 0 0 7) f day dg)) else (3, 0, q)) else (3, 0, q)) else ((m_X7_needRoom q 1), 0, q)) else (2, 0, q))) else ((m_X7_needDayOfAct q day), 0, q)) else ((m_X7_needKeyOrNone kc), 0, q)) else ((m_X7_needKeyOrNone kb), 0, q)) else ((m_X7_needKeyOrNone ka), 0, q)) else ((m_X7_folderAt q f), 0, q))
set_option maxHeartbeats 4000000 in
set_option maxRecDepth 100000 in
theorem c_X7_file (l : Launch) (hlt : l.stackTraces = false) (D : va_G) (b0 : Nat) (cA : Nat → ClassId) (ad : Nat → Nat → Nat) (mq : qM) (q : qC) (f : Int32) (size : Int32) (dg : Int64) (ka : Int32) (kb : Int32) (kc : Int32) (day : Int32) (hI : cI q) : xd_i l yX7_file wsX7_file 8 131 8 50 D b0 cA ad mq q [.ref (ad 0 0), .int f, .int size, .long dg, .int ka, .int kb, .int kc, .int day] (m_X7_file q f size dg ka kb kc day) := by
  refine xc_of (by decide) rfl (Nat.le_of_ble_eq_true rfl) ?_
  intro p e s m below meth c hx hb hml hr hlk hown hts hK hW hKD hKX hz hxt ls hl
  have hown : s.vm.findClass RX7 = some m.cls := hown
  have hS : va_S (wA b0) s.heap s.heap [] := va_S.rf
  have hl : lv_has ls 11 [(0, .ref (ad 0 0)), (1, .int f), (2, .int size), (3, .long dg), (5, .int ka), (6, .int kb), (7, .int kc), (8, .int day)] := hl
  have hin_X4 : ∀ w ∈ wsX40, w ∈ wsX7_file := fun w h => List.mem_cons_of_mem _ (List.mem_append_left _ (List.mem_append_left _ (List.mem_append_left _ (List.mem_append_left _ (List.mem_append_left _ (List.mem_append_left _ (List.mem_append_right _ h)))))))
  have hin_X7 : ∀ w ∈ wsX70, w ∈ wsX7_file := fun w h => List.mem_cons_of_mem _ (List.mem_append_left _ (List.mem_append_left _ (List.mem_append_left _ (List.mem_append_left _ (List.mem_append_left _ (List.mem_append_right _ h))))))
  have hin_X3 : ∀ w ∈ wsX30, w ∈ wsX7_file := fun w h => List.mem_cons_of_mem _ (List.mem_append_left _ (List.mem_append_left _ (List.mem_append_left _ (List.mem_append_left _ (List.mem_append_right _ h)))))
  have hin_X0 : ∀ w ∈ wsX00, w ∈ wsX7_file := fun w h => List.mem_cons_of_mem _ (List.mem_append_left _ (List.mem_append_left _ (List.mem_append_left _ (List.mem_append_right _ h))))
  have hat_2 := xat_2 (fun w h => hts w (List.mem_cons_of_mem _ (List.mem_append_left _ (List.mem_append_left _ (List.mem_append_right _ h))))) hKX
  have hat_3 := xat_3 (fun w h => hts w (List.mem_cons_of_mem _ (List.mem_append_left _ (List.mem_append_right _ h)))) hKX
  refine lv_aload_n hx hb dX7_file_0 rfl (lv_at hl 0 rfl) ?_
  refine lv_iload_n hx hb dX7_file_1 rfl (lv_at hl 1 rfl) ?_
  refine ox_callVr (C := RX7) (T := TX7) (N := 11) (ci := 6) (k := 0) (j := 0) (n := 1) (As := [.int f]) (rest := []) (a := (ad 14 (Int32.toNatClampNeg f))) (k0 := (m_X7_folderAt q f)) ⟨hx, hb, hml, hown, hts⟩ (c_X7_folderAt l hlt D b0 cA ad mq q f) (PO_k0) rfl gX7_file_X7_folderAt rfl (by decide +kernel) rfl ⟨Nat.le_of_ble_eq_true rfl, Nat.le_of_ble_eq_true rfl⟩ ⟨Nat.le_of_ble_eq_true rfl, Nat.le_of_ble_eq_true rfl⟩ hK hW hS hKD hKX hz hl.1 rfl (Nat.le_of_ble_eq_true rfl) dX7_file_2 (fun hne H locs ce q9 hW hS h1 h2 h3 => ox_out hxt hlk hK (by rw [m_X7_file, if_neg hne]) hne hW hS h1 h2 h3 (Nat.le_of_ble_eq_true rfl) (Nat.le_of_ble_eq_true rfl)) (fun c_1 H locs hW hS => ?_)
  refine lv_astore (lv' := [(9, .ref (ad 14 (Int32.toNatClampNeg f))), (0, .ref (ad 0 0)), (1, .int f), (2, .int size), (3, .long dg), (5, .int ka), (6, .int kb), (7, .int kc), (8, .int day)]) hx hb dX7_file_5 hl (by decide) rfl (fun ls hl => ?_)
  refine lv_iload hx hb dX7_file_7 (lv_at hl 5 rfl) ?_
  refine ox_callSv (n := 1) (As := [.int ka]) (rest := []) (z2 := q) (k0 := (m_X7_needKeyOrNone ka)) ⟨hx, hb, hml, hown, hts⟩ (c_X7_needKeyOrNone l hlt D b0 cA ad mq q ka) gX7_file_X7_needKeyOrNone rfl (by decide +kernel) rfl ⟨Nat.le_of_ble_eq_true rfl, Nat.le_of_ble_eq_true rfl⟩ ⟨Nat.le_of_ble_eq_true rfl, Nat.le_of_ble_eq_true rfl⟩ hK hW hS hKD hKX hz hl.1 rfl (Nat.le_of_ble_eq_true rfl) dX7_file_9 (fun hne H locs ce q9 hW hS h1 h2 h3 => ox_out hxt hlk hK (by rw [m_X7_file, if_pos c_1, if_neg hne]) hne hW hS h1 h2 h3 (Nat.le_of_ble_eq_true rfl) (Nat.le_of_ble_eq_true rfl)) (fun c_2 H locs hW hS => ?_)
  refine lv_iload hx hb dX7_file_12 (lv_at hl 6 rfl) ?_
  refine ox_callSv (n := 1) (As := [.int kb]) (rest := []) (z2 := q) (k0 := (m_X7_needKeyOrNone kb)) ⟨hx, hb, hml, hown, hts⟩ (c_X7_needKeyOrNone l hlt D b0 cA ad mq q kb) gX7_file_X7_needKeyOrNone rfl (by decide +kernel) rfl ⟨Nat.le_of_ble_eq_true rfl, Nat.le_of_ble_eq_true rfl⟩ ⟨Nat.le_of_ble_eq_true rfl, Nat.le_of_ble_eq_true rfl⟩ hK hW hS hKD hKX hz hl.1 rfl (Nat.le_of_ble_eq_true rfl) dX7_file_14 (fun hne H locs ce q9 hW hS h1 h2 h3 => ox_out hxt hlk hK (by rw [m_X7_file, if_pos c_1, if_pos c_2, if_neg hne]) hne hW hS h1 h2 h3 (Nat.le_of_ble_eq_true rfl) (Nat.le_of_ble_eq_true rfl)) (fun c_3 H locs hW hS => ?_)
  refine lv_iload hx hb dX7_file_17 (lv_at hl 7 rfl) ?_
  refine ox_callSv (n := 1) (As := [.int kc]) (rest := []) (z2 := q) (k0 := (m_X7_needKeyOrNone kc)) ⟨hx, hb, hml, hown, hts⟩ (c_X7_needKeyOrNone l hlt D b0 cA ad mq q kc) gX7_file_X7_needKeyOrNone rfl (by decide +kernel) rfl ⟨Nat.le_of_ble_eq_true rfl, Nat.le_of_ble_eq_true rfl⟩ ⟨Nat.le_of_ble_eq_true rfl, Nat.le_of_ble_eq_true rfl⟩ hK hW hS hKD hKX hz hl.1 rfl (Nat.le_of_ble_eq_true rfl) dX7_file_19 (fun hne H locs ce q9 hW hS h1 h2 h3 => ox_out hxt hlk hK (by rw [m_X7_file, if_pos c_1, if_pos c_2, if_pos c_3, if_neg hne]) hne hW hS h1 h2 h3 (Nat.le_of_ble_eq_true rfl) (Nat.le_of_ble_eq_true rfl)) (fun c_4 H locs hW hS => ?_)
  refine lv_aload_n hx hb dX7_file_22 rfl (lv_at hl 1 rfl) ?_
  refine lv_iload hx hb dX7_file_23 (lv_at hl 8 rfl) ?_
  refine ox_callVv (C := RX7) (T := TX7) (N := 11) (ci := 6) (k := 0) (j := 0) (n := 1) (As := [.int day]) (rest := []) (z2 := q) (k0 := (m_X7_needDayOfAct q day)) ⟨hx, hb, hml, hown, hts⟩ (c_X7_needDayOfAct l hlt D b0 cA ad mq q day) (PO_k0) rfl gX7_file_X7_needDayOfAct rfl (by decide +kernel) rfl ⟨Nat.le_of_ble_eq_true rfl, Nat.le_of_ble_eq_true rfl⟩ ⟨Nat.le_of_ble_eq_true rfl, Nat.le_of_ble_eq_true rfl⟩ hK hW hS hKD hKX hz hl.1 rfl (Nat.le_of_ble_eq_true rfl) dX7_file_25 (fun hne H locs ce q9 hW hS h1 h2 h3 => ox_out hxt hlk hK (by rw [m_X7_file, if_pos c_1, if_pos c_2, if_pos c_3, if_pos c_4, if_neg hne]) hne hW hS h1 h2 h3 (Nat.le_of_ble_eq_true rfl) (Nat.le_of_ble_eq_true rfl)) (fun c_5 H locs hW hS => ?_)
  refine lv_iload_n hx hb dX7_file_28 rfl (lv_at hl 3 rfl) ?_
  refine lv_iconst (v := 1) hx hb dX7_file_29 (by decide) ?_
  refine lv_icmp_lt (tgt := 39) hx hb dX7_file_30 (by decide) (fun c_6 => ?_) (fun c_6 => ?_)
  · exact ox_throwS (cls := "java/lang/IllegalArgumentException") (text := "no such size") hx hb hlt hown (hts _ (List.mem_of_getElem? (i := 1) rfl)) (hts _ (List.mem_of_getElem? (i := 2) rfl)) hat_2 (by decide +kernel) (by decide +kernel) hK hW hS hKX (by decide +kernel) (hl.1.trans hml.symm) hxt (by rw [m_X7_file, if_pos c_1, if_pos c_2, if_pos c_3, if_pos c_4, if_pos c_5, if_pos c_6]; exact ⟨rfl, show ¬ (2 : Int32) = 0 by decide⟩) (Nat.le_of_ble_eq_true rfl) (Nat.le_of_ble_eq_true rfl) (Nat.le_of_ble_eq_true rfl) (Nat.le_of_ble_eq_true rfl) hlk (Nat.le_of_ble_eq_true rfl) (Nat.le_of_ble_eq_true rfl) dX7_file_39 dX7_file_42 dX7_file_43 dX7_file_45 dX7_file_48
  · refine lv_iload_n hx hb dX7_file_33 rfl (lv_at hl 3 rfl) ?_
    refine lv_ldc (v := 65536) hx hb hown (hts _ (List.mem_of_getElem? (i := 5) rfl)) dX7_file_34 ?_
    refine lv_icmp_le (tgt := 49) hx hb dX7_file_36 (by decide) (fun c_7 => ?_) (fun c_7 => ?_)
    · refine lv_aload_n hx hb dX7_file_49 rfl (lv_at hl 1 rfl) ?_
      refine lv_iconst (v := 1) hx hb dX7_file_50 (by decide) ?_
      refine ox_callVv (C := RX7) (T := TX7) (N := 11) (ci := 6) (k := 0) (j := 0) (n := 1) (As := [.int 1]) (rest := []) (z2 := q) (k0 := (m_X7_needRoom q 1)) ⟨hx, hb, hml, hown, hts⟩ (c_X7_needRoom l hlt D b0 cA ad mq q 1) (PO_k0) rfl gX7_file_X7_needRoom rfl (by decide +kernel) rfl ⟨Nat.le_of_ble_eq_true rfl, Nat.le_of_ble_eq_true rfl⟩ ⟨Nat.le_of_ble_eq_true rfl, Nat.le_of_ble_eq_true rfl⟩ hK hW hS hKD hKX hz hl.1 rfl (Nat.le_of_ble_eq_true rfl) dX7_file_51 (fun hne H locs ce q9 hW hS h1 h2 h3 => ox_out hxt hlk hK (by rw [m_X7_file, if_pos c_1, if_pos c_2, if_pos c_3, if_pos c_4, if_pos c_5, if_neg c_6, if_pos c_7, if_neg hne]) hne hW hS h1 h2 h3 (Nat.le_of_ble_eq_true rfl) (Nat.le_of_ble_eq_true rfl)) (fun c_8 H locs hW hS => ?_)
      refine lv_aload hx hb dX7_file_54 (lv_at hl 0 rfl) ?_
      refine ow_get (v2 := .int (q.1 14 (Int32.toNatClampNeg f) 2)) (ci := 3) (C := RX4) (T := TX4) (N := 4) hx hb hts hin_X4 hown hK hW 14 (Int32.toNatClampNeg f) (PO_k14 (fa_p c_1)) rfl 2 (by decide) (List.mem_of_getElem? (i := 6) rfl) rfl rfl rfl dX7_file_56 ?_
      refine lv_iconst (v := (-1)) hx hb dX7_file_59 (by decide) ?_
      refine lv_icmp_ne (tgt := 72) hx hb dX7_file_60 (by decide) (fun c_9 => ?_) (fun c_9 => ?_)
      · exact ox_throwS (cls := "java/lang/IllegalStateException") (text := "the folder is closed, or all records are there") hx hb hlt hown (hts _ (List.mem_of_getElem? (i := 3) rfl)) (hts _ (List.mem_of_getElem? (i := 4) rfl)) hat_3 (by decide +kernel) (by decide +kernel) hK hW hS hKX (by decide +kernel) (hl.1.trans hml.symm) hxt (by rw [m_X7_file, if_pos c_1, if_pos c_2, if_pos c_3, if_pos c_4, if_pos c_5, if_neg c_6, if_pos c_7, if_pos c_8, if_neg c_9]; exact ⟨rfl, show ¬ (3 : Int32) = 0 by decide⟩) (Nat.le_of_ble_eq_true rfl) (Nat.le_of_ble_eq_true rfl) (Nat.le_of_ble_eq_true rfl) (Nat.le_of_ble_eq_true rfl) hlk (Nat.le_of_ble_eq_true rfl) (Nat.le_of_ble_eq_true rfl) dX7_file_72 dX7_file_75 dX7_file_76 dX7_file_78 dX7_file_81
      · refine lv_aload_n hx hb dX7_file_63 rfl (lv_at hl 1 rfl) ?_
        refine ow_get (v2 := .int (q.1 0 0 7)) (ci := 6) (C := RX7) (T := TX7) (N := 11) hx hb hts hin_X7 hown hK hW 0 0 (PO_k0) rfl 7 (by decide) (List.mem_of_getElem? (i := 7) rfl) rfl rfl rfl dX7_file_64 ?_
        refine lv_bipush (v := 64) hx hb dX7_file_67 (by decide) ?_
        refine lv_icmp_lt (tgt := 82) hx hb dX7_file_69 (by decide) (fun c_10 => ?_) (fun c_10 => ?_)
        · refine lv_aload_n hx hb dX7_file_82 rfl (lv_at hl 1 rfl) ?_
          refine ow_get (v2 := .int (q.1 0 0 7)) (ci := 6) (C := RX7) (T := TX7) (N := 11) hx hb hts hin_X7 hown hK hW 0 0 (PO_k0) rfl 7 (by decide) (List.mem_of_getElem? (i := 7) rfl) rfl rfl rfl dX7_file_83 ?_
          refine lv_istore (lv' := [(10, .int (q.1 0 0 7)), (9, .ref (ad 14 (Int32.toNatClampNeg f))), (0, .ref (ad 0 0)), (1, .int f), (2, .int size), (3, .long dg), (5, .int ka), (6, .int kb), (7, .int kc), (8, .int day)]) hx hb dX7_file_86 hl (by decide) rfl (fun ls hl => ?_)
          refine lv_aload_n hx hb dX7_file_88 rfl (lv_at hl 2 rfl) ?_
          refine ow_get (v2 := .ref (ad 5 0)) (ci := 6) (C := RX7) (T := TX7) (N := 11) hx hb hts hin_X7 hown hK hW 0 0 (PO_k0) rfl 4 (by decide) (List.mem_of_getElem? (i := 8) rfl) rfl rfl rfl dX7_file_89 ?_
          refine lv_iload hx hb dX7_file_92 (lv_at hl 0 rfl) ?_
          refine bd_new (ci := 2) (C := RX3) (T := TX3) (N := 8) (fs := [.null, .int 0, .long 0, .int 0, .int 0, .int 0, .int 0, .int 0]) hx hb hts hin_X3 tyX3 tyX3_ok hown (List.mem_of_getElem? (i := 9) rfl) (List.mem_of_getElem? (i := 10) rfl) (List.mem_of_getElem? (i := 11) rfl) hK hW hS hz rfl (fun j hj => by rcases (show j = 0 ∨ j = 1 ∨ j = 2 ∨ j = 3 ∨ j = 4 ∨ j = 5 ∨ j = 6 ∨ j = 7 by omega) with rfl | rfl | rfl | rfl | rfl | rfl | rfl | rfl <;> rfl) 23 0 PO_23 (Nat.le_of_ble_eq_true rfl) (Nat.le_of_ble_eq_true rfl) dX7_file_94 (fun q9 H hW hS => ?_)
          refine lv_dup hx hb dX7_file_97 rfl ?_
          refine lv_aload hx hb dX7_file_98 (lv_at hl 1 rfl) ?_
          refine lv_iload_n hx hb dX7_file_100 rfl (lv_at hl 4 rfl) ?_
          refine lv_lload_n hx hb dX7_file_101 rfl (lv_at hl 5 rfl) ?_
          refine lv_iload hx hb dX7_file_102 (lv_at hl 6 rfl) ?_
          refine lv_iload hx hb dX7_file_104 (lv_at hl 7 rfl) ?_
          refine lv_iload hx hb dX7_file_106 (lv_at hl 8 rfl) ?_
          refine lv_iload hx hb dX7_file_108 (lv_at hl 9 rfl) ?_
          refine bd_ini (n := 7) (As := [.ref (ad 14 (Int32.toNatClampNeg f)), .int size, .long dg, .int ka, .int kb, .int kc, .int day]) (rest := [.ref q9, .int (q.1 0 0 7), .ref (ad 5 0)]) ⟨hx, hb, hml, hown, hts⟩ (c_X3_init l D b0 cA (pu (PO cA ad q mq) 23 0 (.inr (2, [.null, .int 0, .long 0, .int 0, .int 0, .int 0, .int 0, .int 0]))) (au ad 23 0 q9) 23 0 q9 (ad 14 (Int32.toNatClampNeg f)) size dg ka kb kc day au_s pu_s) gX7_file_X3_init rfl (List.mem_of_getElem? (i := 11) rfl) (List.mem_of_getElem? (i := 38) rfl) (List.mem_of_getElem? (i := 39) rfl) rfl (by decide +kernel) rfl ⟨Nat.le_of_ble_eq_true rfl, Nat.le_of_ble_eq_true rfl⟩ ⟨Nat.le_of_ble_eq_true rfl, Nat.le_of_ble_eq_true rfl⟩ hK hW hS hz hl.1 rfl (Nat.le_of_ble_eq_true rfl) dX7_file_110 (fun ad2 H locs hF hW hS => ?_)
          have hF : ad2 = au ad 23 0 q9 := hF
          subst hF
          unfold P2_X3_init at hW
          rw [pu_pu] at hW
          have b_11 : vp_in (q.1 0 0 7) 64 := by
            have u_1 := rg_e (q.1 0 0 7)
            have u_2 := rg_e (m_X7_folderAt q f)
            have k_3 : (0 : Int32).toInt = 0 := rfl
            have v_4 := cv_eq c_1
            have u_5 := rg_e f
            have v_6 := fa_r c_1
            have u_7 := rg_e (m_X7_needKeyOrNone ka)
            have v_8 := cv_eq c_2
            have u_9 := rg_e ka
            have v_10 := nke_t c_2
            have u_11 := rg_e (m_X7_needKeyOrNone kb)
            have v_12 := cv_eq c_3
            have u_13 := rg_e kb
            have v_14 := nke_t c_3
            have u_15 := rg_e (m_X7_needKeyOrNone kc)
            have v_16 := cv_eq c_4
            have u_17 := rg_e kc
            have v_18 := nke_t c_4
            have u_19 := rg_e (m_X7_needDayOfAct q day)
            have v_20 := cv_eq c_5
            have u_21 := rg_e day
            have v_22 := ndo_t c_5
            have u_23 := rg_e size
            have k_24 : (1 : Int32).toInt = 1 := rfl
            have v_25 := cv_nlt c_6
            have k_26 : (65536 : Int32).toInt = 65536 := rfl
            have v_27 := cv_le c_7
            have u_28 := rg_e (m_X7_needRoom q 1)
            have v_29 := cv_eq c_8
            have v_30 := nro_t hI c_8
            have u_31 := rg_e (q.1 14 (Int32.toNatClampNeg f) 2)
            have k_32 : ((-1) : Int32).toInt = -1 := rfl
            have v_33 := cv_eq c_9
            have k_34 : (64 : Int32).toInt = 64 := rfl
            have v_35 := cv_lt c_10
            have w_36 := hI.2.2.2.2.2.2.2.2.2.2.1
            have w_37 := hI.2.2.2.2.2.1
            exact vp_in_iff.mpr (by omega)
          refine bd_aast (a := ad 5 0) (t := 6) (C := RX3) (T := TX3) (N := 8) hx hb hK hW hS 5 0 (au_n (fun h => absurd h.1 (by decide))) ((pu_n (fun h => absurd h.1 (by decide))).trans PO_k5) rfl 23 0 au_s pu_s rfl b_11 dX7_file_113 (fun H locs hW hS => ?_)
          have hmk := mk16 (J := (Int32.toNatClampNeg (q.1 0 0 7))) (f := f) (size := size) (dg := dg) (ka := ka) (kb := kb) (kc := kc) (day := day) hW
          obtain ⟨ad, hak, hW, hl⟩ : ∃ ad2 : Nat → Nat → Nat, adk ad ad2 ∧ wd D (wA b0) (PO cA ad2 (cq_i (cq_i (cq_i (cq_i (cq_i (cq_i (cq_l (cq_i (cq_i q 16 (Int32.toNatClampNeg (q.1 0 0 7)) 0 f) 16 (Int32.toNatClampNeg (q.1 0 0 7)) 1 size) 16 (Int32.toNatClampNeg (q.1 0 0 7)) 2 dg) 16 (Int32.toNatClampNeg (q.1 0 0 7)) 3 ka) 16 (Int32.toNatClampNeg (q.1 0 0 7)) 4 kb) 16 (Int32.toNatClampNeg (q.1 0 0 7)) 5 kc) 16 (Int32.toNatClampNeg (q.1 0 0 7)) 6 day) 16 (Int32.toNatClampNeg (q.1 0 0 7)) 7 0) 5 0 (Int32.toNatClampNeg (q.1 0 0 7)) 1) mq) ad2 H ∧ lv_has ls 11 [(10, .int (q.1 0 0 7)), (0, .ref (ad2 0 0)), (1, .int f), (2, .int size), (3, .long dg), (5, .int ka), (6, .int kb), (7, .int kc), (8, .int day)] := ⟨au ad 16 (Int32.toNatClampNeg (q.1 0 0 7)) q9, hmk.2, hmk.1, lv_sub hl [0, 2, 3, 4, 5, 6, 7, 8, 9] rfl⟩
          refine lv_aload_n hx hb dX7_file_114 rfl (lv_at hl 1 rfl) ?_
          refine lv_dup hx hb dX7_file_115 rfl ?_
          refine ow_get (v2 := .int (q.1 0 0 7)) (ci := 6) (C := RX7) (T := TX7) (N := 11) hx hb hts hin_X7 hown hK hW 0 0 (PO_k0) rfl 7 (by decide) (List.mem_of_getElem? (i := 7) rfl) rfl rfl (congrArg Value.int ((cq_ne (by decide)).trans ((cq_ne (by decide)).trans ((cq_ne (by decide)).trans ((cq_ne (by decide)).trans ((cq_ne (by decide)).trans ((cq_ne (by decide)).trans ((cq_nel).trans ((cq_ne (by decide)).trans (cq_ne (by decide))))))))))) dX7_file_116 ?_
          refine lv_iconst (v := 1) hx hb dX7_file_119 (by decide) ?_
          refine lv_iadd hx hb dX7_file_120 ?_
          refine ow_puti (ci := 6) (C := RX7) (T := TX7) (N := 11) (ty := .int) hx hb hts hin_X7 tyX7 tyX7_ok nmX7 hown hK hW hS 0 0 (PO_k0) rfl 7 (by decide) (List.mem_of_getElem? (i := 7) rfl) rfl rfl (by decide +kernel) rfl rfl (Nat.le_of_ble_eq_true rfl) (by decide) (PO_w0_7) dX7_file_121 (fun H locs hW hS => ?_)
          refine lv_aload_n hx hb dX7_file_124 rfl (lv_at hl 1 rfl) ?_
          refine lv_iload hx hb dX7_file_125 (lv_at hl 8 rfl) ?_
          refine ow_puti (ci := 6) (C := RX7) (T := TX7) (N := 11) (ty := .int) hx hb hts hin_X7 tyX7 tyX7_ok nmX7 hown hK hW hS 0 0 (PO_k0) rfl 9 (by decide) (List.mem_of_getElem? (i := 12) rfl) rfl rfl (by decide +kernel) rfl rfl (Nat.le_of_ble_eq_true rfl) (by decide) (PO_w0_9) dX7_file_127 (fun H locs hW hS => ?_)
          refine lv_aload_n hx hb dX7_file_130 rfl (lv_at hl 1 rfl) ?_
          refine ow_get (v2 := .ref (ad 7 0)) (ci := 6) (C := RX7) (T := TX7) (N := 11) hx hb hts hin_X7 hown hK hW 0 0 (PO_k0) rfl 6 (by decide) (List.mem_of_getElem? (i := 13) rfl) rfl rfl rfl dX7_file_131 ?_
          refine lv_iconst (v := 5) hx hb dX7_file_134 (by decide) ?_
          refine lv_iload hx hb dX7_file_135 (lv_at hl 0 rfl) ?_
          refine lv_iload_n hx hb dX7_file_137 rfl (lv_at hl 2 rfl) ?_
          refine lv_iload hx hb dX7_file_138 (lv_at hl 8 rfl) ?_
          refine lv_lload_n hx hb dX7_file_140 rfl (lv_at hl 4 rfl) ?_
          have h_12 : 0 ≤ ((cq_i (cq_i (cq_i (cq_i (cq_i (cq_i (cq_i (cq_i (cq_l (cq_i (cq_i q 16 (Int32.toNatClampNeg (q.1 0 0 7)) 0 f) 16 (Int32.toNatClampNeg (q.1 0 0 7)) 1 size) 16 (Int32.toNatClampNeg (q.1 0 0 7)) 2 dg) 16 (Int32.toNatClampNeg (q.1 0 0 7)) 3 ka) 16 (Int32.toNatClampNeg (q.1 0 0 7)) 4 kb) 16 (Int32.toNatClampNeg (q.1 0 0 7)) 5 kc) 16 (Int32.toNatClampNeg (q.1 0 0 7)) 6 day) 16 (Int32.toNatClampNeg (q.1 0 0 7)) 7 0) 5 0 (Int32.toNatClampNeg (q.1 0 0 7)) 1) 0 0 7 ((q.1 0 0 7) + 1)) 0 0 9 day).1 7 0 2).toInt ∧ ((cq_i (cq_i (cq_i (cq_i (cq_i (cq_i (cq_i (cq_i (cq_l (cq_i (cq_i q 16 (Int32.toNatClampNeg (q.1 0 0 7)) 0 f) 16 (Int32.toNatClampNeg (q.1 0 0 7)) 1 size) 16 (Int32.toNatClampNeg (q.1 0 0 7)) 2 dg) 16 (Int32.toNatClampNeg (q.1 0 0 7)) 3 ka) 16 (Int32.toNatClampNeg (q.1 0 0 7)) 4 kb) 16 (Int32.toNatClampNeg (q.1 0 0 7)) 5 kc) 16 (Int32.toNatClampNeg (q.1 0 0 7)) 6 day) 16 (Int32.toNatClampNeg (q.1 0 0 7)) 7 0) 5 0 (Int32.toNatClampNeg (q.1 0 0 7)) 1) 0 0 7 ((q.1 0 0 7) + 1)) 0 0 9 day).1 7 0 2).toInt ≤ 399 := by
            rw [show (cq_i (cq_i (cq_i (cq_i (cq_i (cq_i (cq_i (cq_i (cq_l (cq_i (cq_i q 16 (Int32.toNatClampNeg (q.1 0 0 7)) 0 f) 16 (Int32.toNatClampNeg (q.1 0 0 7)) 1 size) 16 (Int32.toNatClampNeg (q.1 0 0 7)) 2 dg) 16 (Int32.toNatClampNeg (q.1 0 0 7)) 3 ka) 16 (Int32.toNatClampNeg (q.1 0 0 7)) 4 kb) 16 (Int32.toNatClampNeg (q.1 0 0 7)) 5 kc) 16 (Int32.toNatClampNeg (q.1 0 0 7)) 6 day) 16 (Int32.toNatClampNeg (q.1 0 0 7)) 7 0) 5 0 (Int32.toNatClampNeg (q.1 0 0 7)) 1) 0 0 7 ((q.1 0 0 7) + 1)) 0 0 9 day).1 7 0 2 = (q.1 7 0 2) from ((cq_ne (by decide)).trans ((cq_ne (by decide)).trans ((cq_ne (by decide)).trans ((cq_ne (by decide)).trans ((cq_ne (by decide)).trans ((cq_ne (by decide)).trans ((cq_ne (by decide)).trans ((cq_ne (by decide)).trans ((cq_nel).trans ((cq_ne (by decide)).trans (cq_ne (by decide))))))))))))]
            have k_1 : (5 : Int32).toInt = 5 := rfl
            have u_2 := rg_e (q.1 0 0 7)
            have u_3 := rg_e f
            have u_4 := rg_e day
            have u_5 := rg_e (m_X7_folderAt q f)
            have k_6 : (0 : Int32).toInt = 0 := rfl
            have v_7 := cv_eq c_1
            have v_8 := fa_r c_1
            have u_9 := rg_e (m_X7_needKeyOrNone ka)
            have v_10 := cv_eq c_2
            have u_11 := rg_e ka
            have v_12 := nke_t c_2
            have u_13 := rg_e (m_X7_needKeyOrNone kb)
            have v_14 := cv_eq c_3
            have u_15 := rg_e kb
            have v_16 := nke_t c_3
            have u_17 := rg_e (m_X7_needKeyOrNone kc)
            have v_18 := cv_eq c_4
            have u_19 := rg_e kc
            have v_20 := nke_t c_4
            have u_21 := rg_e (m_X7_needDayOfAct q day)
            have v_22 := cv_eq c_5
            have v_23 := ndo_t c_5
            have u_24 := rg_e size
            have k_25 : (1 : Int32).toInt = 1 := rfl
            have v_26 := cv_nlt c_6
            have k_27 : (65536 : Int32).toInt = 65536 := rfl
            have v_28 := cv_le c_7
            have u_29 := rg_e (m_X7_needRoom q 1)
            have v_30 := cv_eq c_8
            have v_31 := nro_t hI c_8
            have u_32 := rg_e (q.1 14 (Int32.toNatClampNeg f) 2)
            have k_33 : ((-1) : Int32).toInt = -1 := rfl
            have v_34 := cv_eq c_9
            have k_35 : (64 : Int32).toInt = 64 := rfl
            have v_36 := cv_lt c_10
            have w_37 := hI.2.2.2.2.2.2.2.2.2.2.1
            have w_38 := hI.2.2.2.2.2.1
            exact by omega
          refine ow_callVv (C := RX0) (T := TX0) (N := 3) (ci := 0) (k := 7) (j := 0) (n := 5) (As := [.int 5, .int (q.1 0 0 7), .int f, .int day, .long dg]) (rest := []) (z2 := (m_X0_write (cq_i (cq_i (cq_i (cq_i (cq_i (cq_i (cq_i (cq_i (cq_l (cq_i (cq_i q 16 (Int32.toNatClampNeg (q.1 0 0 7)) 0 f) 16 (Int32.toNatClampNeg (q.1 0 0 7)) 1 size) 16 (Int32.toNatClampNeg (q.1 0 0 7)) 2 dg) 16 (Int32.toNatClampNeg (q.1 0 0 7)) 3 ka) 16 (Int32.toNatClampNeg (q.1 0 0 7)) 4 kb) 16 (Int32.toNatClampNeg (q.1 0 0 7)) 5 kc) 16 (Int32.toNatClampNeg (q.1 0 0 7)) 6 day) 16 (Int32.toNatClampNeg (q.1 0 0 7)) 7 0) 5 0 (Int32.toNatClampNeg (q.1 0 0 7)) 1) 0 0 7 ((q.1 0 0 7) + 1)) 0 0 9 day) 5 (q.1 0 0 7) f day dg)) ⟨hx, hb, hml, hown, hts⟩ (c_X0_write l D b0 cA ad mq (cq_i (cq_i (cq_i (cq_i (cq_i (cq_i (cq_i (cq_i (cq_l (cq_i (cq_i q 16 (Int32.toNatClampNeg (q.1 0 0 7)) 0 f) 16 (Int32.toNatClampNeg (q.1 0 0 7)) 1 size) 16 (Int32.toNatClampNeg (q.1 0 0 7)) 2 dg) 16 (Int32.toNatClampNeg (q.1 0 0 7)) 3 ka) 16 (Int32.toNatClampNeg (q.1 0 0 7)) 4 kb) 16 (Int32.toNatClampNeg (q.1 0 0 7)) 5 kc) 16 (Int32.toNatClampNeg (q.1 0 0 7)) 6 day) 16 (Int32.toNatClampNeg (q.1 0 0 7)) 7 0) 5 0 (Int32.toNatClampNeg (q.1 0 0 7)) 1) 0 0 7 ((q.1 0 0 7) + 1)) 0 0 9 day) 5 (q.1 0 0 7) f day dg h_12) (PO_k7) rfl gX7_file_X0_write rfl (by decide +kernel) rfl ⟨Nat.le_of_ble_eq_true rfl, Nat.le_of_ble_eq_true rfl⟩ ⟨Nat.le_of_ble_eq_true rfl, Nat.le_of_ble_eq_true rfl⟩ hK hW hS hKD hl.1 rfl (Nat.le_of_ble_eq_true rfl) dX7_file_141 (fun H locs hW hS => ?_)
          refine lv_iload hx hb dX7_file_144 (lv_at hl 0 rfl) ?_
          exact od_iret hx hb hr hlk hK hW hak hS (Nat.le_of_ble_eq_true rfl) (Nat.le_of_ble_eq_true rfl) (by rw [m_X7_file, if_pos c_1, if_pos c_2, if_pos c_3, if_pos c_4, if_pos c_5, if_neg c_6, if_pos c_7, if_pos c_8, if_pos c_9, if_pos c_10]) dX7_file_146
        · exact ox_throwS (cls := "java/lang/IllegalStateException") (text := "the folder is closed, or all records are there") hx hb hlt hown (hts _ (List.mem_of_getElem? (i := 3) rfl)) (hts _ (List.mem_of_getElem? (i := 4) rfl)) hat_3 (by decide +kernel) (by decide +kernel) hK hW hS hKX (by decide +kernel) (hl.1.trans hml.symm) hxt (by rw [m_X7_file, if_pos c_1, if_pos c_2, if_pos c_3, if_pos c_4, if_pos c_5, if_neg c_6, if_pos c_7, if_pos c_8, if_pos c_9, if_neg c_10]; exact ⟨rfl, show ¬ (3 : Int32) = 0 by decide⟩) (Nat.le_of_ble_eq_true rfl) (Nat.le_of_ble_eq_true rfl) (Nat.le_of_ble_eq_true rfl) (Nat.le_of_ble_eq_true rfl) hlk (Nat.le_of_ble_eq_true rfl) (Nat.le_of_ble_eq_true rfl) dX7_file_72 dX7_file_75 dX7_file_76 dX7_file_78 dX7_file_81
    · exact ox_throwS (cls := "java/lang/IllegalArgumentException") (text := "no such size") hx hb hlt hown (hts _ (List.mem_of_getElem? (i := 1) rfl)) (hts _ (List.mem_of_getElem? (i := 2) rfl)) hat_2 (by decide +kernel) (by decide +kernel) hK hW hS hKX (by decide +kernel) (hl.1.trans hml.symm) hxt (by rw [m_X7_file, if_pos c_1, if_pos c_2, if_pos c_3, if_pos c_4, if_pos c_5, if_neg c_6, if_neg c_7]; exact ⟨rfl, show ¬ (2 : Int32) = 0 by decide⟩) (Nat.le_of_ble_eq_true rfl) (Nat.le_of_ble_eq_true rfl) (Nat.le_of_ble_eq_true rfl) (Nat.le_of_ble_eq_true rfl) hlk (Nat.le_of_ble_eq_true rfl) (Nat.le_of_ble_eq_true rfl) dX7_file_39 dX7_file_42 dX7_file_43 dX7_file_45 dX7_file_48

def m_X7_draw (q : qC) (o : Int32) (day : Int32) : Int32 × Int32 × qC := (if (m_X7_needOfficer o) = 0 then (if (m_X7_needDayOfAct q day) = 0 then (if (m_X7_needRight q o 1) = 0 then (if (m_X7_needRoom q 1) = 0 then (if (q.1 0 0 8) < 16 then (if (lg_cmp (m_X7_ripeOn q day) 0) = 0 then (3, 0, q) else (0, (q.1 0 0 8), (m_X0_write (cq_i (cq_i (cq_i (cq_i (cq_i (cq_l (cq_i q 17 (Int32.toNatClampNeg (q.1 0 0 8)) 0 o) 17 (Int32.toNatClampNeg (q.1 0 0 8)) 1 (m_X7_ripeOn q day)) 17 (Int32.toNatClampNeg (q.1 0 0 8)) 2 0) 17 (Int32.toNatClampNeg (q.1 0 0 8)) 3 1) 6 0 (Int32.toNatClampNeg (q.1 0 0 8)) 1) 0 0 8 ((q.1 0 0 8) + 1)) 0 0 9 day) 8 (q.1 0 0 8) day (m_X2_size (cq_i (cq_i (cq_i (cq_i (cq_i (cq_l (cq_i q 17 (Int32.toNatClampNeg (q.1 0 0 8)) 0 o) 17 (Int32.toNatClampNeg (q.1 0 0 8)) 1 (m_X7_ripeOn q day)) 17 (Int32.toNatClampNeg (q.1 0 0 8)) 2 0) 17 (Int32.toNatClampNeg (q.1 0 0 8)) 3 1) 6 0 (Int32.toNatClampNeg (q.1 0 0 8)) 1) 0 0 8 ((q.1 0 0 8) + 1)) 0 0 9 day) (Int32.toNatClampNeg (q.1 0 0 8))) 0))) else (3, 0, q)) else ((m_X7_needRoom q 1), 0, q)) else ((m_X7_needRight q o 1), 0, q)) else ((m_X7_needDayOfAct q day), 0, q)) else ((m_X7_needOfficer o), 0, q))
set_option maxHeartbeats 4000000 in
set_option maxRecDepth 100000 in
theorem c_X7_draw (l : Launch) (hlt : l.stackTraces = false) (D : va_G) (b0 : Nat) (cA : Nat → ClassId) (ad : Nat → Nat → Nat) (mq : qM) (q : qC) (o : Int32) (day : Int32) (hI : cI q) : xd_i l yX7_draw wsX7_draw 8 137 6 36 D b0 cA ad mq q [.ref (ad 0 0), .int o, .int day] (m_X7_draw q o day) := by
  refine xc_of (by decide) rfl (Nat.le_of_ble_eq_true rfl) ?_
  intro p e s m below meth c hx hb hml hr hlk hown hts hK hW hKD hKX hz hxt ls hl
  have hown : s.vm.findClass RX7 = some m.cls := hown
  have hS : va_S (wA b0) s.heap s.heap [] := va_S.rf
  have hl : lv_has ls 6 [(0, .ref (ad 0 0)), (1, .int o), (2, .int day)] := hl
  have hin_X7 : ∀ w ∈ wsX70, w ∈ wsX7_draw := fun w h => List.mem_cons_of_mem _ (List.mem_append_left _ (List.mem_append_left _ (List.mem_append_left _ (List.mem_append_left _ (List.mem_append_left _ (List.mem_append_left _ (List.mem_append_left _ (List.mem_append_left _ (List.mem_append_left _ (List.mem_append_right _ h))))))))))
  have hin_X2 : ∀ w ∈ wsX20, w ∈ wsX7_draw := fun w h => List.mem_cons_of_mem _ (List.mem_append_left _ (List.mem_append_left _ (List.mem_append_left _ (List.mem_append_left _ (List.mem_append_left _ (List.mem_append_left _ (List.mem_append_left _ (List.mem_append_left _ (List.mem_append_right _ h)))))))))
  have hin_X0 : ∀ w ∈ wsX00, w ∈ wsX7_draw := fun w h => List.mem_cons_of_mem _ (List.mem_append_left _ (List.mem_append_left _ (List.mem_append_left _ (List.mem_append_left _ (List.mem_append_left _ (List.mem_append_left _ (List.mem_append_left _ (List.mem_append_right _ h))))))))
  have hin_X3 : ∀ w ∈ wsX30, w ∈ wsX7_draw := fun w h => List.mem_cons_of_mem _ (List.mem_append_left _ (List.mem_append_left _ (List.mem_append_left _ (List.mem_append_left _ (List.mem_append_left _ (List.mem_append_left _ (List.mem_append_right _ h)))))))
  have hin_X5 : ∀ w ∈ wsX50, w ∈ wsX7_draw := fun w h => List.mem_cons_of_mem _ (List.mem_append_left _ (List.mem_append_left _ (List.mem_append_left _ (List.mem_append_left _ (List.mem_append_left _ (List.mem_append_right _ h))))))
  have hin_X4 : ∀ w ∈ wsX40, w ∈ wsX7_draw := fun w h => List.mem_cons_of_mem _ (List.mem_append_left _ (List.mem_append_left _ (List.mem_append_left _ (List.mem_append_left _ (List.mem_append_right _ h)))))
  have hin_X6 : ∀ w ∈ wsX60, w ∈ wsX7_draw := fun w h => List.mem_cons_of_mem _ (List.mem_append_left _ (List.mem_append_left _ (List.mem_append_left _ (List.mem_append_right _ h))))
  have hat_3 := xat_3 (fun w h => hts w (List.mem_cons_of_mem _ (List.mem_append_left _ (List.mem_append_left _ (List.mem_append_right _ h))))) hKX
  refine lv_iload_n hx hb dX7_draw_0 rfl (lv_at hl 1 rfl) ?_
  refine ox_callSv (n := 1) (As := [.int o]) (rest := []) (z2 := q) (k0 := (m_X7_needOfficer o)) ⟨hx, hb, hml, hown, hts⟩ (c_X7_needOfficer l hlt D b0 cA ad mq q o) gX7_draw_X7_needOfficer rfl (by decide +kernel) rfl ⟨Nat.le_of_ble_eq_true rfl, Nat.le_of_ble_eq_true rfl⟩ ⟨Nat.le_of_ble_eq_true rfl, Nat.le_of_ble_eq_true rfl⟩ hK hW hS hKD hKX hz hl.1 rfl (Nat.le_of_ble_eq_true rfl) dX7_draw_1 (fun hne H locs ce q9 hW hS h1 h2 h3 => ox_out hxt hlk hK (by rw [m_X7_draw, if_neg hne]) hne hW hS h1 h2 h3 (Nat.le_of_ble_eq_true rfl) (Nat.le_of_ble_eq_true rfl)) (fun c_1 H locs hW hS => ?_)
  refine lv_aload_n hx hb dX7_draw_4 rfl (lv_at hl 0 rfl) ?_
  refine lv_iload_n hx hb dX7_draw_5 rfl (lv_at hl 2 rfl) ?_
  refine ox_callVv (C := RX7) (T := TX7) (N := 11) (ci := 6) (k := 0) (j := 0) (n := 1) (As := [.int day]) (rest := []) (z2 := q) (k0 := (m_X7_needDayOfAct q day)) ⟨hx, hb, hml, hown, hts⟩ (c_X7_needDayOfAct l hlt D b0 cA ad mq q day) (PO_k0) rfl gX7_draw_X7_needDayOfAct rfl (by decide +kernel) rfl ⟨Nat.le_of_ble_eq_true rfl, Nat.le_of_ble_eq_true rfl⟩ ⟨Nat.le_of_ble_eq_true rfl, Nat.le_of_ble_eq_true rfl⟩ hK hW hS hKD hKX hz hl.1 rfl (Nat.le_of_ble_eq_true rfl) dX7_draw_6 (fun hne H locs ce q9 hW hS h1 h2 h3 => ox_out hxt hlk hK (by rw [m_X7_draw, if_pos c_1, if_neg hne]) hne hW hS h1 h2 h3 (Nat.le_of_ble_eq_true rfl) (Nat.le_of_ble_eq_true rfl)) (fun c_2 H locs hW hS => ?_)
  refine lv_aload_n hx hb dX7_draw_9 rfl (lv_at hl 0 rfl) ?_
  refine lv_iload_n hx hb dX7_draw_10 rfl (lv_at hl 1 rfl) ?_
  refine lv_iconst (v := 1) hx hb dX7_draw_11 (by decide) ?_
  have h_3 : 0 ≤ (o : Int32).toInt ∧ (o : Int32).toInt ≤ 7 := by
    have u_1 := rg_e o
    have k_2 : (1 : Int32).toInt = 1 := rfl
    have u_3 := rg_e (m_X7_needOfficer o)
    have k_4 : (0 : Int32).toInt = 0 := rfl
    have v_5 := cv_eq c_1
    have v_6 := nof_t c_1
    have u_7 := rg_e (m_X7_needDayOfAct q day)
    have v_8 := cv_eq c_2
    have u_9 := rg_e day
    have v_10 := ndo_t c_2
    have w_11 := hI.2.2.2.2.2.2.2.2.2.2.1
    have w_12 := hI.2.2.2.2.2.2.2.2.2.2.2.1
    exact by omega
  refine ox_callVv (C := RX7) (T := TX7) (N := 11) (ci := 6) (k := 0) (j := 0) (n := 2) (As := [.int o, .int 1]) (rest := []) (z2 := q) (k0 := (m_X7_needRight q o 1)) ⟨hx, hb, hml, hown, hts⟩ (c_X7_needRight l hlt D b0 cA ad mq q o 1 h_3) (PO_k0) rfl gX7_draw_X7_needRight rfl (by decide +kernel) rfl ⟨Nat.le_of_ble_eq_true rfl, Nat.le_of_ble_eq_true rfl⟩ ⟨Nat.le_of_ble_eq_true rfl, Nat.le_of_ble_eq_true rfl⟩ hK hW hS hKD hKX hz hl.1 rfl (Nat.le_of_ble_eq_true rfl) dX7_draw_12 (fun hne H locs ce q9 hW hS h1 h2 h3 => ox_out hxt hlk hK (by rw [m_X7_draw, if_pos c_1, if_pos c_2, if_neg hne]) hne hW hS h1 h2 h3 (Nat.le_of_ble_eq_true rfl) (Nat.le_of_ble_eq_true rfl)) (fun c_4 H locs hW hS => ?_)
  refine lv_aload_n hx hb dX7_draw_15 rfl (lv_at hl 0 rfl) ?_
  refine lv_iconst (v := 1) hx hb dX7_draw_16 (by decide) ?_
  refine ox_callVv (C := RX7) (T := TX7) (N := 11) (ci := 6) (k := 0) (j := 0) (n := 1) (As := [.int 1]) (rest := []) (z2 := q) (k0 := (m_X7_needRoom q 1)) ⟨hx, hb, hml, hown, hts⟩ (c_X7_needRoom l hlt D b0 cA ad mq q 1) (PO_k0) rfl gX7_draw_X7_needRoom rfl (by decide +kernel) rfl ⟨Nat.le_of_ble_eq_true rfl, Nat.le_of_ble_eq_true rfl⟩ ⟨Nat.le_of_ble_eq_true rfl, Nat.le_of_ble_eq_true rfl⟩ hK hW hS hKD hKX hz hl.1 rfl (Nat.le_of_ble_eq_true rfl) dX7_draw_17 (fun hne H locs ce q9 hW hS h1 h2 h3 => ox_out hxt hlk hK (by rw [m_X7_draw, if_pos c_1, if_pos c_2, if_pos c_4, if_neg hne]) hne hW hS h1 h2 h3 (Nat.le_of_ble_eq_true rfl) (Nat.le_of_ble_eq_true rfl)) (fun c_5 H locs hW hS => ?_)
  refine lv_aload_n hx hb dX7_draw_20 rfl (lv_at hl 0 rfl) ?_
  refine ow_get (v2 := .int (q.1 0 0 8)) (ci := 6) (C := RX7) (T := TX7) (N := 11) hx hb hts hin_X7 hown hK hW 0 0 (PO_k0) rfl 8 (by decide) (List.mem_of_getElem? (i := 3) rfl) rfl rfl rfl dX7_draw_21 ?_
  refine lv_bipush (v := 16) hx hb dX7_draw_24 (by decide) ?_
  refine lv_icmp_lt (tgt := 39) hx hb dX7_draw_26 (by decide) (fun c_6 => ?_) (fun c_6 => ?_)
  · refine lv_aload_n hx hb dX7_draw_39 rfl (lv_at hl 0 rfl) ?_
    refine lv_iload_n hx hb dX7_draw_40 rfl (lv_at hl 2 rfl) ?_
    refine ow_callVl (C := RX7) (T := TX7) (N := 11) (ci := 6) (k := 0) (j := 0) (n := 1) (As := [.int day]) (rest := []) (r := (m_X7_ripeOn q day)) (z2 := q) ⟨hx, hb, hml, hown, hts⟩ (c_X7_ripeOn l D b0 cA ad mq q day hI) (PO_k0) rfl gX7_draw_X7_ripeOn rfl (by decide +kernel) rfl ⟨Nat.le_of_ble_eq_true rfl, Nat.le_of_ble_eq_true rfl⟩ ⟨Nat.le_of_ble_eq_true rfl, Nat.le_of_ble_eq_true rfl⟩ hK hW hS hKD hl.1 rfl (Nat.le_of_ble_eq_true rfl) dX7_draw_41 (fun H locs hW hS => ?_)
    refine lv_lstore_n (lv' := [(3, .long (m_X7_ripeOn q day)), (0, .ref (ad 0 0)), (1, .int o), (2, .int day)]) hx hb dX7_draw_44 rfl hl (by decide) rfl (fun ls hl => ?_)
    refine lv_lload_n hx hb dX7_draw_45 rfl (lv_at hl 0 rfl) ?_
    refine lv_lconst (v := 0) hx hb dX7_draw_46 (by decide) ?_
    refine W.lcmp hx hb dX7_draw_47 ?_
    refine lv_if_ne (tgt := 61) hx hb dX7_draw_48 (by decide) (fun c_7 => ?_) (fun c_7 => ?_)
    · refine lv_aload_n hx hb dX7_draw_61 rfl (lv_at hl 1 rfl) ?_
      refine ow_get (v2 := .int (q.1 0 0 8)) (ci := 6) (C := RX7) (T := TX7) (N := 11) hx hb hts hin_X7 hown hK hW 0 0 (PO_k0) rfl 8 (by decide) (List.mem_of_getElem? (i := 3) rfl) rfl rfl rfl dX7_draw_62 ?_
      refine lv_istore (lv' := [(5, .int (q.1 0 0 8)), (3, .long (m_X7_ripeOn q day)), (0, .ref (ad 0 0)), (1, .int o), (2, .int day)]) hx hb dX7_draw_65 hl (by decide) rfl (fun ls hl => ?_)
      refine lv_aload_n hx hb dX7_draw_67 rfl (lv_at hl 2 rfl) ?_
      refine ow_get (v2 := .ref (ad 6 0)) (ci := 6) (C := RX7) (T := TX7) (N := 11) hx hb hts hin_X7 hown hK hW 0 0 (PO_k0) rfl 5 (by decide) (List.mem_of_getElem? (i := 4) rfl) rfl rfl rfl dX7_draw_68 ?_
      refine lv_iload hx hb dX7_draw_71 (lv_at hl 0 rfl) ?_
      refine bd_new (ci := 1) (C := RX2) (T := TX2) (N := 4) (fs := [.int 0, .long 0, .int 0, .int 0]) hx hb hts hin_X2 tyX2 tyX2_ok hown (List.mem_of_getElem? (i := 5) rfl) (List.mem_of_getElem? (i := 6) rfl) (List.mem_of_getElem? (i := 7) rfl) hK hW hS hz rfl (fun j hj => by rcases (show j = 0 ∨ j = 1 ∨ j = 2 ∨ j = 3 by omega) with rfl | rfl | rfl | rfl <;> rfl) 23 0 PO_23 (Nat.le_of_ble_eq_true rfl) (Nat.le_of_ble_eq_true rfl) dX7_draw_73 (fun q9 H hW hS => ?_)
      refine lv_dup hx hb dX7_draw_76 rfl ?_
      refine lv_iload_n hx hb dX7_draw_77 rfl (lv_at hl 3 rfl) ?_
      refine lv_lload_n hx hb dX7_draw_78 rfl (lv_at hl 1 rfl) ?_
      refine bd_ini (n := 2) (As := [.int o, .long (m_X7_ripeOn q day)]) (rest := [.ref q9, .int (q.1 0 0 8), .ref (ad 6 0)]) ⟨hx, hb, hml, hown, hts⟩ (c_X2_init l D b0 cA (pu (PO cA ad q mq) 23 0 (.inr (1, [.int 0, .long 0, .int 0, .int 0]))) (au ad 23 0 q9) 23 0 q9 o (m_X7_ripeOn q day) au_s pu_s) gX7_draw_X2_init rfl (List.mem_of_getElem? (i := 7) rfl) (List.mem_of_getElem? (i := 118) rfl) (List.mem_of_getElem? (i := 119) rfl) rfl (by decide +kernel) rfl ⟨Nat.le_of_ble_eq_true rfl, Nat.le_of_ble_eq_true rfl⟩ ⟨Nat.le_of_ble_eq_true rfl, Nat.le_of_ble_eq_true rfl⟩ hK hW hS hz hl.1 rfl (Nat.le_of_ble_eq_true rfl) dX7_draw_79 (fun ad2 H locs hF hW hS => ?_)
      have hF : ad2 = au ad 23 0 q9 := hF
      subst hF
      unfold P2_X2_init at hW
      rw [pu_pu] at hW
      have b_8 : vp_in (q.1 0 0 8) 16 := by
        have u_1 := rg_e (q.1 0 0 8)
        have u_2 := rg_e (m_X7_needOfficer o)
        have k_3 : (0 : Int32).toInt = 0 := rfl
        have v_4 := cv_eq c_1
        have u_5 := rg_e o
        have v_6 := nof_t c_1
        have u_7 := rg_e (m_X7_needDayOfAct q day)
        have v_8 := cv_eq c_2
        have u_9 := rg_e day
        have v_10 := ndo_t c_2
        have u_11 := rg_e (m_X7_needRight q o 1)
        have v_12 := cv_eq c_4
        have u_13 := rg_e (m_X7_needRoom q 1)
        have v_14 := cv_eq c_5
        have k_15 : (1 : Int32).toInt = 1 := rfl
        have v_16 := nro_t hI c_5
        have k_17 : (16 : Int32).toInt = 16 := rfl
        have v_18 := cv_lt c_6
        have u_19 := rg_e (lg_cmp (m_X7_ripeOn q day) 0)
        have v_20 := cv_ne c_7
        have w_21 := hI.2.2.2.2.2.2.2.2.2.2.1
        have w_22 := hI.2.2.2.2.2.2.2.2.2.2.2.1
        exact vp_in_iff.mpr (by omega)
      refine bd_aast (a := ad 6 0) (t := 7) (C := RX2) (T := TX2) (N := 4) hx hb hK hW hS 6 0 (au_n (fun h => absurd h.1 (by decide))) ((pu_n (fun h => absurd h.1 (by decide))).trans PO_k6) rfl 23 0 au_s pu_s rfl b_8 dX7_draw_82 (fun H locs hW hS => ?_)
      have hmk := mk17 (J := (Int32.toNatClampNeg (q.1 0 0 8))) (o := o) (mem := (m_X7_ripeOn q day)) hW
      obtain ⟨ad, hak, hW, hl⟩ : ∃ ad2 : Nat → Nat → Nat, adk ad ad2 ∧ wd D (wA b0) (PO cA ad2 (cq_i (cq_i (cq_i (cq_l (cq_i q 17 (Int32.toNatClampNeg (q.1 0 0 8)) 0 o) 17 (Int32.toNatClampNeg (q.1 0 0 8)) 1 (m_X7_ripeOn q day)) 17 (Int32.toNatClampNeg (q.1 0 0 8)) 2 0) 17 (Int32.toNatClampNeg (q.1 0 0 8)) 3 1) 6 0 (Int32.toNatClampNeg (q.1 0 0 8)) 1) mq) ad2 H ∧ lv_has ls 6 [(5, .int (q.1 0 0 8)), (3, .long (m_X7_ripeOn q day)), (0, .ref (ad2 0 0)), (1, .int o), (2, .int day)] := ⟨au ad 17 (Int32.toNatClampNeg (q.1 0 0 8)) q9, hmk.2, hmk.1, lv_sub hl [0, 1, 2, 3, 4] rfl⟩
      refine lv_aload_n hx hb dX7_draw_83 rfl (lv_at hl 2 rfl) ?_
      refine lv_dup hx hb dX7_draw_84 rfl ?_
      refine ow_get (v2 := .int (q.1 0 0 8)) (ci := 6) (C := RX7) (T := TX7) (N := 11) hx hb hts hin_X7 hown hK hW 0 0 (PO_k0) rfl 8 (by decide) (List.mem_of_getElem? (i := 3) rfl) rfl rfl (congrArg Value.int ((cq_ne (by decide)).trans ((cq_ne (by decide)).trans ((cq_ne (by decide)).trans ((cq_nel).trans (cq_ne (by decide))))))) dX7_draw_85 ?_
      refine lv_iconst (v := 1) hx hb dX7_draw_88 (by decide) ?_
      refine lv_iadd hx hb dX7_draw_89 ?_
      refine ow_puti (ci := 6) (C := RX7) (T := TX7) (N := 11) (ty := .int) hx hb hts hin_X7 tyX7 tyX7_ok nmX7 hown hK hW hS 0 0 (PO_k0) rfl 8 (by decide) (List.mem_of_getElem? (i := 3) rfl) rfl rfl (by decide +kernel) rfl rfl (Nat.le_of_ble_eq_true rfl) (by decide) (PO_w0_8) dX7_draw_90 (fun H locs hW hS => ?_)
      refine lv_aload_n hx hb dX7_draw_93 rfl (lv_at hl 2 rfl) ?_
      refine lv_iload_n hx hb dX7_draw_94 rfl (lv_at hl 4 rfl) ?_
      refine ow_puti (ci := 6) (C := RX7) (T := TX7) (N := 11) (ty := .int) hx hb hts hin_X7 tyX7 tyX7_ok nmX7 hown hK hW hS 0 0 (PO_k0) rfl 9 (by decide) (List.mem_of_getElem? (i := 8) rfl) rfl rfl (by decide +kernel) rfl rfl (Nat.le_of_ble_eq_true rfl) (by decide) (PO_w0_9) dX7_draw_95 (fun H locs hW hS => ?_)
      refine lv_aload_n hx hb dX7_draw_98 rfl (lv_at hl 2 rfl) ?_
      refine ow_get (v2 := .ref (ad 7 0)) (ci := 6) (C := RX7) (T := TX7) (N := 11) hx hb hts hin_X7 hown hK hW 0 0 (PO_k0) rfl 6 (by decide) (List.mem_of_getElem? (i := 9) rfl) rfl rfl rfl dX7_draw_99 ?_
      refine lv_bipush (v := 8) hx hb dX7_draw_102 (by decide) ?_
      refine lv_iload hx hb dX7_draw_104 (lv_at hl 0 rfl) ?_
      refine lv_iload_n hx hb dX7_draw_106 rfl (lv_at hl 4 rfl) ?_
      refine lv_aload_n hx hb dX7_draw_107 rfl (lv_at hl 2 rfl) ?_
      refine ow_get (v2 := .ref (ad 6 0)) (ci := 6) (C := RX7) (T := TX7) (N := 11) hx hb hts hin_X7 hown hK hW 0 0 (PO_k0) rfl 5 (by decide) (List.mem_of_getElem? (i := 4) rfl) rfl rfl rfl dX7_draw_108 ?_
      refine lv_iload hx hb dX7_draw_111 (lv_at hl 0 rfl) ?_
      have b_9 : vp_in (q.1 0 0 8) 16 := by
        have u_1 := rg_e (q.1 0 0 8)
        have u_2 := rg_e (m_X7_needOfficer o)
        have k_3 : (0 : Int32).toInt = 0 := rfl
        have v_4 := cv_eq c_1
        have u_5 := rg_e o
        have v_6 := nof_t c_1
        have u_7 := rg_e (m_X7_needDayOfAct q day)
        have v_8 := cv_eq c_2
        have u_9 := rg_e day
        have v_10 := ndo_t c_2
        have u_11 := rg_e (m_X7_needRight q o 1)
        have v_12 := cv_eq c_4
        have u_13 := rg_e (m_X7_needRoom q 1)
        have v_14 := cv_eq c_5
        have k_15 : (1 : Int32).toInt = 1 := rfl
        have v_16 := nro_t hI c_5
        have k_17 : (16 : Int32).toInt = 16 := rfl
        have v_18 := cv_lt c_6
        have u_19 := rg_e (lg_cmp (m_X7_ripeOn q day) 0)
        have v_20 := cv_ne c_7
        have w_21 := hI.2.2.2.2.2.2.2.2.2.2.1
        have w_22 := hI.2.2.2.2.2.2.2.2.2.2.2.1
        exact vp_in_iff.mpr (by omega)
      refine ow_aldp hx hb hK hW 6 0 (PO_k6) 7 rfl b_9 (fun hq => (show ¬ (1 : Int32) = 0 by decide) (((cq_ne (by decide)).trans ((cq_ne (by decide)).trans (cq_same (cq_i (cq_i (cq_l (cq_i q 17 (Int32.toNatClampNeg (q.1 0 0 8)) 0 o) 17 (Int32.toNatClampNeg (q.1 0 0 8)) 1 (m_X7_ripeOn q day)) 17 (Int32.toNatClampNeg (q.1 0 0 8)) 2 0) 17 (Int32.toNatClampNeg (q.1 0 0 8)) 3 1) 6 0 (Int32.toNatClampNeg (q.1 0 0 8)) 1))).symm.trans hq)) dX7_draw_113 ?_
      refine ow_callVi (C := RX2) (T := TX2) (N := 4) (ci := 1) (k := 17) (j := (Int32.toNatClampNeg (q.1 0 0 8))) (n := 0) (As := []) (rest := [.int day, .int (q.1 0 0 8), .int 8, .ref (ad 7 0)]) (r := (m_X2_size (cq_i (cq_i (cq_i (cq_i (cq_i (cq_l (cq_i q 17 (Int32.toNatClampNeg (q.1 0 0 8)) 0 o) 17 (Int32.toNatClampNeg (q.1 0 0 8)) 1 (m_X7_ripeOn q day)) 17 (Int32.toNatClampNeg (q.1 0 0 8)) 2 0) 17 (Int32.toNatClampNeg (q.1 0 0 8)) 3 1) 6 0 (Int32.toNatClampNeg (q.1 0 0 8)) 1) 0 0 8 ((q.1 0 0 8) + 1)) 0 0 9 day) (Int32.toNatClampNeg (q.1 0 0 8)))) (z2 := (cq_i (cq_i (cq_i (cq_i (cq_i (cq_l (cq_i q 17 (Int32.toNatClampNeg (q.1 0 0 8)) 0 o) 17 (Int32.toNatClampNeg (q.1 0 0 8)) 1 (m_X7_ripeOn q day)) 17 (Int32.toNatClampNeg (q.1 0 0 8)) 2 0) 17 (Int32.toNatClampNeg (q.1 0 0 8)) 3 1) 6 0 (Int32.toNatClampNeg (q.1 0 0 8)) 1) 0 0 8 ((q.1 0 0 8) + 1)) 0 0 9 day)) ⟨hx, hb, hml, hown, hts⟩ (c_X2_size l D b0 cA ad mq (cq_i (cq_i (cq_i (cq_i (cq_i (cq_l (cq_i q 17 (Int32.toNatClampNeg (q.1 0 0 8)) 0 o) 17 (Int32.toNatClampNeg (q.1 0 0 8)) 1 (m_X7_ripeOn q day)) 17 (Int32.toNatClampNeg (q.1 0 0 8)) 2 0) 17 (Int32.toNatClampNeg (q.1 0 0 8)) 3 1) 6 0 (Int32.toNatClampNeg (q.1 0 0 8)) 1) 0 0 8 ((q.1 0 0 8) + 1)) 0 0 9 day) (Int32.toNatClampNeg (q.1 0 0 8)) (fun hq => (show ¬ (1 : Int32) = 0 by decide) (((cq_ne (by decide)).trans ((cq_ne (by decide)).trans (cq_same (cq_i (cq_i (cq_l (cq_i q 17 (Int32.toNatClampNeg (q.1 0 0 8)) 0 o) 17 (Int32.toNatClampNeg (q.1 0 0 8)) 1 (m_X7_ripeOn q day)) 17 (Int32.toNatClampNeg (q.1 0 0 8)) 2 0) 17 (Int32.toNatClampNeg (q.1 0 0 8)) 3 1) 6 0 (Int32.toNatClampNeg (q.1 0 0 8)) 1))).symm.trans hq))) (PO_k17 (fun hq => (show ¬ (1 : Int32) = 0 by decide) (((cq_ne (by decide)).trans ((cq_ne (by decide)).trans (cq_same (cq_i (cq_i (cq_l (cq_i q 17 (Int32.toNatClampNeg (q.1 0 0 8)) 0 o) 17 (Int32.toNatClampNeg (q.1 0 0 8)) 1 (m_X7_ripeOn q day)) 17 (Int32.toNatClampNeg (q.1 0 0 8)) 2 0) 17 (Int32.toNatClampNeg (q.1 0 0 8)) 3 1) 6 0 (Int32.toNatClampNeg (q.1 0 0 8)) 1))).symm.trans hq))) rfl gX7_draw_X2_size rfl (by decide +kernel) rfl ⟨Nat.le_of_ble_eq_true rfl, Nat.le_of_ble_eq_true rfl⟩ ⟨Nat.le_of_ble_eq_true rfl, Nat.le_of_ble_eq_true rfl⟩ hK hW hS hKD hl.1 rfl (Nat.le_of_ble_eq_true rfl) dX7_draw_114 (fun H locs hW hS => ?_)
      refine lv_lconst (v := 0) hx hb dX7_draw_117 (by decide) ?_
      have h_10 : 0 ≤ ((cq_i (cq_i (cq_i (cq_i (cq_i (cq_l (cq_i q 17 (Int32.toNatClampNeg (q.1 0 0 8)) 0 o) 17 (Int32.toNatClampNeg (q.1 0 0 8)) 1 (m_X7_ripeOn q day)) 17 (Int32.toNatClampNeg (q.1 0 0 8)) 2 0) 17 (Int32.toNatClampNeg (q.1 0 0 8)) 3 1) 6 0 (Int32.toNatClampNeg (q.1 0 0 8)) 1) 0 0 8 ((q.1 0 0 8) + 1)) 0 0 9 day).1 7 0 2).toInt ∧ ((cq_i (cq_i (cq_i (cq_i (cq_i (cq_l (cq_i q 17 (Int32.toNatClampNeg (q.1 0 0 8)) 0 o) 17 (Int32.toNatClampNeg (q.1 0 0 8)) 1 (m_X7_ripeOn q day)) 17 (Int32.toNatClampNeg (q.1 0 0 8)) 2 0) 17 (Int32.toNatClampNeg (q.1 0 0 8)) 3 1) 6 0 (Int32.toNatClampNeg (q.1 0 0 8)) 1) 0 0 8 ((q.1 0 0 8) + 1)) 0 0 9 day).1 7 0 2).toInt ≤ 399 := by
        rw [show (cq_i (cq_i (cq_i (cq_i (cq_i (cq_l (cq_i q 17 (Int32.toNatClampNeg (q.1 0 0 8)) 0 o) 17 (Int32.toNatClampNeg (q.1 0 0 8)) 1 (m_X7_ripeOn q day)) 17 (Int32.toNatClampNeg (q.1 0 0 8)) 2 0) 17 (Int32.toNatClampNeg (q.1 0 0 8)) 3 1) 6 0 (Int32.toNatClampNeg (q.1 0 0 8)) 1) 0 0 8 ((q.1 0 0 8) + 1)) 0 0 9 day).1 7 0 2 = (q.1 7 0 2) from ((cq_ne (by decide)).trans ((cq_ne (by decide)).trans ((cq_ne (by decide)).trans ((cq_ne (by decide)).trans ((cq_ne (by decide)).trans ((cq_nel).trans (cq_ne (by decide))))))))]
        have k_1 : (8 : Int32).toInt = 8 := rfl
        have u_2 := rg_e (q.1 0 0 8)
        have u_3 := rg_e day
        have u_4 := rg_e (m_X2_size (cq_i (cq_i (cq_i (cq_i (cq_i (cq_l (cq_i q 17 (Int32.toNatClampNeg (q.1 0 0 8)) 0 o) 17 (Int32.toNatClampNeg (q.1 0 0 8)) 1 (m_X7_ripeOn q day)) 17 (Int32.toNatClampNeg (q.1 0 0 8)) 2 0) 17 (Int32.toNatClampNeg (q.1 0 0 8)) 3 1) 6 0 (Int32.toNatClampNeg (q.1 0 0 8)) 1) 0 0 8 ((q.1 0 0 8) + 1)) 0 0 9 day) (Int32.toNatClampNeg (q.1 0 0 8)))
        have u_5 := rg_e (m_X7_needOfficer o)
        have k_6 : (0 : Int32).toInt = 0 := rfl
        have v_7 := cv_eq c_1
        have u_8 := rg_e o
        have v_9 := nof_t c_1
        have u_10 := rg_e (m_X7_needDayOfAct q day)
        have v_11 := cv_eq c_2
        have v_12 := ndo_t c_2
        have u_13 := rg_e (m_X7_needRight q o 1)
        have v_14 := cv_eq c_4
        have u_15 := rg_e (m_X7_needRoom q 1)
        have v_16 := cv_eq c_5
        have k_17 : (1 : Int32).toInt = 1 := rfl
        have v_18 := nro_t hI c_5
        have k_19 : (16 : Int32).toInt = 16 := rfl
        have v_20 := cv_lt c_6
        have u_21 := rg_e (lg_cmp (m_X7_ripeOn q day) 0)
        have v_22 := cv_ne c_7
        have w_23 := hI.2.2.2.2.2.2.2.2.2.2.1
        have w_24 := hI.2.2.2.2.2.2.2.2.2.2.2.1
        exact by omega
      refine ow_callVv (C := RX0) (T := TX0) (N := 3) (ci := 0) (k := 7) (j := 0) (n := 5) (As := [.int 8, .int (q.1 0 0 8), .int day, .int (m_X2_size (cq_i (cq_i (cq_i (cq_i (cq_i (cq_l (cq_i q 17 (Int32.toNatClampNeg (q.1 0 0 8)) 0 o) 17 (Int32.toNatClampNeg (q.1 0 0 8)) 1 (m_X7_ripeOn q day)) 17 (Int32.toNatClampNeg (q.1 0 0 8)) 2 0) 17 (Int32.toNatClampNeg (q.1 0 0 8)) 3 1) 6 0 (Int32.toNatClampNeg (q.1 0 0 8)) 1) 0 0 8 ((q.1 0 0 8) + 1)) 0 0 9 day) (Int32.toNatClampNeg (q.1 0 0 8))), .long 0]) (rest := []) (z2 := (m_X0_write (cq_i (cq_i (cq_i (cq_i (cq_i (cq_l (cq_i q 17 (Int32.toNatClampNeg (q.1 0 0 8)) 0 o) 17 (Int32.toNatClampNeg (q.1 0 0 8)) 1 (m_X7_ripeOn q day)) 17 (Int32.toNatClampNeg (q.1 0 0 8)) 2 0) 17 (Int32.toNatClampNeg (q.1 0 0 8)) 3 1) 6 0 (Int32.toNatClampNeg (q.1 0 0 8)) 1) 0 0 8 ((q.1 0 0 8) + 1)) 0 0 9 day) 8 (q.1 0 0 8) day (m_X2_size (cq_i (cq_i (cq_i (cq_i (cq_i (cq_l (cq_i q 17 (Int32.toNatClampNeg (q.1 0 0 8)) 0 o) 17 (Int32.toNatClampNeg (q.1 0 0 8)) 1 (m_X7_ripeOn q day)) 17 (Int32.toNatClampNeg (q.1 0 0 8)) 2 0) 17 (Int32.toNatClampNeg (q.1 0 0 8)) 3 1) 6 0 (Int32.toNatClampNeg (q.1 0 0 8)) 1) 0 0 8 ((q.1 0 0 8) + 1)) 0 0 9 day) (Int32.toNatClampNeg (q.1 0 0 8))) 0)) ⟨hx, hb, hml, hown, hts⟩ (c_X0_write l D b0 cA ad mq (cq_i (cq_i (cq_i (cq_i (cq_i (cq_l (cq_i q 17 (Int32.toNatClampNeg (q.1 0 0 8)) 0 o) 17 (Int32.toNatClampNeg (q.1 0 0 8)) 1 (m_X7_ripeOn q day)) 17 (Int32.toNatClampNeg (q.1 0 0 8)) 2 0) 17 (Int32.toNatClampNeg (q.1 0 0 8)) 3 1) 6 0 (Int32.toNatClampNeg (q.1 0 0 8)) 1) 0 0 8 ((q.1 0 0 8) + 1)) 0 0 9 day) 8 (q.1 0 0 8) day (m_X2_size (cq_i (cq_i (cq_i (cq_i (cq_i (cq_l (cq_i q 17 (Int32.toNatClampNeg (q.1 0 0 8)) 0 o) 17 (Int32.toNatClampNeg (q.1 0 0 8)) 1 (m_X7_ripeOn q day)) 17 (Int32.toNatClampNeg (q.1 0 0 8)) 2 0) 17 (Int32.toNatClampNeg (q.1 0 0 8)) 3 1) 6 0 (Int32.toNatClampNeg (q.1 0 0 8)) 1) 0 0 8 ((q.1 0 0 8) + 1)) 0 0 9 day) (Int32.toNatClampNeg (q.1 0 0 8))) 0 h_10) (PO_k7) rfl gX7_draw_X0_write rfl (by decide +kernel) rfl ⟨Nat.le_of_ble_eq_true rfl, Nat.le_of_ble_eq_true rfl⟩ ⟨Nat.le_of_ble_eq_true rfl, Nat.le_of_ble_eq_true rfl⟩ hK hW hS hKD hl.1 rfl (Nat.le_of_ble_eq_true rfl) dX7_draw_118 (fun H locs hW hS => ?_)
      refine lv_iload hx hb dX7_draw_121 (lv_at hl 0 rfl) ?_
      exact od_iret hx hb hr hlk hK hW hak hS (Nat.le_of_ble_eq_true rfl) (Nat.le_of_ble_eq_true rfl) (by rw [m_X7_draw, if_pos c_1, if_pos c_2, if_pos c_4, if_pos c_5, if_pos c_6, if_neg c_7]) dX7_draw_123
    · exact ox_throwS (cls := "java/lang/IllegalStateException") (text := "no record is to be on the list") hx hb hlt hown (hts _ (List.mem_of_getElem? (i := 1) rfl)) (hts _ (List.mem_of_getElem? (i := 2) rfl)) hat_3 (by decide +kernel) (by decide +kernel) hK hW hS hKX (by decide +kernel) (hl.1.trans hml.symm) hxt (by rw [m_X7_draw, if_pos c_1, if_pos c_2, if_pos c_4, if_pos c_5, if_pos c_6, if_pos c_7]; exact ⟨rfl, show ¬ (3 : Int32) = 0 by decide⟩) (Nat.le_of_ble_eq_true rfl) (Nat.le_of_ble_eq_true rfl) (Nat.le_of_ble_eq_true rfl) (Nat.le_of_ble_eq_true rfl) hlk (Nat.le_of_ble_eq_true rfl) (Nat.le_of_ble_eq_true rfl) dX7_draw_51 dX7_draw_54 dX7_draw_55 dX7_draw_57 dX7_draw_60
  · exact ox_throwS (cls := "java/lang/IllegalStateException") (text := "all lists are there") hx hb hlt hown (hts _ (List.mem_of_getElem? (i := 1) rfl)) (hts _ (List.mem_of_getElem? (i := 2) rfl)) hat_3 (by decide +kernel) (by decide +kernel) hK hW hS hKX (by decide +kernel) (hl.1.trans hml.symm) hxt (by rw [m_X7_draw, if_pos c_1, if_pos c_2, if_pos c_4, if_pos c_5, if_neg c_6]; exact ⟨rfl, show ¬ (3 : Int32) = 0 by decide⟩) (Nat.le_of_ble_eq_true rfl) (Nat.le_of_ble_eq_true rfl) (Nat.le_of_ble_eq_true rfl) (Nat.le_of_ble_eq_true rfl) hlk (Nat.le_of_ble_eq_true rfl) (Nat.le_of_ble_eq_true rfl) dX7_draw_29 dX7_draw_32 dX7_draw_33 dX7_draw_35 dX7_draw_38
