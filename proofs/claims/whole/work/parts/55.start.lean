/-! laid by wip/whole/tools/lawstart.py: the law's start -/
theorem vq_eq {cB : ClassId} {n : Nat} {f g : Nat → Option Nat} (h : ∀ i, i < n → f i = g i) : vp_cell cB (vp_q n f) = vp_cell cB (vp_q n g) := by
  have e : ∀ (F G : Nat → Value), (∀ i, i < n → F i = G i) → arrV cB n F = arrV cB n G := by
    intro F G hFG
    unfold arrV
    have : (Array.ofFn (n := n) fun j => F j.val) = (Array.ofFn (n := n) fun j => G j.val) := by
      congr 1
      funext j
      exact hFG j.val j.isLt
    rw [this]
  show arrV cB n (fun j => va_rf (f j)) = arrV cB n (fun j => va_rf (g j))
  exact e _ _ (fun i hi => by rw [h i hi])
/-- a cell may be told in other words -/
theorem wd_set {D : va_G} {A : Nat → Prop} {P : Nat → Nat → Option va_E} {ad : Nat → Nat → Nat} {H : Heap} {k j : Nat} {e0 e1 : va_E} (h : wd D A P ad H) (h0 : P k j = some e0) (he : ∀ a, va_at D vwCl (a, e0) H → va_at D vwCl (a, e1) H) : wd D A (pu P k j e1) ad H := by
  obtain ⟨LP, f, hP, hD, hr, hj⟩ := h
  obtain ⟨hm, hf⟩ := hr k j _ h0
  obtain ⟨q, hq⟩ := va_pl_get (X := []) (f := f) hm
  obtain ⟨g1, g2⟩ := wd_re hr hj h0 (pu_s (P := P) (e := e1)) (fun a b hn => pu_n hn)
  have hset := va_pl_set (e := e1) hD hm hq
  have hq2 := hq
  rw [hf] at hq2
  refine ⟨LP, va_up f (ad k j) e1, ?_, ?_, g1, g2⟩
  · rw [← hset]
    exact va_P.set hP hD hq2 (he _ (hP q _ hq2)) (fun _ _ => rfl)
  · rw [← hset]
    exact va_D.set hD hq2
theorem wd_nil {D : va_G} {A : Nat → Prop} {ad : Nat → Nat → Nat} {H : Heap} : wd D A (fun _ _ => none) ad H :=
  ⟨[], fun _ => .inr (0, []), fun k q h => (by simp [va_pl] at h), ⟨fun i j p q h => (by simp [va_pl] at h), fun k q h => (by simp [va_pl] at h)⟩, fun k j e h => (by cases h), fun k j k' j' e e' h => (by cases h)⟩
theorem in_r1 : ∀ w ∈ wsL_law0_r1, w ∈ wsL_law := by
  intro w h
  unfold wsL_law wsL_law0
  simp only [List.mem_append, h, true_or, or_true]
theorem hm101 : Cond.methodLink RL 101 yX8_init ∈ wsL_law := by
  unfold wsL_law wsL_law0
  have h : Cond.methodLink RL 101 yX8_init ∈ wsL_law0_r3 := List.mem_of_getElem? (i := 2) rfl
  simp only [List.mem_append, h, true_or, or_true]
theorem hi101 : Cond.instanceMethod yX8_init ∈ wsL_law := by
  unfold wsL_law wsL_law0
  have h : Cond.instanceMethod yX8_init ∈ wsL_law0_r3 := List.mem_of_getElem? (i := 3) rfl
  simp only [List.mem_append, h, true_or, or_true]
def PS (cA : Nat → ClassId) (ad : Nat → Nat → Nat) : Nat → Nat → Option va_E := pu (pu (PI 8 8 cA ad) 2 0 (.inl (cA 3, vp_q 8 (fun i => some (ad 10 i))))) 4 0 (.inl (cA 5, vp_q 8 (fun i => some (ad 15 i))))
theorem PS_wd {D : va_G} {A : Nat → Prop} {cA : Nat → ClassId} {ad : Nat → Nat → Nat} {H : Heap} (h : wd D A (PI 8 8 cA ad) ad H) : wd D A (PS cA ad) ad H := by
  have h1 := wd_set (k := 2) (j := 0) (e0 := .inl (cA 3, vp_q 8 (fun x => if x < 8 then some (ad 10 x) else none))) (e1 := .inl (cA 3, vp_q 8 (fun i => some (ad 10 i)))) h rfl (fun a ha => by
    show H[a]? = some (vp_cell (cA 3) (vp_q 8 (fun i => some (ad 10 i))))
    rw [← vq_eq (f := fun x => if x < 8 then some (ad 10 x) else none) (fun i hi => if_pos hi)]
    exact ha)
  exact wd_set (k := 4) (j := 0) (e0 := .inl (cA 5, vp_q 8 (fun x => if x < 8 then some (ad 15 x) else none))) (e1 := .inl (cA 5, vp_q 8 (fun i => some (ad 15 i)))) h1 (pu_n (by decide)) (fun a ha => by
    show H[a]? = some (vp_cell (cA 5) (vp_q 8 (fun i => some (ad 15 i))))
    rw [← vq_eq (f := fun x => if x < 8 then some (ad 15 x) else none) (fun i hi => if_pos hi)]
    exact ha)
theorem PS_hi {cA : Nat → ClassId} {ad : Nat → Nat → Nat} {k j : Nat} (h : 16 ≤ k) : PS cA ad k j = none := by
  unfold PS
  rw [pu_n (by omega), pu_n (by omega)]
  unfold PI
  split <;> first | omega | rfl
theorem u16 : (upd (upd (upd (upd (upd (upd (upd (upd (upd (upd (upd (upd (upd (upd (upd (upd (fun _ => 0) (Int32.toNatClampNeg 0) (-1)) (Int32.toNatClampNeg 1) (-1)) (Int32.toNatClampNeg 2) (-1)) (Int32.toNatClampNeg 3) (-1)) (Int32.toNatClampNeg 4) (-1)) (Int32.toNatClampNeg 5) (-1)) (Int32.toNatClampNeg 6) (-1)) (Int32.toNatClampNeg 7) (-1)) (Int32.toNatClampNeg 8) (-1)) (Int32.toNatClampNeg 9) (-1)) (Int32.toNatClampNeg 10) (-1)) (Int32.toNatClampNeg 11) (-1)) (Int32.toNatClampNeg 12) (-1)) (Int32.toNatClampNeg 13) (-1)) (Int32.toNatClampNeg 14) (-1)) (Int32.toNatClampNeg 15) (-1)) = (fun i => if i < 16 then -1 else 0 : Nat → Int32) := by
  funext i
  have hh : i = 0 ∨ i = 1 ∨ i = 2 ∨ i = 3 ∨ i = 4 ∨ i = 5 ∨ i = 6 ∨ i = 7 ∨ i = 8 ∨ i = 9 ∨ i = 10 ∨ i = 11 ∨ i = 12 ∨ i = 13 ∨ i = 14 ∨ i = 15 ∨ 16 ≤ i := by omega
  rcases hh with rfl | rfl | rfl | rfl | rfl | rfl | rfl | rfl | rfl | rfl | rfl | rfl | rfl | rfl | rfl | rfl | hh
  · rfl
  · rfl
  · rfl
  · rfl
  · rfl
  · rfl
  · rfl
  · rfl
  · rfl
  · rfl
  · rfl
  · rfl
  · rfl
  · rfl
  · rfl
  · rfl
  · rw [if_neg (by omega)]
    unfold upd
    rw [if_neg (fun h => by have e : Int32.toNatClampNeg 15 = 15 := rfl; omega)]
    rw [if_neg (fun h => by have e : Int32.toNatClampNeg 14 = 14 := rfl; omega)]
    rw [if_neg (fun h => by have e : Int32.toNatClampNeg 13 = 13 := rfl; omega)]
    rw [if_neg (fun h => by have e : Int32.toNatClampNeg 12 = 12 := rfl; omega)]
    rw [if_neg (fun h => by have e : Int32.toNatClampNeg 11 = 11 := rfl; omega)]
    rw [if_neg (fun h => by have e : Int32.toNatClampNeg 10 = 10 := rfl; omega)]
    rw [if_neg (fun h => by have e : Int32.toNatClampNeg 9 = 9 := rfl; omega)]
    rw [if_neg (fun h => by have e : Int32.toNatClampNeg 8 = 8 := rfl; omega)]
    rw [if_neg (fun h => by have e : Int32.toNatClampNeg 7 = 7 := rfl; omega)]
    rw [if_neg (fun h => by have e : Int32.toNatClampNeg 6 = 6 := rfl; omega)]
    rw [if_neg (fun h => by have e : Int32.toNatClampNeg 5 = 5 := rfl; omega)]
    rw [if_neg (fun h => by have e : Int32.toNatClampNeg 4 = 4 := rfl; omega)]
    rw [if_neg (fun h => by have e : Int32.toNatClampNeg 3 = 3 := rfl; omega)]
    rw [if_neg (fun h => by have e : Int32.toNatClampNeg 2 = 2 := rfl; omega)]
    rw [if_neg (fun h => by have e : Int32.toNatClampNeg 1 = 1 := rfl; omega)]
    rw [if_neg (fun h => by have e : Int32.toNatClampNeg 0 = 0 := rfl; omega)]
theorem m0_f (f : Nat) (h : f = 9 ∨ f = 10 ∨ f = 11) : m0.1 f = (fun i => if i < 16 then -1 else 0 : Nat → Int32) := by
  funext i
  by_cases hi : i < 16
  · rw [m0_n h hi, if_pos hi]
  · rw [if_neg hi]
    unfold m0
    dsimp only
    rw [if_neg (fun x => by rcases h with e | e | e <;> rw [e] at x <;> exact absurd x.1 (by decide)), if_neg (fun x => hi x.2)]
theorem PI_c {n h : Nat} {cA : Nat → ClassId} {ad ad2 : Nat → Nat → Nat} (e : ∀ k, 1 ≤ k → k ≤ 15 → ad k = ad2 k) : PI n h cA ad = PI n h cA ad2 := by
  funext k j
  unfold PI
  rw [e 1 (by decide) (by decide), e 2 (by decide) (by decide), e 3 (by decide) (by decide), e 4 (by decide) (by decide), e 5 (by decide) (by decide), e 6 (by decide) (by decide), e 7 (by decide) (by decide), e 8 (by decide) (by decide), e 9 (by decide) (by decide), e 10 (by decide) (by decide), e 11 (by decide) (by decide), e 12 (by decide) (by decide), e 13 (by decide) (by decide), e 15 (by decide) (by decide)]
def PF (cA : Nat → ClassId) (ad : Nat → Nat → Nat) : Nat → Nat → Option va_E := pu (P2_X8_init cA (pu (PS cA ad) 20 0 (.inr (7, [.int 0, .null, .int 0, .int 0, .null, .null, .null, .null, .null, .null, .null, .null, .int 0, .null, .null, .null, .null, .null, .null, .null, .null, .null, .null, .null, .null, .int 0, .null, .null, .null, .null, .null, .int 0, .null, .null]))) ad) 22 0 (.inl (cA 1, 1, .inr (.inl (fun _ => 0))))
theorem PF_lo {cA : Nat → ClassId} {ad : Nat → Nat → Nat} {k j : Nat} (h : k ≤ 19) : PF cA ad k j = PS cA ad k j := by
  unfold PF P2_X8_init
  rw [pu_n (by omega), pu_n (by omega), pu_n (by omega), pu_n (by omega), pu_n (by omega), pu_n (by omega), pu_n (by omega), pu_n (by omega), pu_n (by omega), pu_n (by omega), pu_n (by omega), pu_n (by omega), pu_n (by omega), pu_n (by omega), pu_n (by omega), pu_n (by omega), pu_n (by omega), pu_n (by omega), pu_n (by omega), pu_n (by omega), pu_n (by omega), pu_n (by omega), pu_n (by omega), pu_n (by omega), pu_n (by omega), pu_n (by omega), pu_n (by omega), pu_n (by omega), pu_n (by omega), pu_n (by omega), pu_n (by omega)]
theorem m0_zz (f : Nat) (h : f ≠ 2) (h9 : f ≠ 9) (h10 : f ≠ 10) (h11 : f ≠ 11) : m0.1 f = fun _ => 0 := funext fun i => m0_z h h9 h10 h11
theorem c0_zz (k j : Nat) (h : k ≠ 0) : c0.1 k j = fun _ => 0 := funext fun i => c0_z h
theorem PF_21 {cA : Nat → ClassId} {ad : Nat → Nat → Nat} {f : Nat} {e : va_E} (h : wm_arr cA m0 f = some e) : PF cA ad 21 f = some e := by
  rw [← h]
  have hh : f = 1 ∨ f = 4 ∨ f = 5 ∨ f = 6 ∨ f = 7 ∨ f = 8 ∨ f = 9 ∨ f = 10 ∨ f = 11 ∨ f = 13 ∨ f = 14 ∨ f = 15 ∨ f = 16 ∨ f = 17 ∨ f = 18 ∨ f = 19 ∨ f = 20 ∨ f = 21 ∨ f = 22 ∨ f = 23 ∨ f = 24 ∨ f = 26 ∨ f = 27 ∨ f = 28 ∨ f = 29 ∨ f = 30 ∨ f = 32 ∨ f = 33 ∨ wm_kind f = (0, 0) := by
    unfold wm_kind
    split <;> simp
  rcases hh with rfl | rfl | rfl | rfl | rfl | rfl | rfl | rfl | rfl | rfl | rfl | rfl | rfl | rfl | rfl | rfl | rfl | rfl | rfl | rfl | rfl | rfl | rfl | rfl | rfl | rfl | rfl | rfl | hh
  · have hz := m0_zz 1 (by decide) (by decide) (by decide) (by decide)
    show PF cA ad 21 1 = some (.inl (cA 0, 8, .inl (m0.1 1)))
    rw [hz]
    rfl
  · have hz := m0_zz 4 (by decide) (by decide) (by decide) (by decide)
    show PF cA ad 21 4 = some (.inl (cA 0, 8, .inl (m0.1 4)))
    rw [hz]
    rfl
  · have hz := m0_zz 5 (by decide) (by decide) (by decide) (by decide)
    show PF cA ad 21 5 = some (.inl (cA 0, 8, .inl (m0.1 5)))
    rw [hz]
    rfl
  · have hz := m0_zz 6 (by decide) (by decide) (by decide) (by decide)
    show PF cA ad 21 6 = some (.inl (cA 0, 48, .inl (m0.1 6)))
    rw [hz]
    rfl
  · have hz := m0_zz 7 (by decide) (by decide) (by decide) (by decide)
    show PF cA ad 21 7 = some (.inl (cA 0, 48, .inl (m0.1 7)))
    rw [hz]
    rfl
  · have hz := m0_zz 8 (by decide) (by decide) (by decide) (by decide)
    show PF cA ad 21 8 = some (.inl (cA 2, 48, .inl (m0.1 8)))
    rw [hz]
    rfl
  · have hz := m0_f 9 (by decide)
    show PF cA ad 21 9 = some (.inl (cA 0, 16, .inl (m0.1 9)))
    rw [hz, ← u16]
    rfl
  · have hz := m0_f 10 (by decide)
    show PF cA ad 21 10 = some (.inl (cA 0, 16, .inl (m0.1 10)))
    rw [hz, ← u16]
    rfl
  · have hz := m0_f 11 (by decide)
    show PF cA ad 21 11 = some (.inl (cA 0, 16, .inl (m0.1 11)))
    rw [hz, ← u16]
    rfl
  · have hz := m0_zz 13 (by decide) (by decide) (by decide) (by decide)
    show PF cA ad 21 13 = some (.inl (cA 0, 64, .inl (m0.1 13)))
    rw [hz]
    rfl
  · have hz := m0_zz 14 (by decide) (by decide) (by decide) (by decide)
    show PF cA ad 21 14 = some (.inl (cA 0, 64, .inl (m0.1 14)))
    rw [hz]
    rfl
  · have hz := m0_zz 15 (by decide) (by decide) (by decide) (by decide)
    show PF cA ad 21 15 = some (.inl (cA 0, 64, .inl (m0.1 15)))
    rw [hz]
    rfl
  · rfl
  · have hz := m0_zz 17 (by decide) (by decide) (by decide) (by decide)
    show PF cA ad 21 17 = some (.inl (cA 0, 192, .inl (m0.1 17)))
    rw [hz]
    rfl
  · have hz := m0_zz 18 (by decide) (by decide) (by decide) (by decide)
    show PF cA ad 21 18 = some (.inl (cA 2, 64, .inl (m0.1 18)))
    rw [hz]
    rfl
  · have hz := m0_zz 19 (by decide) (by decide) (by decide) (by decide)
    show PF cA ad 21 19 = some (.inl (cA 2, 8, .inl (m0.1 19)))
    rw [hz]
    rfl
  · have hz := m0_zz 20 (by decide) (by decide) (by decide) (by decide)
    show PF cA ad 21 20 = some (.inl (cA 0, 8, .inl (m0.1 20)))
    rw [hz]
    rfl
  · have hz := m0_zz 21 (by decide) (by decide) (by decide) (by decide)
    show PF cA ad 21 21 = some (.inl (cA 0, 8, .inl (m0.1 21)))
    rw [hz]
    rfl
  · have hz := m0_zz 22 (by decide) (by decide) (by decide) (by decide)
    show PF cA ad 21 22 = some (.inl (cA 0, 8, .inl (m0.1 22)))
    rw [hz]
    rfl
  · have hz := m0_zz 23 (by decide) (by decide) (by decide) (by decide)
    show PF cA ad 21 23 = some (.inl (cA 0, 8, .inl (m0.1 23)))
    rw [hz]
    rfl
  · have hz := m0_zz 24 (by decide) (by decide) (by decide) (by decide)
    show PF cA ad 21 24 = some (.inl (cA 0, 8, .inl (m0.1 24)))
    rw [hz]
    rfl
  · have hz := m0_zz 26 (by decide) (by decide) (by decide) (by decide)
    show PF cA ad 21 26 = some (.inl (cA 0, 1024, .inl (m0.1 26)))
    rw [hz]
    rfl
  · have hz := m0_zz 27 (by decide) (by decide) (by decide) (by decide)
    show PF cA ad 21 27 = some (.inl (cA 0, 16, .inl (m0.1 27)))
    rw [hz]
    rfl
  · have hz := m0_zz 28 (by decide) (by decide) (by decide) (by decide)
    show PF cA ad 21 28 = some (.inl (cA 0, 16, .inl (m0.1 28)))
    rw [hz]
    rfl
  · have hz := m0_zz 29 (by decide) (by decide) (by decide) (by decide)
    show PF cA ad 21 29 = some (.inl (cA 0, 16, .inl (m0.1 29)))
    rw [hz]
    rfl
  · have hz := m0_zz 30 (by decide) (by decide) (by decide) (by decide)
    show PF cA ad 21 30 = some (.inl (cA 2, 16, .inl (m0.1 30)))
    rw [hz]
    rfl
  · have hz := m0_zz 32 (by decide) (by decide) (by decide) (by decide)
    show PF cA ad 21 32 = some (.inl (cA 0, 1600, .inl (m0.1 32)))
    rw [hz]
    rfl
  · rfl
  · unfold wm_arr at h
    rw [hh] at h
    cases h
set_option maxRecDepth 100000 in
theorem PO_0 {cA : Nat → ClassId} {ad : Nat → Nat → Nat} : ∀ (a b : Nat) (e : va_E), PO cA ad c0 m0 a b = some e → PF cA ad a b = some e := by
  intro a b e h
  have hh : a = 0 ∨ a = 1 ∨ a = 2 ∨ a = 3 ∨ a = 4 ∨ a = 5 ∨ a = 6 ∨ a = 7 ∨ a = 8 ∨ a = 9 ∨ a = 10 ∨ a = 11 ∨ a = 12 ∨ a = 13 ∨ a = 14 ∨ a = 15 ∨ a = 16 ∨ a = 17 ∨ a = 18 ∨ a = 19 ∨ a = 20 ∨ a = 21 ∨ a = 22 ∨ 23 ≤ a := by omega
  rcases hh with rfl | rfl | rfl | rfl | rfl | rfl | rfl | rfl | rfl | rfl | rfl | rfl | rfl | rfl | rfl | rfl | rfl | rfl | rfl | rfl | rfl | rfl | rfl | hh
  · by_cases hb : b = 0
    · subst hb
      rw [← h, PO_k0, PF_lo (by decide)]
      rfl
    · rw [PO_c (by decide) (by decide)] at h
      have : (none : Option va_E) = some e := by rw [← h]; exact (if_neg hb).symm
      cases this
  · by_cases hb : b = 0
    · subst hb
      rw [← h, PO_k1, PF_lo (by decide)]
      rw [c0_zz 1 0 (by decide)]
      rfl
    · rw [PO_c (by decide) (by decide)] at h
      have : (none : Option va_E) = some e := by rw [← h]; exact (if_neg hb).symm
      cases this
  · by_cases hb : b = 0
    · subst hb
      rw [← h, PO_k2, PF_lo (by decide)]
      rfl
    · rw [PO_c (by decide) (by decide)] at h
      have : (none : Option va_E) = some e := by rw [← h]; exact (if_neg hb).symm
      cases this
  · by_cases hb : b = 0
    · subst hb
      rw [← h, PO_k3, PF_lo (by decide)]
      have hr : rfs (c0.1 3 0) (ad 14) = fun _ => none := funext fun i => if_pos (c0_z (by decide))
      rw [hr]
      rfl
    · rw [PO_c (by decide) (by decide)] at h
      have : (none : Option va_E) = some e := by rw [← h]; exact (if_neg hb).symm
      cases this
  · by_cases hb : b = 0
    · subst hb
      rw [← h, PO_k4, PF_lo (by decide)]
      rfl
    · rw [PO_c (by decide) (by decide)] at h
      have : (none : Option va_E) = some e := by rw [← h]; exact (if_neg hb).symm
      cases this
  · by_cases hb : b = 0
    · subst hb
      rw [← h, PO_k5, PF_lo (by decide)]
      have hr : rfs (c0.1 5 0) (ad 16) = fun _ => none := funext fun i => if_pos (c0_z (by decide))
      rw [hr]
      rfl
    · rw [PO_c (by decide) (by decide)] at h
      have : (none : Option va_E) = some e := by rw [← h]; exact (if_neg hb).symm
      cases this
  · by_cases hb : b = 0
    · subst hb
      rw [← h, PO_k6, PF_lo (by decide)]
      have hr : rfs (c0.1 6 0) (ad 17) = fun _ => none := funext fun i => if_pos (c0_z (by decide))
      rw [hr]
      rfl
    · rw [PO_c (by decide) (by decide)] at h
      have : (none : Option va_E) = some e := by rw [← h]; exact (if_neg hb).symm
      cases this
  · by_cases hb : b = 0
    · subst hb
      rw [← h, PO_k7, PF_lo (by decide)]
      rfl
    · rw [PO_c (by decide) (by decide)] at h
      have : (none : Option va_E) = some e := by rw [← h]; exact (if_neg hb).symm
      cases this
  · by_cases hb : b = 0
    · subst hb
      rw [← h, PO_k8, PF_lo (by decide)]
      rw [c0_zz 8 0 (by decide)]
      rfl
    · rw [PO_c (by decide) (by decide)] at h
      have : (none : Option va_E) = some e := by rw [← h]; exact (if_neg hb).symm
      cases this
  · by_cases hb : b = 0
    · subst hb
      rw [← h, PO_k9, PF_lo (by decide)]
      rfl
    · rw [PO_c (by decide) (by decide)] at h
      have : (none : Option va_E) = some e := by rw [← h]; exact (if_neg hb).symm
      cases this
  · by_cases hb : b < 8
    · rw [← h, PO_k10 hb, PF_lo (by decide)]
      show PS cA ad 10 b = _
      unfold PS
      rw [pu_n (fun x => absurd x.1 (by decide)), pu_n (fun x => absurd x.1 (by decide))]
      exact if_pos hb
    · rw [PO_c (by decide) (by decide)] at h
      have : (none : Option va_E) = some e := by rw [← h]; exact (if_neg hb).symm
      cases this
  · by_cases hb : b < 8
    · rw [← h, PO_k11 hb, PF_lo (by decide)]
      rw [c0_zz 11 b (by decide)]
      show PS cA ad 11 b = _
      unfold PS
      rw [pu_n (fun x => absurd x.1 (by decide)), pu_n (fun x => absurd x.1 (by decide))]
      exact if_pos hb
    · rw [PO_c (by decide) (by decide)] at h
      have : (none : Option va_E) = some e := by rw [← h]; exact (if_neg hb).symm
      cases this
  · by_cases hb : b < 8
    · rw [← h, PO_k12 hb, PF_lo (by decide)]
      rw [c0_zz 12 b (by decide)]
      show PS cA ad 12 b = _
      unfold PS
      rw [pu_n (fun x => absurd x.1 (by decide)), pu_n (fun x => absurd x.1 (by decide))]
      exact if_pos hb
    · rw [PO_c (by decide) (by decide)] at h
      have : (none : Option va_E) = some e := by rw [← h]; exact (if_neg hb).symm
      cases this
  · by_cases hb : b < 8
    · rw [← h, PO_k13 hb, PF_lo (by decide)]
      rw [c0_zz 13 b (by decide)]
      show PS cA ad 13 b = _
      unfold PS
      rw [pu_n (fun x => absurd x.1 (by decide)), pu_n (fun x => absurd x.1 (by decide))]
      exact if_pos hb
    · rw [PO_c (by decide) (by decide)] at h
      have : (none : Option va_E) = some e := by rw [← h]; exact (if_neg hb).symm
      cases this
  · rw [PO_c (by decide) (by decide)] at h
    simp only [PX] at h
    rw [if_pos (show c0.1 3 0 b = 0 from c0_z (by decide))] at h
    cases h
  · by_cases hb : b < 8
    · rw [← h, PO_k15 hb, PF_lo (by decide)]
      show PS cA ad 15 b = _
      unfold PS
      rw [pu_n (fun x => absurd x.1 (by decide)), pu_n (fun x => absurd x.1 (by decide))]
      exact if_pos hb
    · rw [PO_c (by decide) (by decide)] at h
      have : (none : Option va_E) = some e := by rw [← h]; exact (if_neg hb).symm
      cases this
  · rw [PO_c (by decide) (by decide)] at h
    simp only [PX] at h
    rw [if_pos (show c0.1 5 0 b = 0 from c0_z (by decide))] at h
    cases h
  · rw [PO_c (by decide) (by decide)] at h
    simp only [PX] at h
    rw [if_pos (show c0.1 6 0 b = 0 from c0_z (by decide))] at h
    cases h
  · rw [PO_c (by decide) (by decide)] at h
    cases h
  · rw [PO_c (by decide) (by decide)] at h
    cases h
  · by_cases hb : b = 0
    · subst hb
      rw [← h]
      rfl
    · have : (none : Option va_E) = some e := by rw [← h]; exact (if_neg hb).symm
      cases this
  · exact PF_21 h
  · by_cases hb : b = 0
    · subst hb
      rw [← h, PO_k22]
      rfl
    · rw [PO_c (by decide) (by decide)] at h
      have : (none : Option va_E) = some e := by rw [← h]; exact (if_neg hb).symm
      cases this
  · rw [PO_c (by omega) (by omega)] at h
    unfold PX at h
    split at h <;> first | omega | cases h
