/-! a new folder, record or list: the world behind the store into its array -/
def adk (ad ad2 : Nat → Nat → Nat) : Prop := ∀ k j, k ≠ 14 → k ≠ 16 → k ≠ 17 → ad2 k j = ad k j
theorem adk_rf (ad : Nat → Nat → Nat) : adk ad ad := fun _ _ _ _ _ => rfl
theorem adk_tr {a b c : Nat → Nat → Nat} (h1 : adk a b) (h2 : adk b c) : adk a c := fun k j x y z => (h2 k j x y z).trans (h1 k j x y z)
theorem PX_c {ad ad2 : Nat → Nat → Nat} {cA : Nat → ClassId} {I : Nat → Int32} {L : Nat → Int64} {g3 g5 g6 h3 h5 h6 : Nat → Int32} {k j : Nat} (h0 : adk ad ad2) (h14 : k = 14 → g3 j = h3 j) (h16 : k = 16 → g5 j = h5 j ∧ (¬ g5 j = 0 → ad2 14 (Int32.toNatClampNeg (I 0)) = ad 14 (Int32.toNatClampNeg (I 0)))) (h17 : k = 17 → g6 j = h6 j) (k3 : k = 3 → rfs I (ad2 14) = rfs I (ad 14)) (k5 : k = 5 → rfs I (ad2 16) = rfs I (ad 16)) (k6 : k = 6 → rfs I (ad2 17) = rfs I (ad 17)) :
    PX ad2 cA I L g3 g5 g6 k j = PX ad cA I L h3 h5 h6 k j := by
  have e : ∀ a, a ≠ 14 → a ≠ 16 → a ≠ 17 → ad2 a = ad a := fun a x y z => funext fun b => h0 a b x y z
  have e1 := e 1 (by decide) (by decide) (by decide)
  have e2 := e 2 (by decide) (by decide) (by decide)
  have e3 := e 3 (by decide) (by decide) (by decide)
  have e4 := e 4 (by decide) (by decide) (by decide)
  have e5 := e 5 (by decide) (by decide) (by decide)
  have e6 := e 6 (by decide) (by decide) (by decide)
  have e7 := e 7 (by decide) (by decide) (by decide)
  have e8 := e 8 (by decide) (by decide) (by decide)
  have e9 := e 9 (by decide) (by decide) (by decide)
  have e10 := e 10 (by decide) (by decide) (by decide)
  have e11 := e 11 (by decide) (by decide) (by decide)
  have e12 := e 12 (by decide) (by decide) (by decide)
  have e13 := e 13 (by decide) (by decide) (by decide)
  have e15 := e 15 (by decide) (by decide) (by decide)
  unfold PX
  split
  · rw [e1, e2, e3, e4, e5, e6, e7]
  · rfl
  · rw [e10]
  · rw [k3 rfl]
  · rw [e15]
  · rw [k5 rfl]
  · rw [k6 rfl]
  · rw [e8, e9]
  · rfl
  · rfl
  · rw [e11, e12, e13]
  · rfl
  · rfl
  · rfl
  · rw [h14 rfl]
  · rfl
  · obtain ⟨g, hg⟩ := h16 rfl
    by_cases hz : g5 j = 0
    · rw [if_pos hz, if_pos (g ▸ hz)]
    · rw [if_neg hz, if_neg (g ▸ hz), hg hz]
  · rw [h17 rfl]
  · rfl
  · rfl
theorem PX_3 {ad : Nat → Nat → Nat} {cA : Nat → ClassId} {I : Nat → Int32} {L : Nat → Int64} {g3 g5 g6 : Nat → Int32} {j : Nat} : PX ad cA I L g3 g5 g6 3 j = if j = 0 then some (.inl (cA 4, vp_q 16 (rfs I (ad 14)))) else none := rfl
theorem PX_5 {ad : Nat → Nat → Nat} {cA : Nat → ClassId} {I : Nat → Int32} {L : Nat → Int64} {g3 g5 g6 : Nat → Int32} {j : Nat} : PX ad cA I L g3 g5 g6 5 j = if j = 0 then some (.inl (cA 6, vp_q 64 (rfs I (ad 16)))) else none := rfl
theorem PX_6 {ad : Nat → Nat → Nat} {cA : Nat → ClassId} {I : Nat → Int32} {L : Nat → Int64} {g3 g5 g6 : Nat → Int32} {j : Nat} : PX ad cA I L g3 g5 g6 6 j = if j = 0 then some (.inl (cA 7, vp_q 16 (rfs I (ad 17)))) else none := rfl
theorem PX_14 {ad : Nat → Nat → Nat} {cA : Nat → ClassId} {I : Nat → Int32} {L : Nat → Int64} {g3 g5 g6 : Nat → Int32} {j : Nat} : PX ad cA I L g3 g5 g6 14 j = if g3 j = 0 then none else some (.inr (3, [.int (I 0), .int (I 1), .int (I 2), .int (I 3)])) := rfl
theorem PX_16 {ad : Nat → Nat → Nat} {cA : Nat → ClassId} {I : Nat → Int32} {L : Nat → Int64} {g3 g5 g6 : Nat → Int32} {j : Nat} : PX ad cA I L g3 g5 g6 16 j = if g5 j = 0 then none else some (.inr (2, [.ref (ad 14 (Int32.toNatClampNeg (I 0))), .int (I 1), .long (L 2), .int (I 3), .int (I 4), .int (I 5), .int (I 6), .int (I 7)])) := rfl
theorem PX_17 {ad : Nat → Nat → Nat} {cA : Nat → ClassId} {I : Nat → Int32} {L : Nat → Int64} {g3 g5 g6 : Nat → Int32} {j : Nat} : PX ad cA I L g3 g5 g6 17 j = if g6 j = 0 then none else some (.inr (1, [.int (I 0), .long (L 1), .int (I 2), .int (I 3)])) := rfl
theorem wm_c {ad ad2 : Nat → Nat → Nat} {m : qM} (h0 : adk ad ad2) : wm_fs ad2 m = wm_fs ad m := by
  have e : ad2 21 = ad 21 := funext fun b => h0 21 b (by decide) (by decide) (by decide)
  unfold wm_fs
  rw [e]
def gmk (k J : Nat) (a b : Nat) : Nat × Nat := if a = k ∧ b = J then (23, 0) else (a, b)
theorem gmk_s {k J : Nat} : gmk k J k J = (23, 0) := if_pos ⟨rfl, rfl⟩
theorem gmk_n {k J a b : Nat} (h : ¬ (a = k ∧ b = J)) : gmk k J a b = (a, b) := if_neg h
theorem gmk_i {k J a b a' b' : Nat} (h : a ≠ 23) (h' : a' ≠ 23) (hg : gmk k J a b = gmk k J a' b') : a = a' ∧ b = b' := by
  by_cases h1 : a = k ∧ b = J
  · by_cases h2 : a' = k ∧ b' = J
    · exact ⟨h1.1.trans h2.1.symm, h1.2.trans h2.2.symm⟩
    · rw [gmk_n h2, h1.1, h1.2, gmk_s] at hg
      exact absurd (congrArg Prod.fst hg).symm h'
  · rw [gmk_n h1] at hg
    by_cases h2 : a' = k ∧ b' = J
    · rw [h2.1, h2.2, gmk_s] at hg
      exact absurd (congrArg Prod.fst hg) h
    · rw [gmk_n h2] at hg
      exact ⟨congrArg Prod.fst hg, congrArg Prod.snd hg⟩
theorem PO_23 {cA : Nat → ClassId} {ad : Nat → Nat → Nat} {c : qC} {m : qM} {j : Nat} : PO cA ad c m 23 j = none := by rw [PO_c (by decide) (by decide)]; rfl
theorem PO_n23 {cA : Nat → ClassId} {ad : Nat → Nat → Nat} {c : qC} {m : qM} {a b : Nat} {e : va_E} (h : PO cA ad c m a b = some e) : a ≠ 23 := fun q => by rw [q, PO_23] at h; cases h
def s14 (c : qC) (J : Nat) (n : Int32) (cl : Int32) : qC := (cq_i (cq_i (cq_i (cq_i (cq_i c 14 J 0 n) 14 J 1 cl) 14 J 2 (-1)) 14 J 3 (-1)) 3 0 J 1)
theorem s14_f {c : qC} {J : Nat} {n : Int32} {cl : Int32} : (s14 c J n cl).1 3 0 = upd (c.1 3 0) J 1 := by
  unfold s14
  rw [cq_cell]
  congr 1
theorem s14_k {c : qC} {J : Nat} {n : Int32} {cl : Int32} {a : Nat} (h1 : a ≠ 14) (h2 : a ≠ 3) : (s14 c J n cl).1 a = c.1 a := by
  unfold s14
  simp [cq_i, cq_l, h1, h2]
theorem s14_n {c : qC} {J : Nat} {n : Int32} {cl : Int32} {a b : Nat} (h1 : ¬ (a = 14 ∧ b = J)) (h2 : ¬ (a = 3 ∧ b = 0)) : (s14 c J n cl).1 a b = c.1 a b := by
  unfold s14
  rw [cq_nj h2]
  funext x
  by_cases ha : a = 14
  · subst ha
    have hb : b ≠ J := fun q => h1 ⟨rfl, q⟩
    simp [cq_i, cq_l, hb]
  · simp [cq_i, cq_l, ha]
theorem s14_l {c : qC} {J : Nat} {n : Int32} {cl : Int32} {a b : Nat} (h1 : ¬ (a = 14 ∧ b = J)) : (s14 c J n cl).2 a b = c.2 a b := by
  unfold s14
  funext x
  by_cases ha : a = 14
  · subst ha
    have hb : b ≠ J := fun q => h1 ⟨rfl, q⟩
    simp [cq_i, cq_l, hb]
  · simp [cq_i, cq_l, ha]
theorem s14_0 {c : qC} {J : Nat} {n : Int32} {cl : Int32} : (s14 c J n cl).1 14 J 0 = n := by
  unfold s14
  simp [cq_i, cq_l, upd, vp_updL]
theorem s14_1 {c : qC} {J : Nat} {n : Int32} {cl : Int32} : (s14 c J n cl).1 14 J 1 = cl := by
  unfold s14
  simp [cq_i, cq_l, upd, vp_updL]
theorem s14_2 {c : qC} {J : Nat} {n : Int32} {cl : Int32} : (s14 c J n cl).1 14 J 2 = (-1) := by
  unfold s14
  simp [cq_i, cq_l, upd, vp_updL]
theorem s14_3 {c : qC} {J : Nat} {n : Int32} {cl : Int32} : (s14 c J n cl).1 14 J 3 = (-1) := by
  unfold s14
  simp [cq_i, cq_l, upd, vp_updL]
theorem mk14 {D : va_G} {A : Nat → Prop} {cA : Nat → ClassId} {ad : Nat → Nat → Nat} {H : Heap} {c : qC} {m : qM} {J q : Nat} {n : Int32} {cl : Int32} (hab : c.1 3 0 J = 0) (hf : ∀ r, ¬ c.1 5 0 r = 0 → ¬ c.1 3 0 (Int32.toNatClampNeg (c.1 16 r 0)) = 0)
    (hW : wd D A (pu (pu (PO cA ad c m) 23 0 (.inr (3, [.int n, .int cl, .int (-1), .int (-1)]))) 3 0 (.inl (cA 4, vp_q 16 (va_up (rfs (c.1 3 0) (ad 14)) J (some q))))) (au ad 23 0 q) H) : wd D A (PO cA (au ad 14 J q) (s14 c J n cl) m) (au ad 14 J q) H ∧ adk ad (au ad 14 J q) := by
  have hk : adk ad (au ad 14 J q) := fun k j x y z => au_n (fun q => x q.1)
  refine ⟨wd_name hW (gmk 14 J) (fun a b e h => ?_) (fun a b a' b' e e' h h' hg => gmk_i (PO_n23 h) (PO_n23 h') hg), hk⟩
  have ha23 := PO_n23 h
  by_cases h1 : a = 14 ∧ b = J
  · obtain ⟨rfl, rfl⟩ := h1
    rw [gmk_s, au_s]
    refine ⟨?_, au_s.symm⟩
    show pu (pu _ 23 0 _) 3 0 _ 23 0 = _
    rw [pu_n (by decide), pu_s, ← h, PO_c (by decide) (by decide)]
    rw [PX_14, if_neg (by rw [s14_f]; simp [upd]), s14_0, s14_1, s14_2, s14_3]
  · rw [gmk_n h1, au_n h1]
    refine ⟨?_, (au_n (fun q => ha23 q.1)).symm⟩
    show pu (pu _ 23 0 _) 3 0 _ a b = some e
    by_cases h2 : a = 3 ∧ b = 0
    · obtain ⟨rfl, rfl⟩ := h2
      rw [pu_s, ← h, PO_c (by decide) (by decide)]
      rw [PX_3, if_pos rfl, s14_f]
      congr 3
      unfold vp_q
      congr 5
      funext i
      unfold rfs va_up upd au
      by_cases hi : i = J
      · subst hi; simp
      · simp [hi]
    · rw [pu_n h2, pu_n (fun q => ha23 q.1), ← h]
      unfold PO PW
      by_cases h20 : a = 20
      · rw [if_pos h20, if_pos h20, wm_c hk]
      · rw [if_neg h20, if_neg h20]
        by_cases h21 : a = 21
        · rw [if_pos h21, if_pos h21]
        · rw [if_neg h21, if_neg h21]
          unfold PC
          rw [s14_n h1 h2, s14_l h1]
          refine (PX_c hk ?_ ?_ ?_ ?_ ?_ ?_).symm
          · intro h14; subst h14; rw [s14_f]; simp [upd, show b ≠ J from fun q => h1 ⟨rfl, q⟩]
          · intro h16; rw [s14_k (by decide) (by decide)]; exact ⟨rfl, fun hz => au_n (fun q2 => hf b (by subst h16; exact hz) (by subst h16; rw [q2.2]; exact hab))⟩
          · intro h17; rw [s14_k (by decide) (by decide)]
          · intro h3; subst h3; exact absurd h (by rw [PO_c (by decide) (by decide)]; rw [PX_3, if_neg (fun q => h2 ⟨rfl, q⟩)]; exact fun q => by cases q)
          · intro h3; congr 1
          · intro h3; congr 1

def s16 (c : qC) (J : Nat) (f : Int32) (size : Int32) (dg : Int64) (ka : Int32) (kb : Int32) (kc : Int32) (day : Int32) : qC := (cq_i (cq_i (cq_i (cq_i (cq_i (cq_i (cq_l (cq_i (cq_i c 16 J 0 f) 16 J 1 size) 16 J 2 dg) 16 J 3 ka) 16 J 4 kb) 16 J 5 kc) 16 J 6 day) 16 J 7 0) 5 0 J 1)
theorem s16_f {c : qC} {J : Nat} {f : Int32} {size : Int32} {dg : Int64} {ka : Int32} {kb : Int32} {kc : Int32} {day : Int32} : (s16 c J f size dg ka kb kc day).1 5 0 = upd (c.1 5 0) J 1 := by
  unfold s16
  rw [cq_cell]
  congr 1
theorem s16_k {c : qC} {J : Nat} {f : Int32} {size : Int32} {dg : Int64} {ka : Int32} {kb : Int32} {kc : Int32} {day : Int32} {a : Nat} (h1 : a ≠ 16) (h2 : a ≠ 5) : (s16 c J f size dg ka kb kc day).1 a = c.1 a := by
  unfold s16
  simp [cq_i, cq_l, h1, h2]
theorem s16_n {c : qC} {J : Nat} {f : Int32} {size : Int32} {dg : Int64} {ka : Int32} {kb : Int32} {kc : Int32} {day : Int32} {a b : Nat} (h1 : ¬ (a = 16 ∧ b = J)) (h2 : ¬ (a = 5 ∧ b = 0)) : (s16 c J f size dg ka kb kc day).1 a b = c.1 a b := by
  unfold s16
  rw [cq_nj h2]
  funext x
  by_cases ha : a = 16
  · subst ha
    have hb : b ≠ J := fun q => h1 ⟨rfl, q⟩
    simp [cq_i, cq_l, hb]
  · simp [cq_i, cq_l, ha]
theorem s16_l {c : qC} {J : Nat} {f : Int32} {size : Int32} {dg : Int64} {ka : Int32} {kb : Int32} {kc : Int32} {day : Int32} {a b : Nat} (h1 : ¬ (a = 16 ∧ b = J)) : (s16 c J f size dg ka kb kc day).2 a b = c.2 a b := by
  unfold s16
  funext x
  by_cases ha : a = 16
  · subst ha
    have hb : b ≠ J := fun q => h1 ⟨rfl, q⟩
    simp [cq_i, cq_l, hb]
  · simp [cq_i, cq_l, ha]
theorem s16_0 {c : qC} {J : Nat} {f : Int32} {size : Int32} {dg : Int64} {ka : Int32} {kb : Int32} {kc : Int32} {day : Int32} : (s16 c J f size dg ka kb kc day).1 16 J 0 = f := by
  unfold s16
  simp [cq_i, cq_l, upd, vp_updL]
theorem s16_1 {c : qC} {J : Nat} {f : Int32} {size : Int32} {dg : Int64} {ka : Int32} {kb : Int32} {kc : Int32} {day : Int32} : (s16 c J f size dg ka kb kc day).1 16 J 1 = size := by
  unfold s16
  simp [cq_i, cq_l, upd, vp_updL]
theorem s16_2 {c : qC} {J : Nat} {f : Int32} {size : Int32} {dg : Int64} {ka : Int32} {kb : Int32} {kc : Int32} {day : Int32} : (s16 c J f size dg ka kb kc day).2 16 J 2 = dg := by
  unfold s16
  simp [cq_i, cq_l, upd, vp_updL]
theorem s16_3 {c : qC} {J : Nat} {f : Int32} {size : Int32} {dg : Int64} {ka : Int32} {kb : Int32} {kc : Int32} {day : Int32} : (s16 c J f size dg ka kb kc day).1 16 J 3 = ka := by
  unfold s16
  simp [cq_i, cq_l, upd, vp_updL]
theorem s16_4 {c : qC} {J : Nat} {f : Int32} {size : Int32} {dg : Int64} {ka : Int32} {kb : Int32} {kc : Int32} {day : Int32} : (s16 c J f size dg ka kb kc day).1 16 J 4 = kb := by
  unfold s16
  simp [cq_i, cq_l, upd, vp_updL]
theorem s16_5 {c : qC} {J : Nat} {f : Int32} {size : Int32} {dg : Int64} {ka : Int32} {kb : Int32} {kc : Int32} {day : Int32} : (s16 c J f size dg ka kb kc day).1 16 J 5 = kc := by
  unfold s16
  simp [cq_i, cq_l, upd, vp_updL]
theorem s16_6 {c : qC} {J : Nat} {f : Int32} {size : Int32} {dg : Int64} {ka : Int32} {kb : Int32} {kc : Int32} {day : Int32} : (s16 c J f size dg ka kb kc day).1 16 J 6 = day := by
  unfold s16
  simp [cq_i, cq_l, upd, vp_updL]
theorem s16_7 {c : qC} {J : Nat} {f : Int32} {size : Int32} {dg : Int64} {ka : Int32} {kb : Int32} {kc : Int32} {day : Int32} : (s16 c J f size dg ka kb kc day).1 16 J 7 = 0 := by
  unfold s16
  simp [cq_i, cq_l, upd, vp_updL]
theorem mk16 {D : va_G} {A : Nat → Prop} {cA : Nat → ClassId} {ad : Nat → Nat → Nat} {H : Heap} {c : qC} {m : qM} {J q : Nat} {f : Int32} {size : Int32} {dg : Int64} {ka : Int32} {kb : Int32} {kc : Int32} {day : Int32}
    (hW : wd D A (pu (pu (PO cA ad c m) 23 0 (.inr (2, [.ref (ad 14 (Int32.toNatClampNeg f)), .int size, .long dg, .int ka, .int kb, .int kc, .int day, .int 0]))) 5 0 (.inl (cA 6, vp_q 64 (va_up (rfs (c.1 5 0) (ad 16)) J (some q))))) (au ad 23 0 q) H) : wd D A (PO cA (au ad 16 J q) (s16 c J f size dg ka kb kc day) m) (au ad 16 J q) H ∧ adk ad (au ad 16 J q) := by
  have hk : adk ad (au ad 16 J q) := fun k j x y z => au_n (fun q => y q.1)
  refine ⟨wd_name hW (gmk 16 J) (fun a b e h => ?_) (fun a b a' b' e e' h h' hg => gmk_i (PO_n23 h) (PO_n23 h') hg), hk⟩
  have ha23 := PO_n23 h
  by_cases h1 : a = 16 ∧ b = J
  · obtain ⟨rfl, rfl⟩ := h1
    rw [gmk_s, au_s]
    refine ⟨?_, au_s.symm⟩
    show pu (pu _ 23 0 _) 5 0 _ 23 0 = _
    rw [pu_n (by decide), pu_s, ← h, PO_c (by decide) (by decide)]
    rw [PX_16, if_neg (by rw [s16_f]; simp [upd]), s16_0, s16_1, s16_2, s16_3, s16_4, s16_5, s16_6, s16_7]
    rw [au_n (fun q2 => absurd q2.1 (by decide))]
  · rw [gmk_n h1, au_n h1]
    refine ⟨?_, (au_n (fun q => ha23 q.1)).symm⟩
    show pu (pu _ 23 0 _) 5 0 _ a b = some e
    by_cases h2 : a = 5 ∧ b = 0
    · obtain ⟨rfl, rfl⟩ := h2
      rw [pu_s, ← h, PO_c (by decide) (by decide)]
      rw [PX_5, if_pos rfl, s16_f]
      congr 3
      unfold vp_q
      congr 5
      funext i
      unfold rfs va_up upd au
      by_cases hi : i = J
      · subst hi; simp
      · simp [hi]
    · rw [pu_n h2, pu_n (fun q => ha23 q.1), ← h]
      unfold PO PW
      by_cases h20 : a = 20
      · rw [if_pos h20, if_pos h20, wm_c hk]
      · rw [if_neg h20, if_neg h20]
        by_cases h21 : a = 21
        · rw [if_pos h21, if_pos h21]
        · rw [if_neg h21, if_neg h21]
          unfold PC
          rw [s16_n h1 h2, s16_l h1]
          refine (PX_c hk ?_ ?_ ?_ ?_ ?_ ?_).symm
          · intro h14; rw [s16_k (by decide) (by decide)]
          · intro h16; subst h16; rw [s16_f]; exact ⟨by simp [upd, show b ≠ J from fun q => h1 ⟨rfl, q⟩], fun _ => au_n (fun q2 => absurd q2.1 (by decide))⟩
          · intro h17; rw [s16_k (by decide) (by decide)]
          · intro h3; congr 1
          · intro h3; subst h3; exact absurd h (by rw [PO_c (by decide) (by decide)]; rw [PX_5, if_neg (fun q => h2 ⟨rfl, q⟩)]; exact fun q => by cases q)
          · intro h3; congr 1

def s17 (c : qC) (J : Nat) (o : Int32) (mem : Int64) : qC := (cq_i (cq_i (cq_i (cq_l (cq_i c 17 J 0 o) 17 J 1 mem) 17 J 2 0) 17 J 3 1) 6 0 J 1)
theorem s17_f {c : qC} {J : Nat} {o : Int32} {mem : Int64} : (s17 c J o mem).1 6 0 = upd (c.1 6 0) J 1 := by
  unfold s17
  rw [cq_cell]
  congr 1
theorem s17_k {c : qC} {J : Nat} {o : Int32} {mem : Int64} {a : Nat} (h1 : a ≠ 17) (h2 : a ≠ 6) : (s17 c J o mem).1 a = c.1 a := by
  unfold s17
  simp [cq_i, cq_l, h1, h2]
theorem s17_n {c : qC} {J : Nat} {o : Int32} {mem : Int64} {a b : Nat} (h1 : ¬ (a = 17 ∧ b = J)) (h2 : ¬ (a = 6 ∧ b = 0)) : (s17 c J o mem).1 a b = c.1 a b := by
  unfold s17
  rw [cq_nj h2]
  funext x
  by_cases ha : a = 17
  · subst ha
    have hb : b ≠ J := fun q => h1 ⟨rfl, q⟩
    simp [cq_i, cq_l, hb]
  · simp [cq_i, cq_l, ha]
theorem s17_l {c : qC} {J : Nat} {o : Int32} {mem : Int64} {a b : Nat} (h1 : ¬ (a = 17 ∧ b = J)) : (s17 c J o mem).2 a b = c.2 a b := by
  unfold s17
  funext x
  by_cases ha : a = 17
  · subst ha
    have hb : b ≠ J := fun q => h1 ⟨rfl, q⟩
    simp [cq_i, cq_l, hb]
  · simp [cq_i, cq_l, ha]
theorem s17_0 {c : qC} {J : Nat} {o : Int32} {mem : Int64} : (s17 c J o mem).1 17 J 0 = o := by
  unfold s17
  simp [cq_i, cq_l, upd, vp_updL]
theorem s17_1 {c : qC} {J : Nat} {o : Int32} {mem : Int64} : (s17 c J o mem).2 17 J 1 = mem := by
  unfold s17
  simp [cq_i, cq_l, upd, vp_updL]
theorem s17_2 {c : qC} {J : Nat} {o : Int32} {mem : Int64} : (s17 c J o mem).1 17 J 2 = 0 := by
  unfold s17
  simp [cq_i, cq_l, upd, vp_updL]
theorem s17_3 {c : qC} {J : Nat} {o : Int32} {mem : Int64} : (s17 c J o mem).1 17 J 3 = 1 := by
  unfold s17
  simp [cq_i, cq_l, upd, vp_updL]
theorem mk17 {D : va_G} {A : Nat → Prop} {cA : Nat → ClassId} {ad : Nat → Nat → Nat} {H : Heap} {c : qC} {m : qM} {J q : Nat} {o : Int32} {mem : Int64}
    (hW : wd D A (pu (pu (PO cA ad c m) 23 0 (.inr (1, [.int o, .long mem, .int 0, .int 1]))) 6 0 (.inl (cA 7, vp_q 16 (va_up (rfs (c.1 6 0) (ad 17)) J (some q))))) (au ad 23 0 q) H) : wd D A (PO cA (au ad 17 J q) (s17 c J o mem) m) (au ad 17 J q) H ∧ adk ad (au ad 17 J q) := by
  have hk : adk ad (au ad 17 J q) := fun k j x y z => au_n (fun q => z q.1)
  refine ⟨wd_name hW (gmk 17 J) (fun a b e h => ?_) (fun a b a' b' e e' h h' hg => gmk_i (PO_n23 h) (PO_n23 h') hg), hk⟩
  have ha23 := PO_n23 h
  by_cases h1 : a = 17 ∧ b = J
  · obtain ⟨rfl, rfl⟩ := h1
    rw [gmk_s, au_s]
    refine ⟨?_, au_s.symm⟩
    show pu (pu _ 23 0 _) 6 0 _ 23 0 = _
    rw [pu_n (by decide), pu_s, ← h, PO_c (by decide) (by decide)]
    rw [PX_17, if_neg (by rw [s17_f]; simp [upd]), s17_0, s17_1, s17_2, s17_3]
  · rw [gmk_n h1, au_n h1]
    refine ⟨?_, (au_n (fun q => ha23 q.1)).symm⟩
    show pu (pu _ 23 0 _) 6 0 _ a b = some e
    by_cases h2 : a = 6 ∧ b = 0
    · obtain ⟨rfl, rfl⟩ := h2
      rw [pu_s, ← h, PO_c (by decide) (by decide)]
      rw [PX_6, if_pos rfl, s17_f]
      congr 3
      unfold vp_q
      congr 5
      funext i
      unfold rfs va_up upd au
      by_cases hi : i = J
      · subst hi; simp
      · simp [hi]
    · rw [pu_n h2, pu_n (fun q => ha23 q.1), ← h]
      unfold PO PW
      by_cases h20 : a = 20
      · rw [if_pos h20, if_pos h20, wm_c hk]
      · rw [if_neg h20, if_neg h20]
        by_cases h21 : a = 21
        · rw [if_pos h21, if_pos h21]
        · rw [if_neg h21, if_neg h21]
          unfold PC
          rw [s17_n h1 h2, s17_l h1]
          refine (PX_c hk ?_ ?_ ?_ ?_ ?_ ?_).symm
          · intro h14; rw [s17_k (by decide) (by decide)]
          · intro h16; rw [s17_k (by decide) (by decide)]; exact ⟨rfl, fun _ => au_n (fun q2 => absurd q2.1 (by decide))⟩
          · intro h17; subst h17; rw [s17_f]; simp [upd, show b ≠ J from fun q => h1 ⟨rfl, q⟩]
          · intro h3; congr 1
          · intro h3; congr 1
          · intro h3; subst h3; exact absurd h (by rw [PO_c (by decide) (by decide)]; rw [PX_6, if_neg (fun q => h2 ⟨rfl, q⟩)]; exact fun q => by cases q)

