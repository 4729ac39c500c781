/-! the state of the office, and its world: c.1 k j i is number i of the object j of kind k, c.2 k j i a long -/
abbrev qC : Type := (Nat → Nat → Nat → Int32) × (Nat → Nat → Nat → Int64)
def cq_i (c : qC) (k j i : Nat) (v : Int32) : qC := (fun a => if a = k then (fun b => if b = j then upd (c.1 k j) i v else c.1 k b) else c.1 a, c.2)
def cq_l (c : qC) (k j i : Nat) (v : Int64) : qC := (c.1, fun a => if a = k then (fun b => if b = j then vp_updL (c.2 k j) i v else c.2 k b) else c.2 a)
theorem cq_same (c : qC) (k j i : Nat) (v : Int32) : (cq_i c k j i v).1 k j i = v := by simp [cq_i, upd]
theorem cq_same_l (c : qC) (k j i : Nat) (v : Int64) : (cq_l c k j i v).2 k j i = v := by simp [cq_l, vp_updL]
theorem cq_cell (c : qC) (k j i : Nat) (v : Int32) : (cq_i c k j i v).1 k j = upd (c.1 k j) i v := by simp [cq_i]
theorem cq_cell_l (c : qC) (k j i : Nat) (v : Int64) : (cq_l c k j i v).2 k j = vp_updL (c.2 k j) i v := by simp [cq_l]
theorem cq_nk {c : qC} {k j i a : Nat} {v : Int32} (h : a ≠ k) : (cq_i c k j i v).1 a = c.1 a := by simp [cq_i, h]
theorem cq_nj {c : qC} {k j i a b : Nat} {v : Int32} (h : ¬ (a = k ∧ b = j)) : (cq_i c k j i v).1 a b = c.1 a b := by
  by_cases h1 : a = k
  · subst h1
    have h2 : b ≠ j := fun q => h ⟨rfl, q⟩
    simp [cq_i, h2]
  · rw [cq_nk h1]
theorem cq_ni {c : qC} {k j i a b x : Nat} {v : Int32} (h : x ≠ i) : (cq_i c k j i v).1 a b x = c.1 a b x := by
  by_cases h1 : a = k ∧ b = j
  · obtain ⟨rfl, rfl⟩ := h1
    rw [cq_cell]; simp [upd, h]
  · rw [cq_nj h1]
theorem cq_ne {c : qC} {k j i a b x : Nat} {v : Int32} (h : a ≠ k) : (cq_i c k j i v).1 a b x = c.1 a b x := by rw [cq_nk h]
theorem cq_nel {c : qC} {k j i a b x : Nat} {v : Int64} : (cq_l c k j i v).1 a b x = c.1 a b x := rfl
theorem cl_nei {c : qC} {k j i a b x : Nat} {v : Int32} : (cq_i c k j i v).2 a b x = c.2 a b x := rfl
theorem cl_nj {c : qC} {k j i a b : Nat} {v : Int64} (h : ¬ (a = k ∧ b = j)) : (cq_l c k j i v).2 a b = c.2 a b := by
  by_cases h1 : a = k
  · subst h1
    have h2 : b ≠ j := fun q => h ⟨rfl, q⟩
    simp [cq_l, h2]
  · simp [cq_l, h1]
theorem cl_ne {c : qC} {k j i a b x : Nat} {v : Int64} (h : a ≠ k) : (cq_l c k j i v).2 a b x = c.2 a b x := by rw [cl_nj (fun q => h q.1)]
theorem cl_ni {c : qC} {k j i a b x : Nat} {v : Int64} (h : x ≠ i) : (cq_l c k j i v).2 a b x = c.2 a b x := by
  by_cases h1 : a = k ∧ b = j
  · obtain ⟨rfl, rfl⟩ := h1
    rw [cq_cell_l]; simp [vp_updL, h]
  · rw [cl_nj h1]
/-- arrays of references: a place holds the object of its number, where it is there -/
def rfs (g : Nat → Int32) (a : Nat → Nat) : Nat → Option Nat := fun i => if g i = 0 then none else some (a i)
def vp_q (n : Nat) (f : Nat → Option Nat) : vp_A := (n, .inr (.inr (.inr (.inr f))))
def PX (ad : Nat → Nat → Nat) (cA : Nat → ClassId) (I : Nat → Int32) (L : Nat → Int64) (g3 g5 g6 : Nat → Int32) (k j : Nat) : Option va_E := match k with
  | 0 => if j = 0 then some (.inr (6, [.ref (ad 1 0), .ref (ad 2 0), .ref (ad 3 0), .ref (ad 4 0), .ref (ad 5 0), .ref (ad 6 0), .ref (ad 7 0), .int (I 7), .int (I 8), .int (I 9), .int (I 10)])) else none
  | 1 => if j = 0 then some (.inl (cA 0, 8, .inl I)) else none
  | 2 => if j = 0 then some (.inl (cA 3, vp_q 8 (fun i => some (ad 10 i)))) else none
  | 3 => if j = 0 then some (.inl (cA 4, vp_q 16 (rfs I (ad 14)))) else none
  | 4 => if j = 0 then some (.inl (cA 5, vp_q 8 (fun i => some (ad 15 i)))) else none
  | 5 => if j = 0 then some (.inl (cA 6, vp_q 64 (rfs I (ad 16)))) else none
  | 6 => if j = 0 then some (.inl (cA 7, vp_q 16 (rfs I (ad 17)))) else none
  | 7 => if j = 0 then some (.inr (0, [.ref (ad 8 0), .ref (ad 9 0), .int (I 2)])) else none
  | 8 => if j = 0 then some (.inl (cA 0, 1600, .inl I)) else none
  | 9 => if j = 0 then some (.inl (cA 1, 400, .inr (.inl L))) else none
  | 10 => if j < 8 then some (.inr (5, [.ref (ad 11 j), .ref (ad 12 j), .ref (ad 13 j), .int (I 3), .int (I 4)])) else none
  | 11 => if j < 8 then some (.inl (cA 0, 6, .inl I)) else none
  | 12 => if j < 8 then some (.inl (cA 0, 6, .inl I)) else none
  | 13 => if j < 8 then some (.inl (cA 2, 6, .inl I)) else none
  | 14 => if g3 j = 0 then none else some (.inr (3, [.int (I 0), .int (I 1), .int (I 2), .int (I 3)]))
  | 15 => if j < 8 then some (.inr (4, [.int (I 0), .int (I 1), .int (I 2), .int (I 3), .int (I 4), .int (I 5)])) else none
  | 16 => if g5 j = 0 then none else some (.inr (2, [.ref (ad 14 (Int32.toNatClampNeg (I 0))), .int (I 1), .long (L 2), .int (I 3), .int (I 4), .int (I 5), .int (I 6), .int (I 7)]))
  | 17 => if g6 j = 0 then none else some (.inr (1, [.int (I 0), .long (L 1), .int (I 2), .int (I 3)]))
  | 22 => if j = 0 then some (.inl (cA 1, 1, .inr (.inl L))) else none
  | _ => none
def PC (cA : Nat → ClassId) (ad : Nat → Nat → Nat) (c : qC) (k j : Nat) : Option va_E := PX ad cA (c.1 k j) (c.2 k j) (c.1 3 0) (c.1 5 0) (c.1 6 0) k j
/-- the world of office and reference together -/
def PO (cA : Nat → ClassId) (ad : Nat → Nat → Nat) (c : qC) (m : qM) : Nat → Nat → Option va_E := PW (PC cA ad c) cA ad m
theorem PO_c {cA : Nat → ClassId} {ad : Nat → Nat → Nat} {c : qC} {m : qM} {k j : Nat} (h1 : k ≠ 20) (h2 : k ≠ 21) : PO cA ad c m k j = PX ad cA (c.1 k j) (c.2 k j) (c.1 3 0) (c.1 5 0) (c.1 6 0) k j := by
  unfold PO PW
  rw [if_neg h1, if_neg h2]
  rfl
/-- a number of a cell is written, that says nothing of which cells are there -/
theorem PO_i2 {cA : Nat → ClassId} {ad : Nat → Nat → Nat} {c : qC} {m : qM} {k j i : Nat} {v : Int32} (h : k ≠ 3 ∧ k ≠ 5 ∧ k ≠ 6) : ∀ a b, ¬ (a = k ∧ b = j) → PO cA ad (cq_i c k j i v) m a b = PO cA ad c m a b := by
  intro a b hn
  unfold PO PW
  by_cases h1 : a = 20
  · rw [if_pos h1, if_pos h1]
  · rw [if_neg h1, if_neg h1]
    by_cases h2 : a = 21
    · rw [if_pos h2, if_pos h2]
    · rw [if_neg h2, if_neg h2]
      unfold PC
      rw [cq_nj hn, cq_nk (Ne.symm h.1), cq_nk (Ne.symm h.2.1), cq_nk (Ne.symm h.2.2)]
      rfl
theorem PO_l2 {cA : Nat → ClassId} {ad : Nat → Nat → Nat} {c : qC} {m : qM} {k j i : Nat} {v : Int64} : ∀ a b, ¬ (a = k ∧ b = j) → PO cA ad (cq_l c k j i v) m a b = PO cA ad c m a b := by
  intro a b hn
  unfold PO PW
  by_cases h1 : a = 20
  · rw [if_pos h1, if_pos h1]
  · rw [if_neg h1, if_neg h1]
    by_cases h2 : a = 21
    · rw [if_pos h2, if_pos h2]
    · rw [if_neg h2, if_neg h2]
      unfold PC
      rw [cl_nj hn]
      rfl
