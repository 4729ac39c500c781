/-! laid by wip/whole/tools/crows.py -/
theorem PO_k0 {cA : Nat → ClassId} {ad : Nat → Nat → Nat} {c : qC} {m : qM}  : PO cA ad c m 0 0 = some (.inr (6, [.ref (ad 1 0), .ref (ad 2 0), .ref (ad 3 0), .ref (ad 4 0), .ref (ad 5 0), .ref (ad 6 0), .ref (ad 7 0), .int (c.1 0 0 7), .int (c.1 0 0 8), .int (c.1 0 0 9), .int (c.1 0 0 10)])) := (PO_c (by decide) (by decide)).trans (rfl)
theorem PO_w0_7 {cA : Nat → ClassId} {ad : Nat → Nat → Nat} {c : qC} {m : qM}  {v : Int32} : PO cA ad (cq_i c 0 0 7 v) m 0 0 = some (.inr (6, [.ref (ad 1 0), .ref (ad 2 0), .ref (ad 3 0), .ref (ad 4 0), .ref (ad 5 0), .ref (ad 6 0), .ref (ad 7 0), .int v, .int (c.1 0 0 8), .int (c.1 0 0 9), .int (c.1 0 0 10)])) := by
  refine (PO_c (by decide) (by decide)).trans ?_
  rw [cq_cell, cq_nk (by decide), cq_nk (by decide), cq_nk (by decide)]
  exact rfl
theorem PO_w0_8 {cA : Nat → ClassId} {ad : Nat → Nat → Nat} {c : qC} {m : qM}  {v : Int32} : PO cA ad (cq_i c 0 0 8 v) m 0 0 = some (.inr (6, [.ref (ad 1 0), .ref (ad 2 0), .ref (ad 3 0), .ref (ad 4 0), .ref (ad 5 0), .ref (ad 6 0), .ref (ad 7 0), .int (c.1 0 0 7), .int v, .int (c.1 0 0 9), .int (c.1 0 0 10)])) := by
  refine (PO_c (by decide) (by decide)).trans ?_
  rw [cq_cell, cq_nk (by decide), cq_nk (by decide), cq_nk (by decide)]
  exact rfl
theorem PO_w0_9 {cA : Nat → ClassId} {ad : Nat → Nat → Nat} {c : qC} {m : qM}  {v : Int32} : PO cA ad (cq_i c 0 0 9 v) m 0 0 = some (.inr (6, [.ref (ad 1 0), .ref (ad 2 0), .ref (ad 3 0), .ref (ad 4 0), .ref (ad 5 0), .ref (ad 6 0), .ref (ad 7 0), .int (c.1 0 0 7), .int (c.1 0 0 8), .int v, .int (c.1 0 0 10)])) := by
  refine (PO_c (by decide) (by decide)).trans ?_
  rw [cq_cell, cq_nk (by decide), cq_nk (by decide), cq_nk (by decide)]
  exact rfl
theorem PO_w0_10 {cA : Nat → ClassId} {ad : Nat → Nat → Nat} {c : qC} {m : qM}  {v : Int32} : PO cA ad (cq_i c 0 0 10 v) m 0 0 = some (.inr (6, [.ref (ad 1 0), .ref (ad 2 0), .ref (ad 3 0), .ref (ad 4 0), .ref (ad 5 0), .ref (ad 6 0), .ref (ad 7 0), .int (c.1 0 0 7), .int (c.1 0 0 8), .int (c.1 0 0 9), .int v])) := by
  refine (PO_c (by decide) (by decide)).trans ?_
  rw [cq_cell, cq_nk (by decide), cq_nk (by decide), cq_nk (by decide)]
  exact rfl
theorem PO_k7 {cA : Nat → ClassId} {ad : Nat → Nat → Nat} {c : qC} {m : qM}  : PO cA ad c m 7 0 = some (.inr (0, [.ref (ad 8 0), .ref (ad 9 0), .int (c.1 7 0 2)])) := (PO_c (by decide) (by decide)).trans (rfl)
theorem PO_w7_2 {cA : Nat → ClassId} {ad : Nat → Nat → Nat} {c : qC} {m : qM}  {v : Int32} : PO cA ad (cq_i c 7 0 2 v) m 7 0 = some (.inr (0, [.ref (ad 8 0), .ref (ad 9 0), .int v])) := by
  refine (PO_c (by decide) (by decide)).trans ?_
  rw [cq_cell, cq_nk (by decide), cq_nk (by decide), cq_nk (by decide)]
  exact rfl
theorem PO_k10 {cA : Nat → ClassId} {ad : Nat → Nat → Nat} {c : qC} {m : qM} {j : Nat} (hj : j < 8) : PO cA ad c m 10 j = some (.inr (5, [.ref (ad 11 j), .ref (ad 12 j), .ref (ad 13 j), .int (c.1 10 j 3), .int (c.1 10 j 4)])) := (PO_c (by decide) (by decide)).trans (if_pos hj)
theorem PO_w10_3 {cA : Nat → ClassId} {ad : Nat → Nat → Nat} {c : qC} {m : qM} {j : Nat} (hj : j < 8) {v : Int32} : PO cA ad (cq_i c 10 j 3 v) m 10 j = some (.inr (5, [.ref (ad 11 j), .ref (ad 12 j), .ref (ad 13 j), .int v, .int (c.1 10 j 4)])) := by
  refine (PO_c (by decide) (by decide)).trans ?_
  rw [cq_cell, cq_nk (by decide), cq_nk (by decide), cq_nk (by decide)]
  exact if_pos hj
theorem PO_w10_4 {cA : Nat → ClassId} {ad : Nat → Nat → Nat} {c : qC} {m : qM} {j : Nat} (hj : j < 8) {v : Int32} : PO cA ad (cq_i c 10 j 4 v) m 10 j = some (.inr (5, [.ref (ad 11 j), .ref (ad 12 j), .ref (ad 13 j), .int (c.1 10 j 3), .int v])) := by
  refine (PO_c (by decide) (by decide)).trans ?_
  rw [cq_cell, cq_nk (by decide), cq_nk (by decide), cq_nk (by decide)]
  exact if_pos hj
theorem PO_k14 {cA : Nat → ClassId} {ad : Nat → Nat → Nat} {c : qC} {m : qM} {j : Nat} (hj : ¬ c.1 3 0 j = 0) : PO cA ad c m 14 j = some (.inr (3, [.int (c.1 14 j 0), .int (c.1 14 j 1), .int (c.1 14 j 2), .int (c.1 14 j 3)])) := (PO_c (by decide) (by decide)).trans (if_neg hj)
theorem PO_w14_0 {cA : Nat → ClassId} {ad : Nat → Nat → Nat} {c : qC} {m : qM} {j : Nat} (hj : ¬ c.1 3 0 j = 0) {v : Int32} : PO cA ad (cq_i c 14 j 0 v) m 14 j = some (.inr (3, [.int v, .int (c.1 14 j 1), .int (c.1 14 j 2), .int (c.1 14 j 3)])) := by
  refine (PO_c (by decide) (by decide)).trans ?_
  rw [cq_cell, cq_nk (by decide), cq_nk (by decide), cq_nk (by decide)]
  exact if_neg hj
theorem PO_w14_1 {cA : Nat → ClassId} {ad : Nat → Nat → Nat} {c : qC} {m : qM} {j : Nat} (hj : ¬ c.1 3 0 j = 0) {v : Int32} : PO cA ad (cq_i c 14 j 1 v) m 14 j = some (.inr (3, [.int (c.1 14 j 0), .int v, .int (c.1 14 j 2), .int (c.1 14 j 3)])) := by
  refine (PO_c (by decide) (by decide)).trans ?_
  rw [cq_cell, cq_nk (by decide), cq_nk (by decide), cq_nk (by decide)]
  exact if_neg hj
theorem PO_w14_2 {cA : Nat → ClassId} {ad : Nat → Nat → Nat} {c : qC} {m : qM} {j : Nat} (hj : ¬ c.1 3 0 j = 0) {v : Int32} : PO cA ad (cq_i c 14 j 2 v) m 14 j = some (.inr (3, [.int (c.1 14 j 0), .int (c.1 14 j 1), .int v, .int (c.1 14 j 3)])) := by
  refine (PO_c (by decide) (by decide)).trans ?_
  rw [cq_cell, cq_nk (by decide), cq_nk (by decide), cq_nk (by decide)]
  exact if_neg hj
theorem PO_w14_3 {cA : Nat → ClassId} {ad : Nat → Nat → Nat} {c : qC} {m : qM} {j : Nat} (hj : ¬ c.1 3 0 j = 0) {v : Int32} : PO cA ad (cq_i c 14 j 3 v) m 14 j = some (.inr (3, [.int (c.1 14 j 0), .int (c.1 14 j 1), .int (c.1 14 j 2), .int v])) := by
  refine (PO_c (by decide) (by decide)).trans ?_
  rw [cq_cell, cq_nk (by decide), cq_nk (by decide), cq_nk (by decide)]
  exact if_neg hj
theorem PO_k15 {cA : Nat → ClassId} {ad : Nat → Nat → Nat} {c : qC} {m : qM} {j : Nat} (hj : j < 8) : PO cA ad c m 15 j = some (.inr (4, [.int (c.1 15 j 0), .int (c.1 15 j 1), .int (c.1 15 j 2), .int (c.1 15 j 3), .int (c.1 15 j 4), .int (c.1 15 j 5)])) := (PO_c (by decide) (by decide)).trans (if_pos hj)
theorem PO_w15_0 {cA : Nat → ClassId} {ad : Nat → Nat → Nat} {c : qC} {m : qM} {j : Nat} (hj : j < 8) {v : Int32} : PO cA ad (cq_i c 15 j 0 v) m 15 j = some (.inr (4, [.int v, .int (c.1 15 j 1), .int (c.1 15 j 2), .int (c.1 15 j 3), .int (c.1 15 j 4), .int (c.1 15 j 5)])) := by
  refine (PO_c (by decide) (by decide)).trans ?_
  rw [cq_cell, cq_nk (by decide), cq_nk (by decide), cq_nk (by decide)]
  exact if_pos hj
theorem PO_w15_1 {cA : Nat → ClassId} {ad : Nat → Nat → Nat} {c : qC} {m : qM} {j : Nat} (hj : j < 8) {v : Int32} : PO cA ad (cq_i c 15 j 1 v) m 15 j = some (.inr (4, [.int (c.1 15 j 0), .int v, .int (c.1 15 j 2), .int (c.1 15 j 3), .int (c.1 15 j 4), .int (c.1 15 j 5)])) := by
  refine (PO_c (by decide) (by decide)).trans ?_
  rw [cq_cell, cq_nk (by decide), cq_nk (by decide), cq_nk (by decide)]
  exact if_pos hj
theorem PO_w15_2 {cA : Nat → ClassId} {ad : Nat → Nat → Nat} {c : qC} {m : qM} {j : Nat} (hj : j < 8) {v : Int32} : PO cA ad (cq_i c 15 j 2 v) m 15 j = some (.inr (4, [.int (c.1 15 j 0), .int (c.1 15 j 1), .int v, .int (c.1 15 j 3), .int (c.1 15 j 4), .int (c.1 15 j 5)])) := by
  refine (PO_c (by decide) (by decide)).trans ?_
  rw [cq_cell, cq_nk (by decide), cq_nk (by decide), cq_nk (by decide)]
  exact if_pos hj
theorem PO_w15_3 {cA : Nat → ClassId} {ad : Nat → Nat → Nat} {c : qC} {m : qM} {j : Nat} (hj : j < 8) {v : Int32} : PO cA ad (cq_i c 15 j 3 v) m 15 j = some (.inr (4, [.int (c.1 15 j 0), .int (c.1 15 j 1), .int (c.1 15 j 2), .int v, .int (c.1 15 j 4), .int (c.1 15 j 5)])) := by
  refine (PO_c (by decide) (by decide)).trans ?_
  rw [cq_cell, cq_nk (by decide), cq_nk (by decide), cq_nk (by decide)]
  exact if_pos hj
theorem PO_w15_4 {cA : Nat → ClassId} {ad : Nat → Nat → Nat} {c : qC} {m : qM} {j : Nat} (hj : j < 8) {v : Int32} : PO cA ad (cq_i c 15 j 4 v) m 15 j = some (.inr (4, [.int (c.1 15 j 0), .int (c.1 15 j 1), .int (c.1 15 j 2), .int (c.1 15 j 3), .int v, .int (c.1 15 j 5)])) := by
  refine (PO_c (by decide) (by decide)).trans ?_
  rw [cq_cell, cq_nk (by decide), cq_nk (by decide), cq_nk (by decide)]
  exact if_pos hj
theorem PO_w15_5 {cA : Nat → ClassId} {ad : Nat → Nat → Nat} {c : qC} {m : qM} {j : Nat} (hj : j < 8) {v : Int32} : PO cA ad (cq_i c 15 j 5 v) m 15 j = some (.inr (4, [.int (c.1 15 j 0), .int (c.1 15 j 1), .int (c.1 15 j 2), .int (c.1 15 j 3), .int (c.1 15 j 4), .int v])) := by
  refine (PO_c (by decide) (by decide)).trans ?_
  rw [cq_cell, cq_nk (by decide), cq_nk (by decide), cq_nk (by decide)]
  exact if_pos hj
theorem PO_k16 {cA : Nat → ClassId} {ad : Nat → Nat → Nat} {c : qC} {m : qM} {j : Nat} (hj : ¬ c.1 5 0 j = 0) : PO cA ad c m 16 j = some (.inr (2, [.ref (ad 14 (Int32.toNatClampNeg (c.1 16 j 0))), .int (c.1 16 j 1), .long (c.2 16 j 2), .int (c.1 16 j 3), .int (c.1 16 j 4), .int (c.1 16 j 5), .int (c.1 16 j 6), .int (c.1 16 j 7)])) := (PO_c (by decide) (by decide)).trans (if_neg hj)
theorem PO_w16_1 {cA : Nat → ClassId} {ad : Nat → Nat → Nat} {c : qC} {m : qM} {j : Nat} (hj : ¬ c.1 5 0 j = 0) {v : Int32} : PO cA ad (cq_i c 16 j 1 v) m 16 j = some (.inr (2, [.ref (ad 14 (Int32.toNatClampNeg (c.1 16 j 0))), .int v, .long (c.2 16 j 2), .int (c.1 16 j 3), .int (c.1 16 j 4), .int (c.1 16 j 5), .int (c.1 16 j 6), .int (c.1 16 j 7)])) := by
  refine (PO_c (by decide) (by decide)).trans ?_
  rw [cq_cell, cq_nk (by decide), cq_nk (by decide), cq_nk (by decide)]
  exact if_neg hj
theorem PO_w16_2 {cA : Nat → ClassId} {ad : Nat → Nat → Nat} {c : qC} {m : qM} {j : Nat} (hj : ¬ c.1 5 0 j = 0) {v : Int64} : PO cA ad (cq_l c 16 j 2 v) m 16 j = some (.inr (2, [.ref (ad 14 (Int32.toNatClampNeg (c.1 16 j 0))), .int (c.1 16 j 1), .long v, .int (c.1 16 j 3), .int (c.1 16 j 4), .int (c.1 16 j 5), .int (c.1 16 j 6), .int (c.1 16 j 7)])) := by
  refine (PO_c (by decide) (by decide)).trans ?_
  rw [cq_cell_l]
  exact if_neg hj
theorem PO_w16_3 {cA : Nat → ClassId} {ad : Nat → Nat → Nat} {c : qC} {m : qM} {j : Nat} (hj : ¬ c.1 5 0 j = 0) {v : Int32} : PO cA ad (cq_i c 16 j 3 v) m 16 j = some (.inr (2, [.ref (ad 14 (Int32.toNatClampNeg (c.1 16 j 0))), .int (c.1 16 j 1), .long (c.2 16 j 2), .int v, .int (c.1 16 j 4), .int (c.1 16 j 5), .int (c.1 16 j 6), .int (c.1 16 j 7)])) := by
  refine (PO_c (by decide) (by decide)).trans ?_
  rw [cq_cell, cq_nk (by decide), cq_nk (by decide), cq_nk (by decide)]
  exact if_neg hj
theorem PO_w16_4 {cA : Nat → ClassId} {ad : Nat → Nat → Nat} {c : qC} {m : qM} {j : Nat} (hj : ¬ c.1 5 0 j = 0) {v : Int32} : PO cA ad (cq_i c 16 j 4 v) m 16 j = some (.inr (2, [.ref (ad 14 (Int32.toNatClampNeg (c.1 16 j 0))), .int (c.1 16 j 1), .long (c.2 16 j 2), .int (c.1 16 j 3), .int v, .int (c.1 16 j 5), .int (c.1 16 j 6), .int (c.1 16 j 7)])) := by
  refine (PO_c (by decide) (by decide)).trans ?_
  rw [cq_cell, cq_nk (by decide), cq_nk (by decide), cq_nk (by decide)]
  exact if_neg hj
theorem PO_w16_5 {cA : Nat → ClassId} {ad : Nat → Nat → Nat} {c : qC} {m : qM} {j : Nat} (hj : ¬ c.1 5 0 j = 0) {v : Int32} : PO cA ad (cq_i c 16 j 5 v) m 16 j = some (.inr (2, [.ref (ad 14 (Int32.toNatClampNeg (c.1 16 j 0))), .int (c.1 16 j 1), .long (c.2 16 j 2), .int (c.1 16 j 3), .int (c.1 16 j 4), .int v, .int (c.1 16 j 6), .int (c.1 16 j 7)])) := by
  refine (PO_c (by decide) (by decide)).trans ?_
  rw [cq_cell, cq_nk (by decide), cq_nk (by decide), cq_nk (by decide)]
  exact if_neg hj
theorem PO_w16_6 {cA : Nat → ClassId} {ad : Nat → Nat → Nat} {c : qC} {m : qM} {j : Nat} (hj : ¬ c.1 5 0 j = 0) {v : Int32} : PO cA ad (cq_i c 16 j 6 v) m 16 j = some (.inr (2, [.ref (ad 14 (Int32.toNatClampNeg (c.1 16 j 0))), .int (c.1 16 j 1), .long (c.2 16 j 2), .int (c.1 16 j 3), .int (c.1 16 j 4), .int (c.1 16 j 5), .int v, .int (c.1 16 j 7)])) := by
  refine (PO_c (by decide) (by decide)).trans ?_
  rw [cq_cell, cq_nk (by decide), cq_nk (by decide), cq_nk (by decide)]
  exact if_neg hj
theorem PO_w16_7 {cA : Nat → ClassId} {ad : Nat → Nat → Nat} {c : qC} {m : qM} {j : Nat} (hj : ¬ c.1 5 0 j = 0) {v : Int32} : PO cA ad (cq_i c 16 j 7 v) m 16 j = some (.inr (2, [.ref (ad 14 (Int32.toNatClampNeg (c.1 16 j 0))), .int (c.1 16 j 1), .long (c.2 16 j 2), .int (c.1 16 j 3), .int (c.1 16 j 4), .int (c.1 16 j 5), .int (c.1 16 j 6), .int v])) := by
  refine (PO_c (by decide) (by decide)).trans ?_
  rw [cq_cell, cq_nk (by decide), cq_nk (by decide), cq_nk (by decide)]
  exact if_neg hj
theorem PO_k17 {cA : Nat → ClassId} {ad : Nat → Nat → Nat} {c : qC} {m : qM} {j : Nat} (hj : ¬ c.1 6 0 j = 0) : PO cA ad c m 17 j = some (.inr (1, [.int (c.1 17 j 0), .long (c.2 17 j 1), .int (c.1 17 j 2), .int (c.1 17 j 3)])) := (PO_c (by decide) (by decide)).trans (if_neg hj)
theorem PO_w17_0 {cA : Nat → ClassId} {ad : Nat → Nat → Nat} {c : qC} {m : qM} {j : Nat} (hj : ¬ c.1 6 0 j = 0) {v : Int32} : PO cA ad (cq_i c 17 j 0 v) m 17 j = some (.inr (1, [.int v, .long (c.2 17 j 1), .int (c.1 17 j 2), .int (c.1 17 j 3)])) := by
  refine (PO_c (by decide) (by decide)).trans ?_
  rw [cq_cell, cq_nk (by decide), cq_nk (by decide), cq_nk (by decide)]
  exact if_neg hj
theorem PO_w17_1 {cA : Nat → ClassId} {ad : Nat → Nat → Nat} {c : qC} {m : qM} {j : Nat} (hj : ¬ c.1 6 0 j = 0) {v : Int64} : PO cA ad (cq_l c 17 j 1 v) m 17 j = some (.inr (1, [.int (c.1 17 j 0), .long v, .int (c.1 17 j 2), .int (c.1 17 j 3)])) := by
  refine (PO_c (by decide) (by decide)).trans ?_
  rw [cq_cell_l]
  exact if_neg hj
theorem PO_w17_2 {cA : Nat → ClassId} {ad : Nat → Nat → Nat} {c : qC} {m : qM} {j : Nat} (hj : ¬ c.1 6 0 j = 0) {v : Int32} : PO cA ad (cq_i c 17 j 2 v) m 17 j = some (.inr (1, [.int (c.1 17 j 0), .long (c.2 17 j 1), .int v, .int (c.1 17 j 3)])) := by
  refine (PO_c (by decide) (by decide)).trans ?_
  rw [cq_cell, cq_nk (by decide), cq_nk (by decide), cq_nk (by decide)]
  exact if_neg hj
theorem PO_w17_3 {cA : Nat → ClassId} {ad : Nat → Nat → Nat} {c : qC} {m : qM} {j : Nat} (hj : ¬ c.1 6 0 j = 0) {v : Int32} : PO cA ad (cq_i c 17 j 3 v) m 17 j = some (.inr (1, [.int (c.1 17 j 0), .long (c.2 17 j 1), .int (c.1 17 j 2), .int v])) := by
  refine (PO_c (by decide) (by decide)).trans ?_
  rw [cq_cell, cq_nk (by decide), cq_nk (by decide), cq_nk (by decide)]
  exact if_neg hj
theorem PO_k1 {cA : Nat → ClassId} {ad : Nat → Nat → Nat} {c : qC} {m : qM}  : PO cA ad c m 1 0 = some (.inl (cA 0, 8, .inl (c.1 1 0))) := (PO_c (by decide) (by decide)).trans (rfl)
theorem PO_w1 {cA : Nat → ClassId} {ad : Nat → Nat → Nat} {c : qC} {m : qM}  {i : Nat} {v : Int32} : PO cA ad (cq_i c 1 0 i v) m 1 0 = some (.inl (cA 0, 8, .inl (upd (c.1 1 0) i v))) := by
  rw [PO_k1 , cq_cell]
theorem PO_k8 {cA : Nat → ClassId} {ad : Nat → Nat → Nat} {c : qC} {m : qM}  : PO cA ad c m 8 0 = some (.inl (cA 0, 1600, .inl (c.1 8 0))) := (PO_c (by decide) (by decide)).trans (rfl)
theorem PO_w8 {cA : Nat → ClassId} {ad : Nat → Nat → Nat} {c : qC} {m : qM}  {i : Nat} {v : Int32} : PO cA ad (cq_i c 8 0 i v) m 8 0 = some (.inl (cA 0, 1600, .inl (upd (c.1 8 0) i v))) := by
  rw [PO_k8 , cq_cell]
theorem PO_k9 {cA : Nat → ClassId} {ad : Nat → Nat → Nat} {c : qC} {m : qM}  : PO cA ad c m 9 0 = some (.inl (cA 1, 400, .inr (.inl (c.2 9 0)))) := (PO_c (by decide) (by decide)).trans (rfl)
theorem PO_w9 {cA : Nat → ClassId} {ad : Nat → Nat → Nat} {c : qC} {m : qM}  {i : Nat} {v : Int64} : PO cA ad (cq_l c 9 0 i v) m 9 0 = some (.inl (cA 1, 400, .inr (.inl (vp_updL (c.2 9 0) i v)))) := by
  rw [PO_k9 , cq_cell_l]
theorem PO_k11 {cA : Nat → ClassId} {ad : Nat → Nat → Nat} {c : qC} {m : qM} {j : Nat} (hj : j < 8) : PO cA ad c m 11 j = some (.inl (cA 0, 6, .inl (c.1 11 j))) := (PO_c (by decide) (by decide)).trans (if_pos hj)
theorem PO_w11 {cA : Nat → ClassId} {ad : Nat → Nat → Nat} {c : qC} {m : qM} {j : Nat} (hj : j < 8) {i : Nat} {v : Int32} : PO cA ad (cq_i c 11 j i v) m 11 j = some (.inl (cA 0, 6, .inl (upd (c.1 11 j) i v))) := by
  rw [PO_k11 hj, cq_cell]
theorem PO_k12 {cA : Nat → ClassId} {ad : Nat → Nat → Nat} {c : qC} {m : qM} {j : Nat} (hj : j < 8) : PO cA ad c m 12 j = some (.inl (cA 0, 6, .inl (c.1 12 j))) := (PO_c (by decide) (by decide)).trans (if_pos hj)
theorem PO_w12 {cA : Nat → ClassId} {ad : Nat → Nat → Nat} {c : qC} {m : qM} {j : Nat} (hj : j < 8) {i : Nat} {v : Int32} : PO cA ad (cq_i c 12 j i v) m 12 j = some (.inl (cA 0, 6, .inl (upd (c.1 12 j) i v))) := by
  rw [PO_k12 hj, cq_cell]
theorem PO_k13 {cA : Nat → ClassId} {ad : Nat → Nat → Nat} {c : qC} {m : qM} {j : Nat} (hj : j < 8) : PO cA ad c m 13 j = some (.inl (cA 2, 6, .inl (c.1 13 j))) := (PO_c (by decide) (by decide)).trans (if_pos hj)
theorem PO_w13 {cA : Nat → ClassId} {ad : Nat → Nat → Nat} {c : qC} {m : qM} {j : Nat} (hj : j < 8) {i : Nat} {v : Int32} : PO cA ad (cq_i c 13 j i v) m 13 j = some (.inl (cA 2, 6, .inl (upd (c.1 13 j) i v))) := by
  rw [PO_k13 hj, cq_cell]
theorem PO_k22 {cA : Nat → ClassId} {ad : Nat → Nat → Nat} {c : qC} {m : qM}  : PO cA ad c m 22 0 = some (.inl (cA 1, 1, .inr (.inl (c.2 22 0)))) := (PO_c (by decide) (by decide)).trans (rfl)
theorem PO_w22 {cA : Nat → ClassId} {ad : Nat → Nat → Nat} {c : qC} {m : qM}  {i : Nat} {v : Int64} : PO cA ad (cq_l c 22 0 i v) m 22 0 = some (.inl (cA 1, 1, .inr (.inl (vp_updL (c.2 22 0) i v)))) := by
  rw [PO_k22 , cq_cell_l]
theorem PO_k2 {cA : Nat → ClassId} {ad : Nat → Nat → Nat} {c : qC} {m : qM} : PO cA ad c m 2 0 = some (.inl (cA 3, vp_q 8 (fun i => some (ad 10 i)))) := (PO_c (by decide) (by decide)).trans rfl
theorem PO_k3 {cA : Nat → ClassId} {ad : Nat → Nat → Nat} {c : qC} {m : qM} : PO cA ad c m 3 0 = some (.inl (cA 4, vp_q 16 (rfs (c.1 3 0) (ad 14)))) := (PO_c (by decide) (by decide)).trans rfl
theorem PO_k4 {cA : Nat → ClassId} {ad : Nat → Nat → Nat} {c : qC} {m : qM} : PO cA ad c m 4 0 = some (.inl (cA 5, vp_q 8 (fun i => some (ad 15 i)))) := (PO_c (by decide) (by decide)).trans rfl
theorem PO_k5 {cA : Nat → ClassId} {ad : Nat → Nat → Nat} {c : qC} {m : qM} : PO cA ad c m 5 0 = some (.inl (cA 6, vp_q 64 (rfs (c.1 5 0) (ad 16)))) := (PO_c (by decide) (by decide)).trans rfl
theorem PO_k6 {cA : Nat → ClassId} {ad : Nat → Nat → Nat} {c : qC} {m : qM} : PO cA ad c m 6 0 = some (.inl (cA 7, vp_q 16 (rfs (c.1 6 0) (ad 17)))) := (PO_c (by decide) (by decide)).trans rfl

def bmo : Nat → Int32 := fun j => match j with
  | 0 => 0 | 1 => 31 | 2 => 59 | 3 => 90 | 4 => 120 | 5 => 151 | 6 => 181 | 7 => 212 | 8 => 243 | 9 => 273 | 10 => 304 | _ => 334
/-- the table of days before each month, which nobody writes -/
def KD (A : Nat → Prop) (U : State) : Prop := ∃ t : Nat, va_Z "RecordsOffice$Days" "BEFORE_MONTH" "[I" (.ref t) A U U.heap ∧ va_T .int t 12 (fun j => .int (bmo j)) A U U.heap
theorem KD.at {A : Nat → Prop} {s U : State} {H : Heap} {locs : List Loc} (h : KD A s) (hS : va_S A s.heap H locs) (hvm : s.vm.Alike U.vm) (hH : U.heap = H) : KD A U := by
  obtain ⟨t, h1, h2⟩ := h
  refine ⟨t, ?_, ?_⟩
  · rw [hH]; exact va_Z.moved hvm (h1.kept hS.2.1)
  · rw [hH]; exact va_T.moved hvm (h2.kept hS.2.1)
def WE (D : va_G) (b0 : Nat) (cA : Nat → ClassId) (ad : Nat → Nat → Nat) (m : qM) (c : qC) (U : State) : Prop := va_K D vwCl (wd_tys cA) U ∧ wd D (wA b0) (PO cA ad c m) ad U.heap
def WC (D : va_G) (b0 : Nat) (cA : Nat → ClassId) (ad : Nat → Nat → Nat) (m : qM) (c : qC) (U : State) : Prop := WE D b0 cA ad m c U ∧ KD (wA b0) U
def cc_i (l : Launch) (y : MethodName) (ws : List Cond) (fr lo : Nat) (D : va_G) (b0 : Nat) (cA : Nat → ClassId) (ad : Nat → Nat → Nat) (m : qM) (c : qC) (av : List Value) (E : Int32 × qC) : Prop :=
  Met l y ws { frames := fr, cells := 0, slots := 0, locals := lo } (va_Pc av (WC D b0 cA ad m c)) (va_Qi (fun r (_ : Unit) => r = E.1) (fun _ U => WE D b0 cA ad m E.2 U) (wA b0)) 0 0 (wA b0)
def cc_l (l : Launch) (y : MethodName) (ws : List Cond) (fr lo : Nat) (D : va_G) (b0 : Nat) (cA : Nat → ClassId) (ad : Nat → Nat → Nat) (m : qM) (c : qC) (av : List Value) (E : Int64 × qC) : Prop :=
  Met l y ws { frames := fr, cells := 0, slots := 0, locals := lo } (va_Pc av (WC D b0 cA ad m c)) (va_Ql (fun r (_ : Unit) => r = E.1) (fun _ U => WE D b0 cA ad m E.2 U) (wA b0)) 0 0 (wA b0)
def cc_v (l : Launch) (y : MethodName) (ws : List Cond) (fr lo : Nat) (D : va_G) (b0 : Nat) (cA : Nat → ClassId) (ad : Nat → Nat → Nat) (m : qM) (c : qC) (av : List Value) (E : qC) : Prop :=
  Met l y ws { frames := fr, cells := 0, slots := 0, locals := lo } (va_Pc av (WC D b0 cA ad m c)) (va_Qv (fun (_ : Unit) => True) (fun _ U => WE D b0 cA ad m E U) (wA b0)) 0 0 (wA b0)
theorem KD.blind {A : Nat → Prop} {U : State} {g : JFrame} {mk : MethodId} {a : Array Value} (h : KD A U) : KD A (U.calling g mk a) := by
  obtain ⟨t, h1, h2⟩ := h
  exact ⟨t, va_Z.moved (u := U) (U := U.calling g mk a) (Vm.Alike.refl U.vm) h1, va_T.moved (u := U) (U := U.calling g mk a) (Vm.Alike.refl U.vm) h2⟩
theorem WC_blind {D : va_G} {b0 : Nat} {cA : Nat → ClassId} {ad : Nat → Nat → Nat} {m : qM} {c : qC} {av : List Value} : FrameBlind (va_Pc av (WC D b0 cA ad m c)) := fun a U g mk q => by
  obtain ⟨q0, ⟨qK, qW⟩, qD⟩ := q
  exact ⟨q0, ⟨va_K.moved (u := U) (U := U.calling g mk a) (Vm.Alike.refl U.vm) qK, qW⟩, qD.blind⟩
section CCO
variable {l : Launch} {y : MethodName} {ws ws' : List Cond} {fr lo : Nat} {D : va_G} {b0 : Nat} {cA : Nat → ClassId} {ad : Nat → Nat → Nat} {q : qM} {z : qC} {av : List Value} {cc : ByteArray} {maxL : Nat} {ret : Option FieldType} {Qc : Array Value → State → Outcome → State → Prop}
theorem cc_of (hy : plainName y.cls = true) (hw : ws = Cond.code y cc maxL ret :: ws') (hl : (lg_sl av).length ≤ maxL)
    (body : ∀ (p : Program) (e : Env) (s : State) (m : MethodId) (below : List Frame) (meth : Method) (c : Code), p.tables.exec = Jvm.exec → c.code = cc → c.maxLocals = maxL → meth.sig.returnType = ret → meth.locks = false → s.vm.findClass y.cls = some m.cls → (∀ w ∈ ws, w.before av.toArray s = true) → va_K D vwCl (wd_tys cA) s → wd D (wA b0) (PO cA ad z q) ad s.heap → KD (wA b0) s →
      ∀ ls : Array Slot, lv_has ls maxL (lv_args 0 av) → W p l e { frames := fr, cells := 0, slots := 0, locals := lo } s m av.toArray below meth c s.heap [] 0 0 (MQ below Qc av.toArray s 0 0 (wA b0)) (F0 m 0 ls [])) :
    Met l y ws { frames := fr, cells := 0, slots := 0, locals := lo } (va_Pc av (WC D b0 cA ad q z)) Qc 0 0 (wA b0) := by
  refine Met.ofW (cc := cc) (maxL := maxL) (ret := ret) hy hw ?_
  intro p e s m args below meth c s₁ B hml hv
  obtain ⟨rfl, ⟨hK, hW⟩, hKD⟩ := hv
  have hts := atoms_spec (ws := ws) B.pre
  have hl2 := lv_entry av hl
  rw [lg_entry_eq]
  exact body p e s m below meth c B.exec B.bytes hml B.returns B.notSynchronized (findClass_of_methodNamed B.named) hts hK hW hKD _ hl2
end CCO
section CCR
variable {p : Program} {l : Launch} {e : Env} {R : Room} {s : State} {m : MethodId} {args : Array Value} {below : List Frame} {meth : Method} {c : Code} {H : Heap} {locs : List Loc} {cells slots : Nat} {Q : State → Prop}
variable {cc : ByteArray} {pc : Nat} {ls : Array Slot} {rest st : List Value} {D : va_G} {b0 : Nat} {cA : Nat → ClassId} {ad : Nat → Nat → Nat} {q : qM} {z z2 : qC} {Ts : List Cond} {index nL : Nat}
theorem ow_iret {E : Int32 × qC} {v : Int32} (hx : p.tables.exec = Jvm.exec) (hb : c.code = cc) (hr : meth.sig.returnType = some .int) (hlk : meth.locks = false) (hK : va_K D vwCl (wd_tys cA) s) (hW : wd D (wA b0) (PO cA ad z q) ad H) (hS : va_S (wA b0) s.heap H locs) (hE : (v, z) = E) (hdg : decode cc pc = .ok (.ireturn, 1)) :
    W p l e R s m args below meth c H locs 0 0 (MQ below (va_Qi (fun r (_ : Unit) => r = E.1) (fun _ U => WE D b0 cA ad q E.2 U) (wA b0)) args s 0 0 (wA b0)) (F0 m pc ls [.int v]) := by
  subst hE
  exact W.iret hx hb hr (fun t ht hw => ⟨⟨v, (), rfl, rfl, va_K.moved hw.alike hK, by rw [ht]; exact hW⟩, hS.F ht⟩) hS.2.2 hdg hlk
theorem ow_zret {E : Int32 × qC} {v : Int32} (hx : p.tables.exec = Jvm.exec) (hb : c.code = cc) (hr : meth.sig.returnType = some .boolean) (hlk : meth.locks = false) (hK : va_K D vwCl (wd_tys cA) s) (hW : wd D (wA b0) (PO cA ad z q) ad H) (hS : va_S (wA b0) s.heap H locs) (hn : narrow .boolean (.int v) = .int v) (hE : (v, z) = E) (hdg : decode cc pc = .ok (.ireturn, 1)) :
    W p l e R s m args below meth c H locs 0 0 (MQ below (va_Qi (fun r (_ : Unit) => r = E.1) (fun _ U => WE D b0 cA ad q E.2 U) (wA b0)) args s 0 0 (wA b0)) (F0 m pc ls [.int v]) := by
  subst hE
  exact W.zret hx hb hr hn (fun t ht hw => ⟨⟨v, (), rfl, rfl, va_K.moved hw.alike hK, by rw [ht]; exact hW⟩, hS.F ht⟩) hS.2.2 hdg hlk
theorem ow_lret {E : Int64 × qC} {v : Int64} (hx : p.tables.exec = Jvm.exec) (hb : c.code = cc) (hr : meth.sig.returnType = some .long) (hlk : meth.locks = false) (hK : va_K D vwCl (wd_tys cA) s) (hW : wd D (wA b0) (PO cA ad z q) ad H) (hS : va_S (wA b0) s.heap H locs) (hE : (v, z) = E) (hdg : decode cc pc = .ok (.lreturn, 1)) :
    W p l e R s m args below meth c H locs 0 0 (MQ below (va_Ql (fun r (_ : Unit) => r = E.1) (fun _ U => WE D b0 cA ad q E.2 U) (wA b0)) args s 0 0 (wA b0)) (F0 m pc ls [.long v]) := by
  subst hE
  exact W.lret hx hb hr (fun t ht hw => ⟨⟨v, (), rfl, rfl, va_K.moved hw.alike hK, by rw [ht]; exact hW⟩, hS.F ht⟩) hS.2.2 hdg hlk
theorem ow_vret {E : qC} (hx : p.tables.exec = Jvm.exec) (hb : c.code = cc) (hr : meth.sig.returnType = none) (hlk : meth.locks = false) (hK : va_K D vwCl (wd_tys cA) s) (hW : wd D (wA b0) (PO cA ad z q) ad H) (hS : va_S (wA b0) s.heap H locs) (hE : z = E) (hdg : decode cc pc = .ok (.return_, 1)) :
    W p l e R s m args below meth c H locs 0 0 (MQ below (va_Qv (fun (_ : Unit) => True) (fun _ U => WE D b0 cA ad q E U) (wA b0)) args s 0 0 (wA b0)) (F0 m pc ls []) := by
  subst hE
  exact W.vret hx hb hr (fun t ht hw => ⟨⟨(), rfl, trivial, va_K.moved hw.alike hK, by rw [ht]; exact hW⟩, hS.F ht⟩) hS.2.2 hdg hlk
variable {own ref C : String} {T : u_T} {N ci : Nat} {fs : List Value}
theorem ow_get (hx : p.tables.exec = Jvm.exec) (hb : c.code = cc) (hts : ∀ w ∈ Ts, w.before args s = true) (hin : ∀ w ∈ u_ws C T N, w ∈ Ts) (hown : s.vm.findClass own = some m.cls) (hK : va_K D vwCl (wd_tys cA) s) (hW : wd D (wA b0) (PO cA ad z q) ad H) (k j : Nat) (he : PO cA ad z q k j = some (.inr (ci, fs))) (hc : vwCl[ci]? = some (C, T, N)) (i : Nat) (hi : i < N) (hlink : Cond.fieldLink own index ref (T i).2.1 (T i).2.2.1 ∈ Ts) (h1 : (T i).1 = ref) {v v2 : Value} (hv : fs[i]? = some v) (hv2 : v = v2) (hdg : decode cc pc = .ok (.getfield index, 3))
    (kk : W p l e R s m args below meth c H locs cells slots Q (F0 m (pc + 3) ls (v2 :: rest))) : W p l e R s m args below meth c H locs cells slots Q (F0 m pc ls (.ref (ad k j) :: rest)) := by
  subst hv2
  exact va_get (D := D) hx hb hts hin hown hK (wd_one hW k j he) 0 rfl hc i hi (hts _ hlink) (fun _ h9 => by rw [h1] at h9; exact h9) hv hdg kk
theorem ow_puti (hx : p.tables.exec = Jvm.exec) (hb : c.code = cc) (hts : ∀ w ∈ Ts, w.before args s = true) (hin : ∀ w ∈ u_ws C T N, w ∈ Ts) (ty0 : Nat → FieldType) (hty : ∀ k, k < N → parseFieldDescriptor (T k).2.2.1 = some (ty0 k)) (hnm : ∀ a, a < N → ∀ b, b < N → a ≠ b → (T a).2.1 ≠ (T b).2.1) (hown : s.vm.findClass own = some m.cls) (hK : va_K D vwCl (wd_tys cA) s) (hW : wd D (wA b0) (PO cA ad z q) ad H) (hS : va_S (wA b0) s.heap H locs) (k j : Nat) (he : PO cA ad z q k j = some (.inr (ci, fs))) (hc : vwCl[ci]? = some (C, T, N)) (i : Nat) (hi : i < N) (hlink : Cond.fieldLink own index ref (T i).2.1 (T i).2.2.1 ∈ Ts) (h1 : (T i).1 = ref) (hfin : (T i).2.2.2 = false) {ty : FieldType} {v : Int32} (hd : parseFieldDescriptor (T i).2.2.1 = some ty) (hn : narrow ty (.int v) = .int v) (hfit : fits ty (.int v) = true) (hl : i < fs.length)
    (hk : k ≠ 3 ∧ k ≠ 5 ∧ k ≠ 6) (hw : PO cA ad (cq_i z k j i v) q k j = some (.inr (ci, fs.set i (.int v)))) (hdg : decode cc pc = .ok (.putfield index, 3))
    (kk : ∀ (H1 : Heap) (locs1 : List Loc), wd D (wA b0) (PO cA ad (cq_i z k j i v) q) ad H1 → va_S (wA b0) s.heap H1 locs1 → W p l e R s m args below meth c H1 locs1 cells slots Q (F0 m (pc + 3) ls rest)) : W p l e R s m args below meth c H locs cells slots Q (F0 m pc ls (.int v :: .ref (ad k j) :: rest)) :=
  wd_put (D := D) hx hb hts hin ty0 hty hnm hown hK hW hS k j he hc i hi (hts _ hlink) (fun _ h9 => by rw [h1] at h9; exact h9) hfin hd hn hfit hl hw (PO_i2 hk) hdg kk
theorem ow_putl (hx : p.tables.exec = Jvm.exec) (hb : c.code = cc) (hts : ∀ w ∈ Ts, w.before args s = true) (hin : ∀ w ∈ u_ws C T N, w ∈ Ts) (ty0 : Nat → FieldType) (hty : ∀ k, k < N → parseFieldDescriptor (T k).2.2.1 = some (ty0 k)) (hnm : ∀ a, a < N → ∀ b, b < N → a ≠ b → (T a).2.1 ≠ (T b).2.1) (hown : s.vm.findClass own = some m.cls) (hK : va_K D vwCl (wd_tys cA) s) (hW : wd D (wA b0) (PO cA ad z q) ad H) (hS : va_S (wA b0) s.heap H locs) (k j : Nat) (he : PO cA ad z q k j = some (.inr (ci, fs))) (hc : vwCl[ci]? = some (C, T, N)) (i : Nat) (hi : i < N) (hlink : Cond.fieldLink own index ref (T i).2.1 (T i).2.2.1 ∈ Ts) (h1 : (T i).1 = ref) (hfin : (T i).2.2.2 = false) {v : Int64} (hd : parseFieldDescriptor (T i).2.2.1 = some .long) (hl : i < fs.length)
    (hw : PO cA ad (cq_l z k j i v) q k j = some (.inr (ci, fs.set i (.long v)))) (hdg : decode cc pc = .ok (.putfield index, 3))
    (kk : ∀ (H1 : Heap) (locs1 : List Loc), wd D (wA b0) (PO cA ad (cq_l z k j i v) q) ad H1 → va_S (wA b0) s.heap H1 locs1 → W p l e R s m args below meth c H1 locs1 cells slots Q (F0 m (pc + 3) ls rest)) : W p l e R s m args below meth c H locs cells slots Q (F0 m pc ls (.long v :: .ref (ad k j) :: rest)) :=
  wd_put (D := D) hx hb hts hin ty0 hty hnm hown hK hW hS k j he hc i hi (hts _ hlink) (fun _ h9 => by rw [h1] at h9; exact h9) hfin hd rfl rfl hl hw PO_l2 hdg kk
theorem ow_iald (hx : p.tables.exec = Jvm.exec) (hb : c.code = cc) (hK : va_K D vwCl (wd_tys cA) s) (hW : wd D (wA b0) (PO cA ad z q) ad H) (k j : Nat) {n : Nat} {f : Nat → Int32} (he : PO cA ad z q k j = some (.inl (cA 0, n, .inl f))) {i v : Int32} (hin : vp_in i n) (hv : f i.toNatClampNeg = v) (hdg : decode cc pc = .ok (.iaload, 1))
    (kk : W p l e R s m args below meth c H locs cells slots Q (F0 m (pc + 1) ls (.int v :: rest))) : W p l e R s m args below meth c H locs cells slots Q (F0 m pc ls (.int i :: .ref (ad k j) :: rest)) :=
  va_iald hx hb hK (wd_one hW k j he) 0 0 rfl rfl hin hdg (by rw [hv]; exact kk)
theorem ow_zald (hx : p.tables.exec = Jvm.exec) (hb : c.code = cc) (hK : va_K D vwCl (wd_tys cA) s) (hW : wd D (wA b0) (PO cA ad z q) ad H) (k j : Nat) {n : Nat} {f : Nat → Int32} (he : PO cA ad z q k j = some (.inl (cA 2, n, .inl f))) {i v : Int32} (hin : vp_in i n) (hv : f i.toNatClampNeg = v) (hdg : decode cc pc = .ok (.baload, 1))
    (kk : W p l e R s m args below meth c H locs cells slots Q (F0 m (pc + 1) ls (.int v :: rest))) : W p l e R s m args below meth c H locs cells slots Q (F0 m pc ls (.int i :: .ref (ad k j) :: rest)) :=
  va_zald hx hb hK (wd_one hW k j he) 0 2 rfl rfl hin hdg (by rw [hv]; exact kk)
theorem ow_lald (hx : p.tables.exec = Jvm.exec) (hb : c.code = cc) (hK : va_K D vwCl (wd_tys cA) s) (hW : wd D (wA b0) (PO cA ad z q) ad H) (k j : Nat) {n : Nat} {f : Nat → Int64} (he : PO cA ad z q k j = some (.inl (cA 1, n, .inr (.inl f)))) {i : Int32} {v : Int64} (hin : vp_in i n) (hv : f i.toNatClampNeg = v) (hdg : decode cc pc = .ok (.laload, 1))
    (kk : W p l e R s m args below meth c H locs cells slots Q (F0 m (pc + 1) ls (.long v :: rest))) : W p l e R s m args below meth c H locs cells slots Q (F0 m pc ls (.int i :: .ref (ad k j) :: rest)) :=
  va_lald hx hb hK (wd_one hW k j he) 0 1 rfl rfl hin hdg (by rw [hv]; exact kk)
theorem ow_iast (hx : p.tables.exec = Jvm.exec) (hb : c.code = cc) (hK : va_K D vwCl (wd_tys cA) s) (hW : wd D (wA b0) (PO cA ad z q) ad H) (hS : va_S (wA b0) s.heap H locs) (k j : Nat) {n : Nat} {f : Nat → Int32} (he : PO cA ad z q k j = some (.inl (cA 0, n, .inl f))) {i v : Int32} (hin : vp_in i n) (hk : k ≠ 3 ∧ k ≠ 5 ∧ k ≠ 6) (hw : PO cA ad (cq_i z k j i.toNatClampNeg v) q k j = some (.inl (cA 0, n, .inl (upd f i.toNatClampNeg v)))) (hdg : decode cc pc = .ok (.iastore, 1))
    (kk : ∀ (H1 : Heap) (locs1 : List Loc), wd D (wA b0) (PO cA ad (cq_i z k j i.toNatClampNeg v) q) ad H1 → va_S (wA b0) s.heap H1 locs1 → W p l e R s m args below meth c H1 locs1 cells slots Q (F0 m (pc + 1) ls rest)) : W p l e R s m args below meth c H locs cells slots Q (F0 m pc ls (.int v :: .int i :: .ref (ad k j) :: rest)) :=
  wd_iast hx hb hK hW hS k j 0 he rfl hin hw (PO_i2 hk) hdg kk
theorem ow_zast (hx : p.tables.exec = Jvm.exec) (hb : c.code = cc) (hK : va_K D vwCl (wd_tys cA) s) (hW : wd D (wA b0) (PO cA ad z q) ad H) (hS : va_S (wA b0) s.heap H locs) (k j : Nat) {n : Nat} {f : Nat → Int32} (he : PO cA ad z q k j = some (.inl (cA 2, n, .inl f))) {i v : Int32} (hv : vp_nar .boolean v = v) (hin : vp_in i n) (hk : k ≠ 3 ∧ k ≠ 5 ∧ k ≠ 6) (hw : PO cA ad (cq_i z k j i.toNatClampNeg v) q k j = some (.inl (cA 2, n, .inl (upd f i.toNatClampNeg v)))) (hdg : decode cc pc = .ok (.bastore, 1))
    (kk : ∀ (H1 : Heap) (locs1 : List Loc), wd D (wA b0) (PO cA ad (cq_i z k j i.toNatClampNeg v) q) ad H1 → va_S (wA b0) s.heap H1 locs1 → W p l e R s m args below meth c H1 locs1 cells slots Q (F0 m (pc + 1) ls rest)) : W p l e R s m args below meth c H locs cells slots Q (F0 m pc ls (.int v :: .int i :: .ref (ad k j) :: rest)) :=
  wd_zast hx hb hK hW hS k j 2 he rfl hv hin hw (PO_i2 hk) hdg kk
theorem ow_last (hx : p.tables.exec = Jvm.exec) (hb : c.code = cc) (hK : va_K D vwCl (wd_tys cA) s) (hW : wd D (wA b0) (PO cA ad z q) ad H) (hS : va_S (wA b0) s.heap H locs) (k j : Nat) {n : Nat} {f : Nat → Int64} (he : PO cA ad z q k j = some (.inl (cA 1, n, .inr (.inl f)))) {i : Int32} {v : Int64} (hin : vp_in i n) (hw : PO cA ad (cq_l z k j i.toNatClampNeg v) q k j = some (.inl (cA 1, n, .inr (.inl (vp_updL f i.toNatClampNeg v))))) (hdg : decode cc pc = .ok (.lastore, 1))
    (kk : ∀ (H1 : Heap) (locs1 : List Loc), wd D (wA b0) (PO cA ad (cq_l z k j i.toNatClampNeg v) q) ad H1 → va_S (wA b0) s.heap H1 locs1 → W p l e R s m args below meth c H1 locs1 cells slots Q (F0 m (pc + 1) ls rest)) : W p l e R s m args below meth c H locs cells slots Q (F0 m pc ls (.long v :: .int i :: .ref (ad k j) :: rest)) :=
  wd_last hx hb hK hW hS k j 1 he rfl hin hw PO_l2 hdg kk
theorem lt8 {i : Int32} (h : vp_in i 8) : i.toNatClampNeg < 8 := Nat.not_le.mp fun q => h (Or.inr q)
theorem ow_aald (hx : p.tables.exec = Jvm.exec) (hb : c.code = cc) (hK : va_K D vwCl (wd_tys cA) s) (hW : wd D (wA b0) (PO cA ad z q) ad H) (k j : Nat) {n : Nat} {f : Nat → Nat} {a : ClassId} {B : String} (he : PO cA ad z q k j = some (.inl (a, vp_q n (fun i => some (f i))))) (t0 : Nat) (ht : (wd_tys cA)[t0]? = some (a, .object B)) {i : Int32} (hin : vp_in i n) (hdg : decode cc pc = .ok (.aaload, 1))
    (kk : W p l e R s m args below meth c H locs cells slots Q (F0 m (pc + 1) ls (.ref (f i.toNatClampNeg) :: rest))) : W p l e R s m args below meth c H locs cells slots Q (F0 m pc ls (.int i :: .ref (ad k j) :: rest)) :=
  va_aldq hx hb hK (wd_one hW k j he) 0 t0 rfl ht hin hdg kk
theorem ow_aldp (hx : p.tables.exec = Jvm.exec) (hb : c.code = cc) (hK : va_K D vwCl (wd_tys cA) s) (hW : wd D (wA b0) (PO cA ad z q) ad H) (k j : Nat) {n : Nat} {g : Nat → Int32} {f : Nat → Nat} {a : ClassId} {B : String} (he : PO cA ad z q k j = some (.inl (a, vp_q n (rfs g f)))) (t0 : Nat) (ht : (wd_tys cA)[t0]? = some (a, .object B)) {i : Int32} (hin : vp_in i n) (hp : ¬ g i.toNatClampNeg = 0) (hdg : decode cc pc = .ok (.aaload, 1))
    (kk : W p l e R s m args below meth c H locs cells slots Q (F0 m (pc + 1) ls (.ref (f i.toNatClampNeg) :: rest))) : W p l e R s m args below meth c H locs cells slots Q (F0 m pc ls (.int i :: .ref (ad k j) :: rest)) :=
  va_aldq hx hb hK (wd_one hW k j he) 0 t0 rfl ht hin hdg (by unfold rfs; rw [if_neg hp]; exact kk)
theorem ow_aldn (hx : p.tables.exec = Jvm.exec) (hb : c.code = cc) (hK : va_K D vwCl (wd_tys cA) s) (hW : wd D (wA b0) (PO cA ad z q) ad H) (k j : Nat) {n : Nat} {g : Nat → Int32} {f : Nat → Nat} {a : ClassId} {B : String} (he : PO cA ad z q k j = some (.inl (a, vp_q n (rfs g f)))) (t0 : Nat) (ht : (wd_tys cA)[t0]? = some (a, .object B)) {i : Int32} (hin : vp_in i n) (hp : g i.toNatClampNeg = 0) (hdg : decode cc pc = .ok (.aaload, 1))
    (kk : W p l e R s m args below meth c H locs cells slots Q (F0 m (pc + 1) ls (.null :: rest))) : W p l e R s m args below meth c H locs cells slots Q (F0 m pc ls (.int i :: .ref (ad k j) :: rest)) :=
  va_aldq hx hb hK (wd_one hW k j he) 0 t0 rfl ht hin hdg (by unfold rfs; rw [if_pos hp]; exact kk)
theorem ow_preV {As : List Value} {k j : Nat} (hK : va_K D vwCl (wd_tys cA) s) (hW : wd D (wA b0) (PO cA ad z q) ad H) (hS : va_S (wA b0) s.heap H locs) (hKD : KD (wA b0) s) (he : PO cA ad z q k j = some (.inr (ci, fs))) (hc : vwCl[ci]? = some (C, T, N)) : PreV s H C (ad k j) (va_Pc (.ref (ad k j) :: As) (WC D b0 cA ad q z)) As :=
  ⟨WC_blind, va_recv hK (wd_one hW k j he) (q := (C, T, N)) (q0 := 0) hc rfl, fun U hU hw => ⟨rfl, ⟨va_K.moved hw.alike hK, by rw [hU]; exact hW⟩, hKD.at hS hw.alike hU⟩⟩
theorem ow_preS {As : List Value} (hK : va_K D vwCl (wd_tys cA) s) (hW : wd D (wA b0) (PO cA ad z q) ad H) (hS : va_S (wA b0) s.heap H locs) (hKD : KD (wA b0) s) : PreS s H (va_Pc As (WC D b0 cA ad q z)) As :=
  ⟨WC_blind, fun U hU hw => ⟨rfl, ⟨va_K.moved hw.alike hK, by rw [hU]; exact hW⟩, hKD.at hS hw.alike hU⟩⟩
variable {y : MethodName} {ws ws' : List Cond} {fr lo maxL n : Nat} {bytes : ByteArray} {ret : Option FieldType} {As : List Value}

theorem ow_callVi {r : Int32} {k j : Nat} (S : CallFix p m c cc nL s args Ts own) (hM : cc_i l y ws fr lo D b0 cA ad q z (.ref (ad k j) :: As) (r, z2)) (he : PO cA ad z q k j = some (.inr (ci, fs))) (hc : vwCl[ci]? = some (C, T, N)) (hT : GoodIn Ts (wsV own index C y ws)) (hw : ws = Cond.code y bytes maxL ret :: ws') (hd : y.cls = C ∧ y.cls ≠ "java/lang/invoke/MethodHandle" ∧ y.cls ≠ "java/lang/invoke/VarHandle" ∧ (parseMethodDescriptor y.desc).map (fun d => d.parameters.length) = some n) (hn : As.length = n) (hR : fr + 1 ≤ R.frames ∧ 8 + (maxL + 11) + lo ≤ R.locals) (hf : cells ≤ R.cells ∧ slots ≤ R.slots)
    (hK : va_K D vwCl (wd_tys cA) s) (hW : wd D (wA b0) (PO cA ad z q) ad H) (hS : va_S (wA b0) s.heap H locs) (hKD : KD (wA b0) s) (hsz : ls.size = nL) (hst : st = As.reverse ++ .ref (ad k j) :: rest) (hrm : (rest.map fun v => v.category).sum ≤ 8) (hdg : decode cc pc = .ok (.invokevirtual index, 3))
    (kk : ∀ (H1 : Heap) (locs1 : List Loc), wd D (wA b0) (PO cA ad z2 q) ad H1 → va_S (wA b0) s.heap H1 locs1 → W p l e R s m args below meth c H1 locs1 cells slots Q (F0 m (pc + 3) ls (.int r :: rest))) : W p l e R s m args below meth c H locs cells slots Q (F0 m pc ls st) := by
  refine va_calli (va_runV (As := As) (rest := rest) S hM (cwV n S.2.2.2.2 hT hw rfl rfl hd hR) (ow_preV hK hW hS hKD he hc) rfl hn hsz hst (lv_room hrm) hdg hf) hS (fun q _ h => h) (fun q h => h) (fun r2 u t H1 locs1 ht hvm hp hB _ _ hS1 => ?_)
  subst hp
  exact kk H1 locs1 (by rw [← ht]; exact hB.2) hS1
theorem ow_callSi {r : Int32} (S : CallFix p m c cc nL s args Ts own) (hM : cc_i l y ws fr lo D b0 cA ad q z As (r, z2)) (hT : GoodIn Ts (va_wsS own index y ws)) (hw : ws = Cond.code y bytes maxL ret :: ws') (hd : y.cls ≠ "java/lang/invoke/MethodHandle" ∧ y.cls ≠ "java/lang/invoke/VarHandle" ∧ (parseMethodDescriptor y.desc).map (fun d => d.parameters.length) = some n) (hn : As.length = n) (hR : fr + 1 ≤ R.frames ∧ 8 + (maxL + 11) + lo ≤ R.locals) (hf : cells ≤ R.cells ∧ slots ≤ R.slots)
    (hK : va_K D vwCl (wd_tys cA) s) (hW : wd D (wA b0) (PO cA ad z q) ad H) (hS : va_S (wA b0) s.heap H locs) (hKD : KD (wA b0) s) (hsz : ls.size = nL) (hst : st = As.reverse ++ rest) (hrm : (rest.map fun v => v.category).sum ≤ 8) (hdg : decode cc pc = .ok (.invokestatic index, 3))
    (kk : ∀ (H1 : Heap) (locs1 : List Loc), wd D (wA b0) (PO cA ad z2 q) ad H1 → va_S (wA b0) s.heap H1 locs1 → W p l e R s m args below meth c H1 locs1 cells slots Q (F0 m (pc + 3) ls (.int r :: rest))) : W p l e R s m args below meth c H locs cells slots Q (F0 m pc ls st) := by
  refine va_calli (va_runS (As := As) (rest := rest) S hM (va_cwS n S.2.2.2.2 hT hw rfl rfl hd hR) (ow_preS hK hW hS hKD) rfl hn hsz hst (lv_room hrm) hdg hf) hS (fun q _ h => h) (fun q h => h) (fun r2 u t H1 locs1 ht hvm hp hB _ _ hS1 => ?_)
  subst hp
  exact kk H1 locs1 (by rw [← ht]; exact hB.2) hS1
theorem ow_callVl {r : Int64} {k j : Nat} (S : CallFix p m c cc nL s args Ts own) (hM : cc_l l y ws fr lo D b0 cA ad q z (.ref (ad k j) :: As) (r, z2)) (he : PO cA ad z q k j = some (.inr (ci, fs))) (hc : vwCl[ci]? = some (C, T, N)) (hT : GoodIn Ts (wsV own index C y ws)) (hw : ws = Cond.code y bytes maxL ret :: ws') (hd : y.cls = C ∧ y.cls ≠ "java/lang/invoke/MethodHandle" ∧ y.cls ≠ "java/lang/invoke/VarHandle" ∧ (parseMethodDescriptor y.desc).map (fun d => d.parameters.length) = some n) (hn : As.length = n) (hR : fr + 1 ≤ R.frames ∧ 8 + (maxL + 11) + lo ≤ R.locals) (hf : cells ≤ R.cells ∧ slots ≤ R.slots)
    (hK : va_K D vwCl (wd_tys cA) s) (hW : wd D (wA b0) (PO cA ad z q) ad H) (hS : va_S (wA b0) s.heap H locs) (hKD : KD (wA b0) s) (hsz : ls.size = nL) (hst : st = As.reverse ++ .ref (ad k j) :: rest) (hrm : (rest.map fun v => v.category).sum ≤ 8) (hdg : decode cc pc = .ok (.invokevirtual index, 3))
    (kk : ∀ (H1 : Heap) (locs1 : List Loc), wd D (wA b0) (PO cA ad z2 q) ad H1 → va_S (wA b0) s.heap H1 locs1 → W p l e R s m args below meth c H1 locs1 cells slots Q (F0 m (pc + 3) ls (.long r :: rest))) : W p l e R s m args below meth c H locs cells slots Q (F0 m pc ls st) := by
  refine va_calll (va_runV (As := As) (rest := rest) S hM (cwV n S.2.2.2.2 hT hw rfl rfl hd hR) (ow_preV hK hW hS hKD he hc) rfl hn hsz hst (lv_room hrm) hdg hf) hS (fun q _ h => h) (fun q h => h) (fun r2 u t H1 locs1 ht hvm hp hB _ _ hS1 => ?_)
  subst hp
  exact kk H1 locs1 (by rw [← ht]; exact hB.2) hS1
theorem ow_callSl {r : Int64} (S : CallFix p m c cc nL s args Ts own) (hM : cc_l l y ws fr lo D b0 cA ad q z As (r, z2)) (hT : GoodIn Ts (va_wsS own index y ws)) (hw : ws = Cond.code y bytes maxL ret :: ws') (hd : y.cls ≠ "java/lang/invoke/MethodHandle" ∧ y.cls ≠ "java/lang/invoke/VarHandle" ∧ (parseMethodDescriptor y.desc).map (fun d => d.parameters.length) = some n) (hn : As.length = n) (hR : fr + 1 ≤ R.frames ∧ 8 + (maxL + 11) + lo ≤ R.locals) (hf : cells ≤ R.cells ∧ slots ≤ R.slots)
    (hK : va_K D vwCl (wd_tys cA) s) (hW : wd D (wA b0) (PO cA ad z q) ad H) (hS : va_S (wA b0) s.heap H locs) (hKD : KD (wA b0) s) (hsz : ls.size = nL) (hst : st = As.reverse ++ rest) (hrm : (rest.map fun v => v.category).sum ≤ 8) (hdg : decode cc pc = .ok (.invokestatic index, 3))
    (kk : ∀ (H1 : Heap) (locs1 : List Loc), wd D (wA b0) (PO cA ad z2 q) ad H1 → va_S (wA b0) s.heap H1 locs1 → W p l e R s m args below meth c H1 locs1 cells slots Q (F0 m (pc + 3) ls (.long r :: rest))) : W p l e R s m args below meth c H locs cells slots Q (F0 m pc ls st) := by
  refine va_calll (va_runS (As := As) (rest := rest) S hM (va_cwS n S.2.2.2.2 hT hw rfl rfl hd hR) (ow_preS hK hW hS hKD) rfl hn hsz hst (lv_room hrm) hdg hf) hS (fun q _ h => h) (fun q h => h) (fun r2 u t H1 locs1 ht hvm hp hB _ _ hS1 => ?_)
  subst hp
  exact kk H1 locs1 (by rw [← ht]; exact hB.2) hS1
theorem ow_callVv {k j : Nat} (S : CallFix p m c cc nL s args Ts own) (hM : cc_v l y ws fr lo D b0 cA ad q z (.ref (ad k j) :: As) z2) (he : PO cA ad z q k j = some (.inr (ci, fs))) (hc : vwCl[ci]? = some (C, T, N)) (hT : GoodIn Ts (wsV own index C y ws)) (hw : ws = Cond.code y bytes maxL ret :: ws') (hd : y.cls = C ∧ y.cls ≠ "java/lang/invoke/MethodHandle" ∧ y.cls ≠ "java/lang/invoke/VarHandle" ∧ (parseMethodDescriptor y.desc).map (fun d => d.parameters.length) = some n) (hn : As.length = n) (hR : fr + 1 ≤ R.frames ∧ 8 + (maxL + 11) + lo ≤ R.locals) (hf : cells ≤ R.cells ∧ slots ≤ R.slots)
    (hK : va_K D vwCl (wd_tys cA) s) (hW : wd D (wA b0) (PO cA ad z q) ad H) (hS : va_S (wA b0) s.heap H locs) (hKD : KD (wA b0) s) (hsz : ls.size = nL) (hst : st = As.reverse ++ .ref (ad k j) :: rest) (hrm : (rest.map fun v => v.category).sum ≤ 8) (hdg : decode cc pc = .ok (.invokevirtual index, 3))
    (kk : ∀ (H1 : Heap) (locs1 : List Loc), wd D (wA b0) (PO cA ad z2 q) ad H1 → va_S (wA b0) s.heap H1 locs1 → W p l e R s m args below meth c H1 locs1 cells slots Q (F0 m (pc + 3) ls (rest))) : W p l e R s m args below meth c H locs cells slots Q (F0 m pc ls st) := by
  refine va_callv (va_runV (As := As) (rest := rest) S hM (cwV n S.2.2.2.2 hT hw rfl rfl hd hR) (ow_preV hK hW hS hKD he hc) rfl hn hsz hst (lv_room hrm) hdg hf) hS (fun q _ h => h) (fun q h => h) (fun u t H1 locs1 ht hvm hp hB _ _ hS1 => ?_)
  exact kk H1 locs1 (by rw [← ht]; exact hB.2) hS1
theorem ow_callSv (S : CallFix p m c cc nL s args Ts own) (hM : cc_v l y ws fr lo D b0 cA ad q z As z2) (hT : GoodIn Ts (va_wsS own index y ws)) (hw : ws = Cond.code y bytes maxL ret :: ws') (hd : y.cls ≠ "java/lang/invoke/MethodHandle" ∧ y.cls ≠ "java/lang/invoke/VarHandle" ∧ (parseMethodDescriptor y.desc).map (fun d => d.parameters.length) = some n) (hn : As.length = n) (hR : fr + 1 ≤ R.frames ∧ 8 + (maxL + 11) + lo ≤ R.locals) (hf : cells ≤ R.cells ∧ slots ≤ R.slots)
    (hK : va_K D vwCl (wd_tys cA) s) (hW : wd D (wA b0) (PO cA ad z q) ad H) (hS : va_S (wA b0) s.heap H locs) (hKD : KD (wA b0) s) (hsz : ls.size = nL) (hst : st = As.reverse ++ rest) (hrm : (rest.map fun v => v.category).sum ≤ 8) (hdg : decode cc pc = .ok (.invokestatic index, 3))
    (kk : ∀ (H1 : Heap) (locs1 : List Loc), wd D (wA b0) (PO cA ad z2 q) ad H1 → va_S (wA b0) s.heap H1 locs1 → W p l e R s m args below meth c H1 locs1 cells slots Q (F0 m (pc + 3) ls (rest))) : W p l e R s m args below meth c H locs cells slots Q (F0 m pc ls st) := by
  refine va_callv (va_runS (As := As) (rest := rest) S hM (va_cwS n S.2.2.2.2 hT hw rfl rfl hd hR) (ow_preS hK hW hS hKD) rfl hn hsz hst (lv_room hrm) hdg hf) hS (fun q _ h => h) (fun q h => h) (fun u t H1 locs1 ht hvm hp hB _ _ hS1 => ?_)
  exact kk H1 locs1 (by rw [← ht]; exact hB.2) hS1
end CCR
