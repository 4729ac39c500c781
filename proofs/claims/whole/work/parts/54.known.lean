/-! laid by wip/whole/tools/lawstart.py: the classes and the arrays, as the tables have them -/
set_option maxRecDepth 20000 in
theorem k_K {b : Nat} {s : State} (hw : ∀ w ∈ wsL_law, w.before #[Value.ref b] s = true) (hT : ∀ w ∈ kT, w.before #[Value.ref b] s = true) : ∃ (D : va_G) (cA : Nat → ClassId), va_K D vwCl (wd_tys cA) s := by
  obtain ⟨c0, i0, h0⟩ := u_known (n := 3) hw inlX0 (hT _ (List.mem_of_getElem? (i := 60) rfl))
  obtain ⟨c1, i1, h1⟩ := u_known (n := 4) hw inlX2 (hT _ (List.mem_of_getElem? (i := 61) rfl))
  obtain ⟨c2, i2, h2⟩ := u_known (n := 8) hw inlX3 (hT _ (List.mem_of_getElem? (i := 62) rfl))
  obtain ⟨c3, i3, h3⟩ := u_known (n := 4) hw inlX4 (hT _ (List.mem_of_getElem? (i := 63) rfl))
  obtain ⟨c4, i4, h4⟩ := u_known (n := 6) hw inlX5 (hT _ (List.mem_of_getElem? (i := 64) rfl))
  obtain ⟨c5, i5, h5⟩ := u_known (n := 5) hw inlX6 (hT _ (List.mem_of_getElem? (i := 65) rfl))
  obtain ⟨c6, i6, h6⟩ := u_known (n := 11) hw inlX7 (hT _ (List.mem_of_getElem? (i := 66) rfl))
  obtain ⟨c7, i7, h7⟩ := u_known (n := 34) hw inlX8 (hT _ (List.mem_of_getElem? (i := 67) rfl))
  obtain ⟨a0, k0, p0, f0, g0, e0⟩ := Cond.arrayClass_spec (hT _ (List.mem_of_getElem? (i := 19) rfl))
  obtain ⟨a1, k1, p1, f1, g1, e1⟩ := Cond.arrayClass_spec (hT _ (List.mem_of_getElem? (i := 20) rfl))
  obtain ⟨a2, k2, p2, f2, g2, e2⟩ := Cond.arrayClass_spec (hT _ (List.mem_of_getElem? (i := 21) rfl))
  obtain ⟨p3, a3, k3, m3, -, g3, e3, f3⟩ := Cond.arrayOver_spec (hT _ (List.mem_of_getElem? (i := 14) rfl))
  obtain ⟨p4, a4, k4, m4, -, g4, e4, f4⟩ := Cond.arrayOver_spec (hT _ (List.mem_of_getElem? (i := 15) rfl))
  obtain ⟨p5, a5, k5, m5, -, g5, e5, f5⟩ := Cond.arrayOver_spec (hT _ (List.mem_of_getElem? (i := 16) rfl))
  obtain ⟨p6, a6, k6, m6, -, g6, e6, f6⟩ := Cond.arrayOver_spec (hT _ (List.mem_of_getElem? (i := 17) rfl))
  obtain ⟨p7, a7, k7, m7, -, g7, e7, f7⟩ := Cond.arrayOver_spec (hT _ (List.mem_of_getElem? (i := 18) rfl))
  refine ⟨(fun c => match c with | 0 => c0 | 1 => c1 | 2 => c2 | 3 => c3 | 4 => c4 | 5 => c5 | 6 => c6 | _ => c7, fun c => match c with | 0 => i0 | 1 => i1 | 2 => i2 | 3 => i3 | 4 => i4 | 5 => i5 | 6 => i6 | _ => i7), fun t => match t with | 0 => a0 | 1 => a1 | 2 => a2 | 3 => a3 | 4 => a4 | 5 => a5 | 6 => a6 | _ => a7, ?_, ?_⟩
  · intro c q hq
    have hc : c = 0 ∨ c = 1 ∨ c = 2 ∨ c = 3 ∨ c = 4 ∨ c = 5 ∨ c = 6 ∨ c = 7 ∨ 8 ≤ c := by omega
    rcases hc with rfl | rfl | rfl | rfl | rfl | rfl | rfl | rfl | hc
    · cases hq; exact h0
    · cases hq; exact h1
    · cases hq; exact h2
    · cases hq; exact h3
    · cases hq; exact h4
    · cases hq; exact h5
    · cases hq; exact h6
    · cases hq; exact h7
    · rw [List.getElem?_eq_none (by exact hc)] at hq
      cases hq
  · intro k q hq
    have hc : k = 0 ∨ k = 1 ∨ k = 2 ∨ k = 3 ∨ k = 4 ∨ k = 5 ∨ k = 6 ∨ k = 7 ∨ 8 ≤ k := by omega
    rcases hc with rfl | rfl | rfl | rfl | rfl | rfl | rfl | rfl | hc
    · cases hq; exact ⟨fun n z => ⟨(fun k h => by cases h), k0, g0, p0, e0⟩, f0⟩
    · cases hq; exact ⟨fun n z => ⟨(fun k h => by cases h), k1, g1, p1, e1⟩, f1⟩
    · cases hq; exact ⟨fun n z => ⟨(fun k h => by cases h), k2, g2, p2, e2⟩, f2⟩
    · cases hq; exact ⟨fun n z => ⟨(fun k h => by cases h), k3, g3, p3, e3⟩, k3, p3, g3, e3, m3, f3⟩
    · cases hq; exact ⟨fun n z => ⟨(fun k h => by cases h), k4, g4, p4, e4⟩, k4, p4, g4, e4, m4, f4⟩
    · cases hq; exact ⟨fun n z => ⟨(fun k h => by cases h), k5, g5, p5, e5⟩, k5, p5, g5, e5, m5, f5⟩
    · cases hq; exact ⟨fun n z => ⟨(fun k h => by cases h), k6, g6, p6, e6⟩, k6, p6, g6, e6, m6, f6⟩
    · cases hq; exact ⟨fun n z => ⟨(fun k h => by cases h), k7, g7, p7, e7⟩, k7, p7, g7, e7, m7, f7⟩
    · rw [List.getElem?_eq_none (by exact hc)] at hq
      cases hq
