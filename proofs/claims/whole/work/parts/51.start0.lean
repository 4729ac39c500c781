/-! the start of both sides -/
def c0 : qC := (fun k j i => if k = 0 ∧ j = 0 ∧ i = 10 then 1 else 0, fun _ _ _ => 0)
def m0 : qM := (fun f i => if f = 2 ∧ i = 0 then 1 else if (f = 9 ∨ f = 10 ∨ f = 11) ∧ i < 16 then -1 else 0, fun _ _ => 0)
theorem c0_z {k j i : Nat} (h : k ≠ 0) : c0.1 k j i = 0 := if_neg (fun x => h x.1)
theorem c0_i {j i : Nat} (h : i ≠ 10) : c0.1 0 j i = 0 := if_neg (fun x => h x.2.2)
theorem m0_z {f i : Nat} (h : f ≠ 2) (h9 : f ≠ 9) (h10 : f ≠ 10) (h11 : f ≠ 11) : m0.1 f i = 0 := by
  unfold m0
  dsimp only
  rw [if_neg (fun x => h x.1), if_neg (fun x => by rcases x.1 with e | e | e; exact h9 e; exact h10 e; exact h11 e)]
theorem m0_n {f i : Nat} (h : f = 9 ∨ f = 10 ∨ f = 11) (hi : i < 16) : m0.1 f i = -1 := by
  unfold m0
  dsimp only
  rw [if_neg (fun x => by rcases h with e | e | e <;> rw [e] at x <;> exact absurd x.1 (by decide)), if_pos ⟨h, hi⟩]
theorem m0_r {f i : Nat} (h : f = 9 ∨ f = 10 ∨ f = 11) : -1 ≤ (m0.1 f i).toInt ∧ (m0.1 f i).toInt ≤ 0 := by
  by_cases hi : i < 16
  · rw [m0_n h hi]; decide
  · unfold m0
    dsimp only
    rw [if_neg (fun x => by rcases h with e | e | e <;> rw [e] at x <;> exact absurd x.1 (by decide)), if_neg (fun x => hi x.2)]; decide
theorem lst_0 (l : Nat) : lst m0 l = bts 0 := by
  have e : m0.1 27 l = 0 := m0_z (by decide) (by decide) (by decide) (by decide)
  unfold lst
  rw [e, show Int32.toNatClampNeg 0 = 0 from rfl]
  exact (show ([] : List Nat) = bts 0 by decide)
theorem RI_0 : RI c0 m0 := by
  have M : ∀ f i, f ≠ 2 → f ≠ 9 → f ≠ 10 → f ≠ 11 → m0.1 f i = 0 := fun f i a b c d => m0_z a b c d
  have z0 : (0 : Int32).toInt = 0 := rfl
  refine ⟨⟨⟨rfl, rfl, rfl, rfl, rfl⟩, ⟨rfl, rfl, rfl⟩, ⟨fun j => ⟨rfl, rfl, by rw [M 4 j (by decide) (by decide) (by decide) (by decide)]; decide⟩, fun j i _ => ⟨rfl, rfl, rfl⟩, fun j a b _ _ => Int.le_refl _⟩, ?_, ⟨fun r => ⟨rfl, rfl, rfl, rfl, rfl, rfl, rfl, rfl⟩, fun r _ => rfl, fun i => by rw [M 17 i (by decide) (by decide) (by decide) (by decide)]; decide⟩, fun h => ⟨rfl, rfl, rfl, rfl, rfl, rfl⟩, ⟨fun l => ⟨rfl, rfl, by rw [M 29 l (by decide) (by decide) (by decide) (by decide)]; decide⟩, fun l _ => ⟨rfl, rfl⟩, ?_, fun l _ => ⟨0, by decide, rfl, lst_0 l⟩⟩⟩, ?_, ?_, ?_⟩
  · intro f hf
    rw [c0_z (by decide), m0_n (Or.inl rfl) hf, m0_n (Or.inr (Or.inl rfl)) hf, m0_n (Or.inr (Or.inr rfl)) hf]
    exact ⟨⟨fun _ => rfl, fun _ => rfl⟩, fun _ => ⟨rfl, rfl⟩, fun h => absurd rfl h⟩
  · intro l hl
    have e : m0.1 25 0 = 0 := rfl
    rw [e, z0] at hl
    omega
  · refine ⟨fun j => ?_, fun j => ?_, fun j => ?_, by decide, fun j => ?_, fun j => ?_, fun j => ?_, fun j => ?_, by decide, fun j hj => ?_⟩
    · rw [M 5 j (by decide) (by decide) (by decide) (by decide)]; decide
    · have := m0_r (f := 9) (i := j) (Or.inl rfl); omega
    · rw [M 13 j (by decide) (by decide) (by decide) (by decide)]; decide
    · rw [M 14 j (by decide) (by decide) (by decide) (by decide)]; decide
    · have := m0_r (f := 10) (i := j) (Or.inr (Or.inl rfl)); omega
    · have := m0_r (f := 11) (i := j) (Or.inr (Or.inr rfl)); omega
    · rw [M 6 j (by decide) (by decide) (by decide) (by decide)]; decide
    · have e : m0.1 12 0 = 0 := rfl
      rw [e, z0] at hj
      omega
  · refine ⟨by decide, fun j => ?_, fun j => ?_, fun a k _ _ x2 x3 => ?_, fun j _ => ?_, by decide⟩
    · rw [M 27 j (by decide) (by decide) (by decide) (by decide)]; decide
    · rw [M 26 j (by decide) (by decide) (by decide) (by decide)]; decide
    · rw [M 27 _ (by decide) (by decide) (by decide) (by decide), z0] at x3
      omega
    · rw [M 27 j (by decide) (by decide) (by decide) (by decide)]; rfl
  · refine ⟨fun r h => absurd (c0_z (by decide)) h, fun f => by rw [c0_z (by decide)]; decide, fun r => by rw [c0_z (by decide)]; decide, fun j => by rw [c0_z (by decide)]; decide, by decide, by decide, fun r h => ?_, fun f => by rw [c0_z (by decide)]; decide, fun f => by rw [c0_z (by decide)]; decide, fun j i => by rw [c0_z (by decide)]; decide, by decide, by decide, fun l h => ?_⟩
    · rw [c0_i (by decide), z0] at h; omega
    · rw [c0_i (by decide), z0] at h; omega
