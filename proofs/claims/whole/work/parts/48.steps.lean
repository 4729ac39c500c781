/-! laid by wip/whole/tools/lawloop.py: a call on both sides, with the state that the law's method leaves behind -/
theorem RI_22 {c : qC} {q : qM} {v : Int64} (h : RI c q) : RI (cq_l c 22 0 0 v) q := by
  obtain ⟨⟨g1, g2, g3, g4, g5, g6, g7⟩, hg, hl, hc⟩ := h
  exact ⟨⟨G1_fr g1 (ek_l rfl (ek_rf _)) (em_rf _), G2_fr g2 (ek_l rfl (ek_rf _)) (em_rf _), G3_fr g3 (ek_l rfl (ek_rf _)) (em_rf _), G4_fr g4 (ek_l rfl (ek_rf _)) (em_rf _), G5_fr g5 (ek_l rfl (ek_rf _)) (em_rf _), G6_fr g6 (ek_l rfl (ek_rf _)) (em_rf _), G7_fr g7 (ek_l rfl (ek_rf _)) (em_rf _)⟩, hg, hl, cI_l rfl hc⟩
def tP (c : qC) (x : Int32 × qC) : Prop := ¬ x.1 = 0 → x.2 = c
def tR {α : Type} (c : qC) (x : Int32 × α × qC) : Prop := ¬ x.1 = 0 → x.2.2 = c
theorem tp_p {c : qC} {d : Prop} [Decidable d] {a b : Int32 × qC} (h1 : d → tP c a) (h2 : ¬ d → tP c b) : tP c (if d then a else b) := by
  by_cases h : d
  · rw [if_pos h]; exact h1 h
  · rw [if_neg h]; exact h2 h
theorem tr_p {α : Type} {c : qC} {d : Prop} [Decidable d] {a b : Int32 × α × qC} (h1 : d → tR c a) (h2 : ¬ d → tR c b) : tR c (if d then a else b) := by
  by_cases h : d
  · rw [if_pos h]; exact h1 h
  · rw [if_neg h]; exact h2 h
theorem tp_0 {c x : qC} : tP c (0, x) := fun h => absurd rfl h
theorem tr_0 {α : Type} {c x : qC} {v : α} : tR c (0, v, x) := fun h => absurd rfl h
theorem tp_c {c : qC} {k : Int32} : tP c (k, c) := fun _ => rfl
theorem tr_c {α : Type} {c : qC} {k : Int32} {v : α} : tR c (k, v, c) := fun _ => rfl
theorem wkF_0 {x : Int32} (h : wkF x = 0) : x = 0 := by
  unfold wkF at h
  by_cases e : x = 0
  · exact e
  · rw [if_neg e] at h
    by_cases e2 : x = 2
    · rw [if_pos e2] at h; exact absurd h (by decide)
    · rw [if_neg e2] at h; exact absurd h (by decide)
theorem wkO_0 {x : Int32} (h : wkO x = 0) : x = 0 := by
  unfold wkO at h
  by_cases e : x = 0
  · exact e
  · rw [if_neg e] at h
    by_cases e2 : x = 1
    · rw [if_pos e2] at h; exact absurd h (by decide)
    · rw [if_neg e2] at h; exact absurd h (by decide)
theorem wkT_0 {x : Int32} (h : wkT x = 0) : x = 0 := by
  unfold wkT at h
  by_cases e : x = 0
  · exact e
  · rw [if_neg e] at h; exact absurd h (by decide)
set_option maxHeartbeats 4000000 in
theorem th_officer (q : qC) (o : Int32) (rights : Int32) : tP q (m_X7_officer q o rights) := by
  unfold m_X7_officer
  repeat' (refine tp_p (fun _ => ?_) (fun _ => ?_))
  · exact tp_c
  · exact tp_0
  · exact tp_c
  · exact tp_c
theorem fs_officer {c : qC} {q8 : qM} (hRI : RI c q8) (o : Int32) (rights : Int32) : (m_X8_officer q8 o rights).1 0 0 = ((m_X7_officer c o rights).1) ∧ RI (zV ((m_X7_officer c o rights).1) ((m_X7_officer c o rights).2) c) (m_X8_officer q8 o rights) := by
  have hst := st_officer hRI o rights
  refine ⟨hst.1, ?_⟩
  unfold zV
  by_cases e : (m_X7_officer c o rights).1 = 0
  · rw [if_pos e]; exact hst.2
  · rw [if_neg e]
    have t := th_officer c o rights e
    have r := hst.2
    rw [t] at r
    exact r
set_option maxHeartbeats 4000000 in
theorem th_version (q : qC) (cl : Int32) (ev : Int32) (yr : Int32) (mo : Int32) (fa : Int32) (day : Int32) : tR q (m_X7_version q cl ev yr mo fa day) := by
  unfold m_X7_version
  repeat' (refine tr_p (fun _ => ?_) (fun _ => ?_))
  · exact tr_c
  · exact tr_c
  · exact tr_c
  · exact tr_0
  · exact tr_c
  · exact tr_c
  · exact tr_c
  · exact tr_c
  · exact tr_c
theorem fs_version {c : qC} {q8 : qM} (hRI : RI c q8) (cl : Int32) (ev : Int32) (yr : Int32) (mo : Int32) (fa : Int32) (day : Int32) : (m_X8_version q8 cl ev yr mo fa day).2.1 0 0 = ((m_X7_version c cl ev yr mo fa day).1) ∧ RI (zL ((m_X7_version c cl ev yr mo fa day).1) (Int32.toInt64 ((m_X7_version c cl ev yr mo fa day).2.1)) ((m_X7_version c cl ev yr mo fa day).2.2) c) (m_X8_version q8 cl ev yr mo fa day).2 ∧ (((m_X7_version c cl ev yr mo fa day).1) = 0 → ((zL ((m_X7_version c cl ev yr mo fa day).1) (Int32.toInt64 ((m_X7_version c cl ev yr mo fa day).2.1)) ((m_X7_version c cl ev yr mo fa day).2.2) c)).2 22 0 0 = (Int32.toInt64 (m_X8_version q8 cl ev yr mo fa day).1)) := by
  have hst := st_version hRI cl ev yr mo fa day
  unfold zL
  by_cases e : (m_X7_version c cl ev yr mo fa day).1 = 0
  · rw [if_pos e]
    refine ⟨hst.1, RI_22 hst.2.2, fun _ => ?_⟩
    rw [cq_same_l, hst.2.1 e]
  · rw [if_neg e]
    have t := th_version c cl ev yr mo fa day e
    have r := hst.2.2
    rw [t] at r
    exact ⟨hst.1, r, fun x => absurd x e⟩
set_option maxHeartbeats 4000000 in
theorem th_fiscal (q : qC) (month : Int32) : tP q (m_X7_fiscal q month) := by
  unfold m_X7_fiscal
  repeat' (refine tp_p (fun _ => ?_) (fun _ => ?_))
  · exact tp_c
  · exact tp_0
  · exact tp_c
  · exact tp_c
theorem fs_fiscal {c : qC} {q8 : qM} (hRI : RI c q8) (month : Int32) : (m_X8_fiscal q8 month).1 0 0 = (wkF (m_X7_fiscal c month).1) ∧ RI (zV ((m_X7_fiscal c month).1) ((m_X7_fiscal c month).2) c) (m_X8_fiscal q8 month) := by
  have hst := st_fiscal hRI month
  refine ⟨hst.1, ?_⟩
  unfold zV
  by_cases e : (m_X7_fiscal c month).1 = 0
  · rw [if_pos e]; exact hst.2
  · rw [if_neg e]
    have t := th_fiscal c month e
    have r := hst.2
    rw [t] at r
    exact r
set_option maxHeartbeats 4000000 in
theorem th_open (q : qC) (f : Int32) (cl : Int32) : tP q (m_X7_open q f cl) := by
  unfold m_X7_open
  repeat' (refine tp_p (fun _ => ?_) (fun _ => ?_))
  · exact tp_c
  · exact tp_c
  · exact tp_0
  · exact tp_c
  · exact tp_c
  · exact tp_c
  · exact tp_c
theorem fs_open {c : qC} {q8 : qM} (hRI : RI c q8) (f : Int32) (cl : Int32) : (m_X8_open q8 f cl).1 0 0 = (wkO (m_X7_open c f cl).1) ∧ RI (zV ((m_X7_open c f cl).1) ((m_X7_open c f cl).2) c) (m_X8_open q8 f cl) := by
  have hst := st_open hRI f cl
  refine ⟨hst.1, ?_⟩
  unfold zV
  by_cases e : (m_X7_open c f cl).1 = 0
  · rw [if_pos e]; exact hst.2
  · rw [if_neg e]
    have t := th_open c f cl e
    have r := hst.2
    rw [t] at r
    exact r
set_option maxHeartbeats 4000000 in
theorem th_close (q : qC) (f : Int32) (day : Int32) : tP q (m_X7_close q f day) := by
  unfold m_X7_close
  repeat' (refine tp_p (fun _ => ?_) (fun _ => ?_))
  · exact tp_0
  · exact tp_c
  · exact tp_c
  · exact tp_c
  · exact tp_c
theorem fs_close {c : qC} {q8 : qM} (hRI : RI c q8) (f : Int32) (day : Int32) : (m_X8_close q8 f day).1 0 0 = ((m_X7_close c f day).1) ∧ RI (zV ((m_X7_close c f day).1) ((m_X7_close c f day).2) c) (m_X8_close q8 f day) := by
  have hst := st_close hRI f day
  refine ⟨hst.1, ?_⟩
  unfold zV
  by_cases e : (m_X7_close c f day).1 = 0
  · rw [if_pos e]; exact hst.2
  · rw [if_neg e]
    have t := th_close c f day e
    have r := hst.2
    rw [t] at r
    exact r
set_option maxHeartbeats 4000000 in
theorem th_left (q : qC) (f : Int32) (day : Int32) : tP q (m_X7_left q f day) := by
  unfold m_X7_left
  repeat' (refine tp_p (fun _ => ?_) (fun _ => ?_))
  · exact tp_0
  · exact tp_c
  · exact tp_c
  · exact tp_c
  · exact tp_c
theorem fs_left {c : qC} {q8 : qM} (hRI : RI c q8) (f : Int32) (day : Int32) : (m_X8_left q8 f day).1 0 0 = ((m_X7_left c f day).1) ∧ RI (zV ((m_X7_left c f day).1) ((m_X7_left c f day).2) c) (m_X8_left q8 f day) := by
  have hst := st_left hRI f day
  refine ⟨hst.1, ?_⟩
  unfold zV
  by_cases e : (m_X7_left c f day).1 = 0
  · rw [if_pos e]; exact hst.2
  · rw [if_neg e]
    have t := th_left c f day e
    have r := hst.2
    rw [t] at r
    exact r
set_option maxHeartbeats 4000000 in
theorem th_file (q : qC) (f : Int32) (size : Int32) (dg : Int64) (ka : Int32) (kb : Int32) (kc : Int32) (day : Int32) : tR q (m_X7_file q f size dg ka kb kc day) := by
  unfold m_X7_file
  repeat' (refine tr_p (fun _ => ?_) (fun _ => ?_))
  · exact tr_c
  · exact tr_0
  · exact tr_c
  · exact tr_c
  · exact tr_c
  · exact tr_c
  · exact tr_c
  · exact tr_c
  · exact tr_c
  · exact tr_c
  · exact tr_c
theorem fs_file {c : qC} {q8 : qM} (hRI : RI c q8) (f : Int32) (size : Int32) (dg : Int64) (ka : Int32) (kb : Int32) (kc : Int32) (day : Int32) : (m_X8_file q8 f size dg ka kb kc day).2.1 0 0 = ((m_X7_file c f size dg ka kb kc day).1) ∧ RI (zL ((m_X7_file c f size dg ka kb kc day).1) (Int32.toInt64 ((m_X7_file c f size dg ka kb kc day).2.1)) ((m_X7_file c f size dg ka kb kc day).2.2) c) (m_X8_file q8 f size dg ka kb kc day).2 ∧ (((m_X7_file c f size dg ka kb kc day).1) = 0 → ((zL ((m_X7_file c f size dg ka kb kc day).1) (Int32.toInt64 ((m_X7_file c f size dg ka kb kc day).2.1)) ((m_X7_file c f size dg ka kb kc day).2.2) c)).2 22 0 0 = (Int32.toInt64 (m_X8_file q8 f size dg ka kb kc day).1)) := by
  have hst := st_file hRI f size dg ka kb kc day
  unfold zL
  by_cases e : (m_X7_file c f size dg ka kb kc day).1 = 0
  · rw [if_pos e]
    refine ⟨hst.1, RI_22 hst.2.2, fun _ => ?_⟩
    rw [cq_same_l, hst.2.1 e]
  · rw [if_neg e]
    have t := th_file c f size dg ka kb kc day e
    have r := hst.2.2
    rw [t] at r
    exact ⟨hst.1, r, fun x => absurd x e⟩
set_option maxHeartbeats 4000000 in
theorem th_hold (q : qC) (h : Int32) (f : Int32) (cl : Int32) (key : Int32) (fi : Int32) (la : Int32) : tP q (m_X7_hold q h f cl key fi la) := by
  unfold m_X7_hold
  repeat' (refine tp_p (fun _ => ?_) (fun _ => ?_))
  · exact tp_c
  · exact tp_0
  · exact tp_c
  · exact tp_c
  · exact tp_c
  · exact tp_c
  · exact tp_c
  · exact tp_c
  · exact tp_0
  · exact tp_c
  · exact tp_c
  · exact tp_c
  · exact tp_c
  · exact tp_c
  · exact tp_c
  · exact tp_c
  · exact tp_c
  · exact tp_c
theorem fs_hold {c : qC} {q8 : qM} (hRI : RI c q8) (h : Int32) (f : Int32) (cl : Int32) (key : Int32) (fi : Int32) (la : Int32) : (m_X8_hold q8 h f cl key fi la).1 0 0 = ((m_X7_hold c h f cl key fi la).1) ∧ RI (zV ((m_X7_hold c h f cl key fi la).1) ((m_X7_hold c h f cl key fi la).2) c) (m_X8_hold q8 h f cl key fi la) := by
  have hst := st_hold hRI h f cl key fi la
  refine ⟨hst.1, ?_⟩
  unfold zV
  by_cases e : (m_X7_hold c h f cl key fi la).1 = 0
  · rw [if_pos e]; exact hst.2
  · rw [if_neg e]
    have t := th_hold c h f cl key fi la e
    have r := hst.2
    rw [t] at r
    exact r
set_option maxHeartbeats 4000000 in
theorem th_lift (q : qC) (h : Int32) : tP q (m_X7_lift q h) := by
  unfold m_X7_lift
  repeat' (refine tp_p (fun _ => ?_) (fun _ => ?_))
  · exact tp_c
  · exact tp_0
  · exact tp_c
  · exact tp_c
theorem fs_lift {c : qC} {q8 : qM} (hRI : RI c q8) (h : Int32) : (m_X8_lift q8 h).1 0 0 = (wkO (m_X7_lift c h).1) ∧ RI (zV ((m_X7_lift c h).1) ((m_X7_lift c h).2) c) (m_X8_lift q8 h) := by
  have hst := st_lift hRI h
  refine ⟨hst.1, ?_⟩
  unfold zV
  by_cases e : (m_X7_lift c h).1 = 0
  · rw [if_pos e]; exact hst.2
  · rw [if_neg e]
    have t := th_lift c h e
    have r := hst.2
    rw [t] at r
    exact r
theorem fs_covered {c : qC} {q8 : qM} (hRI : RI c q8) (r : Int32) : (m_X8_covered q8 r).2.1 0 0 = ((m_X7_covered c r).1) ∧ RI (zL ((m_X7_covered c r).1) (Int32.toInt64 ((m_X7_covered c r).2)) (c) c) (m_X8_covered q8 r).2 ∧ (((m_X7_covered c r).1) = 0 → ((zL ((m_X7_covered c r).1) (Int32.toInt64 ((m_X7_covered c r).2)) (c) c)).2 22 0 0 = (Int32.toInt64 (m_X8_covered q8 r).1)) := by
  have hst := st_covered hRI r
  unfold zL
  by_cases e : (m_X7_covered c r).1 = 0
  · rw [if_pos e]
    refine ⟨hst.1, RI_22 hst.2.2, fun _ => ?_⟩
    rw [cq_same_l, hst.2.1 e]
  · rw [if_neg e]
    exact ⟨hst.1, hst.2.2, fun x => absurd x e⟩
theorem fs_due {c : qC} {q8 : qM} (hRI : RI c q8) (r : Int32) : (m_X8_due q8 r).2.1 0 0 = ((m_X7_due c r).1) ∧ RI (zL ((m_X7_due c r).1) (Int32.toInt64 ((m_X7_due c r).2)) (c) c) (m_X8_due q8 r).2 ∧ (((m_X7_due c r).1) = 0 → ((zL ((m_X7_due c r).1) (Int32.toInt64 ((m_X7_due c r).2)) (c) c)).2 22 0 0 = (Int32.toInt64 (m_X8_due q8 r).1)) := by
  have hst := st_due hRI r
  unfold zL
  by_cases e : (m_X7_due c r).1 = 0
  · rw [if_pos e]
    refine ⟨hst.1, RI_22 hst.2.2, fun _ => ?_⟩
    rw [cq_same_l, hst.2.1 e]
  · rw [if_neg e]
    exact ⟨hst.1, hst.2.2, fun x => absurd x e⟩
theorem fs_record {c : qC} {q8 : qM} (hRI : RI c q8) (r : Int32) (what : Int32) : (m_X8_record q8 r what).2.1 0 0 = ((m_X7_record c r what).1) ∧ RI (zL ((m_X7_record c r what).1) (Int32.toInt64 ((m_X7_record c r what).2)) (c) c) (m_X8_record q8 r what).2 ∧ (((m_X7_record c r what).1) = 0 → ((zL ((m_X7_record c r what).1) (Int32.toInt64 ((m_X7_record c r what).2)) (c) c)).2 22 0 0 = (Int32.toInt64 (m_X8_record q8 r what).1)) := by
  have hst := st_record hRI r what
  unfold zL
  by_cases e : (m_X7_record c r what).1 = 0
  · rw [if_pos e]
    refine ⟨hst.1, RI_22 hst.2.2, fun _ => ?_⟩
    rw [cq_same_l, hst.2.1 e]
  · rw [if_neg e]
    exact ⟨hst.1, hst.2.2, fun x => absurd x e⟩
theorem fs_read {c : qC} {q8 : qM} (hRI : RI c q8) (r : Int32) : (m_X8_read q8 r).2.1 0 0 = (wkO (m_X7_read c r).1) ∧ RI (zL ((m_X7_read c r).1) ((m_X7_read c r).2) (c) c) (m_X8_read q8 r).2 ∧ ((wkO (m_X7_read c r).1) = 0 → ((zL ((m_X7_read c r).1) ((m_X7_read c r).2) (c) c)).2 22 0 0 = (m_X8_read q8 r).1) := by
  have hst := st_read hRI r
  unfold zL
  by_cases e : (m_X7_read c r).1 = 0
  · rw [if_pos e]
    refine ⟨hst.1, RI_22 hst.2.2, fun _ => ?_⟩
    rw [cq_same_l, hst.2.1 e]
  · rw [if_neg e]
    exact ⟨hst.1, hst.2.2, fun x => absurd (wkO_0 x) e⟩
theorem fs_find {c : qC} {q8 : qM} (hRI : RI c q8) (key : Int32) (fi : Int32) (la : Int32) (k : Int32) : (m_X8_find q8 key fi la k).2.1 0 0 = (wkT (m_X7_find c key fi la k).1) ∧ RI (zL ((m_X7_find c key fi la k).1) (Int32.toInt64 ((m_X7_find c key fi la k).2)) (c) c) (m_X8_find q8 key fi la k).2 ∧ ((wkT (m_X7_find c key fi la k).1) = 0 → ((zL ((m_X7_find c key fi la k).1) (Int32.toInt64 ((m_X7_find c key fi la k).2)) (c) c)).2 22 0 0 = (Int32.toInt64 (m_X8_find q8 key fi la k).1)) := by
  have hst := st_find hRI key fi la k
  unfold zL
  by_cases e : (m_X7_find c key fi la k).1 = 0
  · rw [if_pos e]
    refine ⟨hst.1, RI_22 hst.2.2, fun _ => ?_⟩
    rw [cq_same_l, hst.2.1 e]
  · rw [if_neg e]
    exact ⟨hst.1, hst.2.2, fun x => absurd (wkT_0 x) e⟩
set_option maxHeartbeats 4000000 in
theorem th_draw (q : qC) (o : Int32) (day : Int32) : tR q (m_X7_draw q o day) := by
  unfold m_X7_draw
  repeat' (refine tr_p (fun _ => ?_) (fun _ => ?_))
  · exact tr_c
  · exact tr_0
  · exact tr_c
  · exact tr_c
  · exact tr_c
  · exact tr_c
  · exact tr_c
theorem fs_draw {c : qC} {q8 : qM} (hRI : RI c q8) (o : Int32) (day : Int32) : (m_X8_draw q8 o day).2.1 0 0 = ((m_X7_draw c o day).1) ∧ RI (zL ((m_X7_draw c o day).1) (Int32.toInt64 ((m_X7_draw c o day).2.1)) ((m_X7_draw c o day).2.2) c) (m_X8_draw q8 o day).2 ∧ (((m_X7_draw c o day).1) = 0 → ((zL ((m_X7_draw c o day).1) (Int32.toInt64 ((m_X7_draw c o day).2.1)) ((m_X7_draw c o day).2.2) c)).2 22 0 0 = (Int32.toInt64 (m_X8_draw q8 o day).1)) := by
  have hst := st_draw hRI o day
  unfold zL
  by_cases e : (m_X7_draw c o day).1 = 0
  · rw [if_pos e]
    refine ⟨hst.1, RI_22 hst.2.2, fun _ => ?_⟩
    rw [cq_same_l, hst.2.1 e]
  · rw [if_neg e]
    have t := th_draw c o day e
    have r := hst.2.2
    rw [t] at r
    exact ⟨hst.1, r, fun x => absurd x e⟩
theorem fs_listed {c : qC} {q8 : qM} (hRI : RI c q8) (li : Int32) (i : Int32) : (m_X8_listed q8 li i).2.1 0 0 = ((m_X7_listed c li i).1) ∧ RI (zL ((m_X7_listed c li i).1) (Int32.toInt64 ((m_X7_listed c li i).2)) (c) c) (m_X8_listed q8 li i).2 ∧ (((m_X7_listed c li i).1) = 0 → ((zL ((m_X7_listed c li i).1) (Int32.toInt64 ((m_X7_listed c li i).2)) (c) c)).2 22 0 0 = (Int32.toInt64 (m_X8_listed q8 li i).1)) := by
  have hst := st_listed hRI li i
  unfold zL
  by_cases e : (m_X7_listed c li i).1 = 0
  · rw [if_pos e]
    refine ⟨hst.1, RI_22 hst.2.2, fun _ => ?_⟩
    rw [cq_same_l, hst.2.1 e]
  · rw [if_neg e]
    exact ⟨hst.1, hst.2.2, fun x => absurd x e⟩
set_option maxHeartbeats 4000000 in
theorem th_approve (q : qC) (li : Int32) (o : Int32) : tR q (m_X7_approve q li o) := by
  unfold m_X7_approve
  repeat' (refine tr_p (fun _ => ?_) (fun _ => ?_))
  · exact tr_c
  · exact tr_0
  · exact tr_c
  · exact tr_c
  · exact tr_c
  · exact tr_c
  · exact tr_c
  · exact tr_c
theorem fs_approve {c : qC} {q8 : qM} (hRI : RI c q8) (li : Int32) (o : Int32) : (m_X8_approve q8 li o).2.1 0 0 = (wkO (m_X7_approve c li o).1) ∧ RI (zL ((m_X7_approve c li o).1) (Int32.toInt64 ((m_X7_approve c li o).2.1)) ((m_X7_approve c li o).2.2) c) (m_X8_approve q8 li o).2 ∧ ((wkO (m_X7_approve c li o).1) = 0 → ((zL ((m_X7_approve c li o).1) (Int32.toInt64 ((m_X7_approve c li o).2.1)) ((m_X7_approve c li o).2.2) c)).2 22 0 0 = (Int32.toInt64 (m_X8_approve q8 li o).1)) := by
  have hst := st_approve hRI li o
  unfold zL
  by_cases e : (m_X7_approve c li o).1 = 0
  · rw [if_pos e]
    refine ⟨hst.1, RI_22 hst.2.2, fun _ => ?_⟩
    rw [cq_same_l, hst.2.1 e]
  · rw [if_neg e]
    have t := th_approve c li o e
    have r := hst.2.2
    rw [t] at r
    exact ⟨hst.1, r, fun x => absurd (wkO_0 x) e⟩
set_option maxHeartbeats 4000000 in
theorem th_strike (q : qC) (li : Int32) (r : Int32) : tR q (m_X7_strike q li r) := by
  unfold m_X7_strike
  repeat' (refine tr_p (fun _ => ?_) (fun _ => ?_))
  · exact tr_c
  · exact tr_0
  · exact tr_c
  · exact tr_c
  · exact tr_c
theorem fs_strike {c : qC} {q8 : qM} (hRI : RI c q8) (li : Int32) (r : Int32) : (m_X8_strike q8 li r).2.1 0 0 = (wkO (m_X7_strike c li r).1) ∧ RI (zL ((m_X7_strike c li r).1) (Int32.toInt64 ((m_X7_strike c li r).2.1)) ((m_X7_strike c li r).2.2) c) (m_X8_strike q8 li r).2 ∧ ((wkO (m_X7_strike c li r).1) = 0 → ((zL ((m_X7_strike c li r).1) (Int32.toInt64 ((m_X7_strike c li r).2.1)) ((m_X7_strike c li r).2.2) c)).2 22 0 0 = (Int32.toInt64 (m_X8_strike q8 li r).1)) := by
  have hst := st_strike hRI li r
  unfold zL
  by_cases e : (m_X7_strike c li r).1 = 0
  · rw [if_pos e]
    refine ⟨hst.1, RI_22 hst.2.2, fun _ => ?_⟩
    rw [cq_same_l, hst.2.1 e]
  · rw [if_neg e]
    have t := th_strike c li r e
    have r := hst.2.2
    rw [t] at r
    exact ⟨hst.1, r, fun x => absurd (wkO_0 x) e⟩
set_option maxHeartbeats 4000000 in
theorem th_carry (q : qC) (li : Int32) (o : Int32) (day : Int32) : tR q (m_X7_carry q li o day) := by
  unfold m_X7_carry
  repeat' (refine tr_p (fun _ => ?_) (fun _ => ?_))
  · exact tr_0
  · exact tr_c
  · exact tr_c
  · exact tr_c
  · exact tr_c
  · exact tr_c
  · exact tr_c
  · exact tr_c
theorem fs_carry {c : qC} {q8 : qM} (hRI : RI c q8) (li : Int32) (o : Int32) (day : Int32) : (m_X8_carry q8 li o day).2.1 0 0 = ((m_X7_carry c li o day).1) ∧ RI (zL ((m_X7_carry c li o day).1) (Int32.toInt64 ((m_X7_carry c li o day).2.1)) ((m_X7_carry c li o day).2.2) c) (m_X8_carry q8 li o day).2 ∧ (((m_X7_carry c li o day).1) = 0 → ((zL ((m_X7_carry c li o day).1) (Int32.toInt64 ((m_X7_carry c li o day).2.1)) ((m_X7_carry c li o day).2.2) c)).2 22 0 0 = (Int32.toInt64 (m_X8_carry q8 li o day).1)) := by
  have hst := st_carry hRI li o day
  unfold zL
  by_cases e : (m_X7_carry c li o day).1 = 0
  · rw [if_pos e]
    refine ⟨hst.1, RI_22 hst.2.2, fun _ => ?_⟩
    rw [cq_same_l, hst.2.1 e]
  · rw [if_neg e]
    have t := th_carry c li o day e
    have r := hst.2.2
    rw [t] at r
    exact ⟨hst.1, r, fun x => absurd x e⟩
theorem fs_count {c : qC} {q8 : qM} (hRI : RI c q8) (what : Int32) : (m_X8_count q8 what).2.1 0 0 = (wkT (m_X7_count c what).1) ∧ RI (zL ((m_X7_count c what).1) (Int32.toInt64 ((m_X7_count c what).2)) (c) c) (m_X8_count q8 what).2 ∧ ((wkT (m_X7_count c what).1) = 0 → ((zL ((m_X7_count c what).1) (Int32.toInt64 ((m_X7_count c what).2)) (c) c)).2 22 0 0 = (Int32.toInt64 (m_X8_count q8 what).1)) := by
  have hst := st_count hRI what
  unfold zL
  by_cases e : (m_X7_count c what).1 = 0
  · rw [if_pos e]
    refine ⟨hst.1, RI_22 hst.2.2, fun _ => ?_⟩
    rw [cq_same_l, hst.2.1 e]
  · rw [if_neg e]
    exact ⟨hst.1, hst.2.2, fun x => absurd (wkT_0 x) e⟩
theorem fs_act {c : qC} {q8 : qM} (hRI : RI c q8) (i : Int32) (what : Int32) : (m_X8_act q8 i what).2.1 0 0 = ((m_X7_act c i what).1) ∧ RI (zL ((m_X7_act c i what).1) (Int32.toInt64 ((m_X7_act c i what).2)) (c) c) (m_X8_act q8 i what).2 ∧ (((m_X7_act c i what).1) = 0 → ((zL ((m_X7_act c i what).1) (Int32.toInt64 ((m_X7_act c i what).2)) (c) c)).2 22 0 0 = (Int32.toInt64 (m_X8_act q8 i what).1)) := by
  have hst := st_act hRI i what
  unfold zL
  by_cases e : (m_X7_act c i what).1 = 0
  · rw [if_pos e]
    refine ⟨hst.1, RI_22 hst.2.2, fun _ => ?_⟩
    rw [cq_same_l, hst.2.1 e]
  · rw [if_neg e]
    exact ⟨hst.1, hst.2.2, fun x => absurd x e⟩
theorem fs_link {c : qC} {q8 : qM} (hRI : RI c q8) (i : Int32) : (m_X8_link q8 i).2.1 0 0 = ((m_X7_link c i).1) ∧ RI (zL ((m_X7_link c i).1) ((m_X7_link c i).2) (c) c) (m_X8_link q8 i).2 ∧ (((m_X7_link c i).1) = 0 → ((zL ((m_X7_link c i).1) ((m_X7_link c i).2) (c) c)).2 22 0 0 = (m_X8_link q8 i).1) := by
  have hst := st_link hRI i
  unfold zL
  by_cases e : (m_X7_link c i).1 = 0
  · rw [if_pos e]
    refine ⟨hst.1, RI_22 hst.2.2, fun _ => ?_⟩
    rw [cq_same_l, hst.2.1 e]
  · rw [if_neg e]
    exact ⟨hst.1, hst.2.2, fun x => absurd x e⟩
set_option maxHeartbeats 4000000 in
theorem th_spoil (q : qC) (i : Int32) (what : Int32) (v : Int32) : tP q (m_X7_spoil q i what v) := by
  unfold m_X7_spoil
  repeat' (refine tp_p (fun _ => ?_) (fun _ => ?_))
  · exact tp_0
  · exact tp_c
  · exact tp_c
theorem fs_spoil {c : qC} {q8 : qM} (hRI : RI c q8) (i : Int32) (what : Int32) (v : Int32) : (m_X8_spoil q8 i what v).1 0 0 = ((m_X7_spoil c i what v).1) ∧ RI (zV ((m_X7_spoil c i what v).1) ((m_X7_spoil c i what v).2) c) (m_X8_spoil q8 i what v) := by
  have hst := st_spoil hRI i what v
  refine ⟨hst.1, ?_⟩
  unfold zV
  by_cases e : (m_X7_spoil c i what v).1 = 0
  · rw [if_pos e]; exact hst.2
  · rw [if_neg e]
    have t := th_spoil c i what v e
    have r := hst.2
    rw [t] at r
    exact r
theorem fs_later {c : qC} {q8 : qM} (hRI : RI c q8) (day : Int32) (yr : Int32) (mo : Int32) : (m_X8_later q8 day yr mo).2.1 0 0 = (wkT (m_X7_later day yr mo).1) ∧ RI (zL ((m_X7_later day yr mo).1) (Int32.toInt64 ((m_X7_later day yr mo).2)) (c) c) (m_X8_later q8 day yr mo).2 ∧ ((wkT (m_X7_later day yr mo).1) = 0 → ((zL ((m_X7_later day yr mo).1) (Int32.toInt64 ((m_X7_later day yr mo).2)) (c) c)).2 22 0 0 = (Int32.toInt64 (m_X8_later q8 day yr mo).1)) := by
  have hst := st_later hRI day yr mo
  unfold zL
  by_cases e : (m_X7_later day yr mo).1 = 0
  · rw [if_pos e]
    refine ⟨hst.1, RI_22 hst.2.2, fun _ => ?_⟩
    rw [cq_same_l, hst.2.1 e]
  · rw [if_neg e]
    exact ⟨hst.1, hst.2.2, fun x => absurd (wkT_0 x) e⟩
