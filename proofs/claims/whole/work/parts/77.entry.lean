/-! THE ENTRY: what the Statement gives at the law's start -/
theorem en_L {C n d : String} {s : State} {A B : Array Value} (h1 : (Cond.laysStatic C n d).before A s = true) (h2 : (Cond.isRef (.static C n d)).before B s = true) : os_L C n d s.heap.size s := by
  obtain ⟨c, k, i, f, a, cell, hc, hi, hst, hsa, hcell, hss, hcls, hlt, hty⟩ := Cond.laysStatic_spec h1
  refine ⟨c, k, i, f, a, cell, cell.slots[f.slot], hc, hi, hst, hsa, hcell, hss, hcls, hlt, hty, (Array.getElem?_eq_some_iff.mp hcell).1, Array.getElem?_eq_getElem hlt, ?_⟩
  have he : (Term.static C n d).eval B s none [] s = some cell.slots[f.slot] := by
    simp [Term.eval, State.fieldNamed?, hi, hst, hsa, hcell, hss, hlt]
  simp only [Cond.before, Cond.holds, Cond.value, he] at h2
  revert h2
  cases cell.slots[f.slot] <;> simp [Value.isRef]
theorem en_p {ty : FieldType} {s : State} {A : Array Value} (h : (Cond.arrayClass ty).before A s = true) (ho : ∀ C, ty ≠ .object C) : ∃ c, ArrOfT s c ty ∧ va_RA s c ty := by
  obtain ⟨c, k, comp, h1, h2, h3⟩ := Cond.arrayClass_spec h
  refine ⟨c, fun n z => ⟨fun k h => (by cases h), k, h2, comp, h3⟩, ?_⟩
  cases ty with
  | object C => exact absurd rfl (ho C)
  | _ => exact h1
theorem en_o {C : String} {s : State} {A : Array Value} (h : (Cond.arrayOver (.object C)).before A s = true) : ∃ c, ArrOfT s c (.object C) ∧ va_RA s c (.object C) := by
  obtain ⟨comp, c, k, h1, -, h2, h3, h4⟩ := Cond.arrayOver_spec h
  exact ⟨c, fun n z => ⟨fun k h => (by cases h), k, h2, comp, h3⟩, k, comp, h2, h3, h1, h4⟩
theorem en_str : ∀ q ∈ os_str, q.1 = "RobotFaults" ∧ Cond.stringRef q.1 q.2.1 q.2.2 ∈ lw_tbl := by decide +kernel
set_option maxHeartbeats 4000000 in
theorem os_enter {s : State} {A : Array Value} (hts : ∀ w ∈ lw_tbl, w.before A s = true) (hgv : (Jvm.Cond.and given_1 narrow_1).before A s = true) : ∃ D cA, os_EV D cA s.heap.size s ∧ os_NC s := by
  have h1 : ∀ w ∈ os_tb, w.before #[] s = true := fun w hw => os_okw (os_tb_ok w hw) (State.WarmedH.refl s) (hts w (List.mem_filter.mp hw).1)
  have hg := flat_of_before _ hgv
  obtain ⟨c0, i0, hK0⟩ := u_known (C := "RobotFaults") (T := F_RF) (N := 11) (n := 11) h1 i_RF (h1 _ k_19)
  obtain ⟨c1, i1, hK1⟩ := u_known (C := "RobotFaults$Track") (T := F_Track) (N := 2) (n := 2) h1 i_Track (h1 _ k_27)
  obtain ⟨c2, i2, hK2⟩ := u_known (C := "RobotFaults$Rule") (T := F_Rule) (N := 3) (n := 3) h1 i_Rule (h1 _ k_50)
  obtain ⟨c3, i3, hK3⟩ := u_known (C := "RobotFaults$Robot") (T := F_Robot) (N := 6) (n := 6) h1 i_Robot (h1 _ k_289)
  obtain ⟨c4, i4, hK4⟩ := u_known (C := "RobotFaults$Fault") (T := F_Fault) (N := 11) (n := 11) h1 i_Fault (h1 _ k_412)
  obtain ⟨c5, i5, hK5⟩ := u_known (C := "RobotFaults$Alarm") (T := F_Alarm) (N := 8) (n := 8) h1 i_Alarm (h1 _ k_476)
  obtain ⟨c6, i6, hK6⟩ := u_known (C := "RobotFaults$Planted") (T := F_Planted) (N := 3) (n := 3) h1 i_Planted (h1 _ k_621)
  obtain ⟨c7, i7, hK7⟩ := u_known (C := "RobotFaultsModel") (T := F_Model) (N := 38) (n := 38) h1 i_Model (h1 _ k_720)
  obtain ⟨a0, hA0⟩ := en_p (h1 _ k_39) (fun C h => by cases h)
  obtain ⟨a1, hA1⟩ := en_p (h1 _ k_840) (fun C h => by cases h)
  obtain ⟨a2, hA2⟩ := en_p (h1 _ k_987) (fun C h => by cases h)
  obtain ⟨a3, hA3⟩ := en_o (h1 _ k_41)
  obtain ⟨a4, hA4⟩ := en_o (h1 _ k_43)
  obtain ⟨a5, hA5⟩ := en_o (h1 _ k_45)
  obtain ⟨a6, hA6⟩ := en_o (h1 _ k_47)
  obtain ⟨a7, hA7⟩ := en_o (h1 _ k_49)
  refine ⟨(fun k => if k = 0 then c0 else if k = 1 then c1 else if k = 2 then c2 else if k = 3 then c3 else if k = 4 then c4 else if k = 5 then c5 else if k = 6 then c6 else c7, fun k => if k = 0 then i0 else if k = 1 then i1 else if k = 2 then i2 else if k = 3 then i3 else if k = 4 then i4 else if k = 5 then i5 else if k = 6 then i6 else i7), fun k => if k = 0 then a0 else if k = 1 then a1 else if k = 2 then a2 else if k = 3 then a3 else if k = 4 then a4 else if k = 5 then a5 else if k = 6 then a6 else a7, ⟨h1, ⟨?_, ?_⟩, Nat.le_refl _, ?_, ?_, ?_⟩, ?_⟩
  · intro k q hq
    match k, hq with
    | 0, hq => cases hq; exact hK0
    | 1, hq => cases hq; exact hK1
    | 2, hq => cases hq; exact hK2
    | 3, hq => cases hq; exact hK3
    | 4, hq => cases hq; exact hK4
    | 5, hq => cases hq; exact hK5
    | 6, hq => cases hq; exact hK6
    | 7, hq => cases hq; exact hK7
    | k + 8, hq => simp [os_cl] at hq
  · intro k q hq
    match k, hq with
    | 0, hq => cases hq; exact hA0
    | 1, hq => cases hq; exact hA1
    | 2, hq => cases hq; exact hA2
    | 3, hq => cases hq; exact hA3
    | 4, hq => cases hq; exact hA4
    | 5, hq => cases hq; exact hA5
    | 6, hq => cases hq; exact hA6
    | 7, hq => cases hq; exact hA7
    | k + 8, hq => simp [os_tys] at hq
  · exact en_L (hts _ (List.mem_of_getElem? (i := 215) (by decide +kernel))) (hg _ (by decide +kernel))
  · exact en_L (hts _ (List.mem_of_getElem? (i := 217) (by decide +kernel))) (hg _ (by decide +kernel))
  · intro q hq
    obtain ⟨e1, e2⟩ := en_str q hq
    obtain ⟨k, cf, i, a, -, -, -, -, -, he⟩ := Cond.stringRef_spec (show s.vm.findClass q.1 = some c0 from by rw [e1]; exact hK0.2.1) (hts _ e2)
    exact ⟨a, vk_R.of (hts _ e2) he⟩
  · intro q hq
    simp only [os_ncl, List.mem_cons, List.not_mem_nil, or_false] at hq
    rcases hq with rfl | rfl | rfl | rfl | rfl | rfl
    all_goals exact va_Nc.of (hg _ (by decide +kernel))
