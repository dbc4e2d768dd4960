/-! THE CLASS'S SMALL METHODS -/
def bz (b : Bool) : Int32 := if b = true then 1 else 0
theorem bz_nar (b : Bool) : narrow .boolean (.int (bz b)) = .int (bz b) := by cases b <;> rfl
theorem bz_fit (b : Bool) : fits .boolean (.int (bz b)) = true := by cases b <;> rfl
theorem bz_1 {b : Bool} (h : ¬ bz b = 0) : b = true := by cases b with
  | true => rfl
  | false => exact absurd rfl h
theorem bz_0 {b : Bool} (h : bz b = 0) : b = false := by cases b with
  | true => cases h
  | false => rfl
/-- it changes nothing and returns v -/
def pv (σ : os_S) (ad : Nat → Nat → Nat) (v : Option Value) : os_O → os_S → (Nat → Nat → Nat) → Prop := fun r σ' ad' => σ = σ' ∧ ad = ad' ∧ r = .inl v
/-- it changes nothing, returns v where c holds, else throws E -/
def pt (σ : os_S) (ad : Nat → Nat → Nat) (c : Prop) (v : Option Value) (E : String) : os_O → os_S → (Nat → Nat → Nat) → Prop := fun r σ' ad' => σ = σ' ∧ ad = ad' ∧ ((c ∧ r = .inl v) ∨ (¬ c ∧ r = .inr E))
def rf_holds (x k : Int32) : Bool := decide ((x >>> (k &&& 31)) &&& 1 = 1)
set_option maxHeartbeats 4000000 in
set_option maxRecDepth 100000 in
theorem c_RF_holds (l : Launch) (hlt : l.stackTraces = false) (D : va_G) (cA : Nat → ClassId) (bs : Nat) (σ : os_S) (ad : Nat → Nat → Nat) (x k : Int32) : os_Met l y_RF_holds prog_1_method_30_code 2 (some .boolean) { frames := 0, cells := 0, slots := 0, locals := 0 } D cA bs [.int x, .int k] σ ad (pv σ ad (some (.int (bz (rf_holds x k))))) := by
  refine os_ofW (by decide) ?_
  intro p e s m below meth c hx hb hr hml hown hlocks hmn hout hE hV
  have hts := hE.hts (args := ([.int x, .int k] : List Value).toArray)
  have hK := hE.2.1
  have hbs := hE.2.2.1
  have hown : s.vm.findClass "RobotFaults" = some m.cls := hown
  have hl := lv_entry ([.int x, .int k]) (n := 2) (Nat.le_of_ble_eq_true rfl)
  rw [lg_entry_eq]
  generalize (lg_sl ([.int x, .int k]) ++ List.replicate (2 - (lg_sl ([.int x, .int k])).length) Slot.unset).toArray = ls at hl ⊢
  have hl : lv_has ls 2 [(0, .int x), (1, .int k)] := hl
  refine lv_iload_n hx hb d_RF_holds_0 rfl (lv_at hl 0 rfl) ?_
  refine lv_iload_n hx hb d_RF_holds_1 rfl (lv_at hl 1 rfl) ?_
  refine lv_ishr hx hb d_RF_holds_2 ?_
  refine lv_iconst (v := 1) hx hb d_RF_holds_3 (by decide) ?_
  refine lv_iand hx hb d_RF_holds_4 ?_
  refine lv_iconst (v := 1) hx hb d_RF_holds_5 (by decide) ?_
  refine lv_icmp_ne (tgt := 13) hx hb d_RF_holds_6 (by decide) (fun c_1 => ?_) (fun c_1 => ?_)
  · skip
    refine lv_iconst (v := 0) hx hb d_RF_holds_13 (by decide) ?_
    refine os_zret hx hb hr rfl hlocks hV (Nat.le_of_ble_eq_true rfl) (Nat.le_of_ble_eq_true rfl) d_RF_holds_14 ?_
    exact ⟨rfl, rfl, by simp [bz, rf_holds, c_1]⟩
  · skip
    refine lv_iconst (v := 1) hx hb d_RF_holds_9 (by decide) ?_
    refine lv_goto (tgt := 14) hx hb d_RF_holds_10 (by decide) ?_
    refine os_zret hx hb hr rfl hlocks hV (Nat.le_of_ble_eq_true rfl) (Nat.le_of_ble_eq_true rfl) d_RF_holds_14 ?_
    exact ⟨rfl, rfl, by simp [bz, rf_holds, c_1]⟩
set_option maxHeartbeats 4000000 in
set_option maxRecDepth 100000 in
theorem c_RF_needKind (l : Launch) (hlt : l.stackTraces = false) (D : va_G) (cA : Nat → ClassId) (bs : Nat) (σ : os_S) (ad : Nat → Nat → Nat) (k : Int32) : os_Met l y_RF_needKind prog_1_method_27_code 1 none { frames := 6, cells := 1, slots := 6, locals := 96 } D cA bs [.int k] σ ad (pt σ ad (¬ k < 0 ∧ k < 8) none "java/lang/IllegalArgumentException") := by
  refine os_ofW (by decide) ?_
  intro p e s m below meth c hx hb hr hml hown hlocks hmn hout hE hV
  have hts := hE.hts (args := ([.int k] : List Value).toArray)
  have hK := hE.2.1
  have hbs := hE.2.2.1
  have hown : s.vm.findClass "RobotFaults" = some m.cls := hown
  have hl := lv_entry ([.int k]) (n := 1) (Nat.le_of_ble_eq_true rfl)
  rw [lg_entry_eq]
  generalize (lg_sl ([.int k]) ++ List.replicate (1 - (lg_sl ([.int k])).length) Slot.unset).toArray = ls at hl ⊢
  have hl : lv_has ls 1 [(0, .int k)] := hl
  refine lv_iload_n hx hb d_RF_needKind_0 rfl (lv_at hl 0 rfl) ?_
  refine lv_if_lt (tgt := 10) hx hb d_RF_needKind_1 (by decide) (fun c_1 => ?_) (fun c_1 => ?_)
  · skip
    refine os_throwW (own := "RobotFaults") (cls := "java/lang/IllegalArgumentException") (text := "a kind is 0 to 7") (names := ["java/lang/RuntimeException", "java/lang/Exception"]) hx hb hlt hown (by decide) (by decide) hE hV k_261 k_10 (by decide +kernel) th_IllegalArgumentException (hl.1.trans hml.symm) d_RF_needKind_10 d_RF_needKind_13 d_RF_needKind_14 d_RF_needKind_17 d_RF_needKind_20 hout hlocks (Nat.le_of_ble_eq_true rfl) (Nat.le_of_ble_eq_true rfl) (Nat.le_of_ble_eq_true rfl) (Nat.le_of_ble_eq_true rfl) (Nat.le_of_ble_eq_true rfl) (Nat.le_of_ble_eq_true rfl) ?_
    exact ⟨rfl, rfl, Or.inr ⟨(fun h => by simp_all), rfl⟩⟩
  · skip
    refine lv_iload_n hx hb d_RF_needKind_4 rfl (lv_at hl 0 rfl) ?_
    refine lv_bipush (v := 8) hx hb d_RF_needKind_5 (by decide) ?_
    refine lv_icmp_lt (tgt := 21) hx hb d_RF_needKind_7 (by decide) (fun c_2 => ?_) (fun c_2 => ?_)
    · skip
      refine os_vret hx hb hr hlocks hV (Nat.le_of_ble_eq_true rfl) (Nat.le_of_ble_eq_true rfl) d_RF_needKind_21 ?_
      exact ⟨rfl, rfl, Or.inl ⟨⟨by simpa using c_1, by simpa using c_2⟩, rfl⟩⟩
    · skip
      refine os_throwW (own := "RobotFaults") (cls := "java/lang/IllegalArgumentException") (text := "a kind is 0 to 7") (names := ["java/lang/RuntimeException", "java/lang/Exception"]) hx hb hlt hown (by decide) (by decide) hE hV k_261 k_10 (by decide +kernel) th_IllegalArgumentException (hl.1.trans hml.symm) d_RF_needKind_10 d_RF_needKind_13 d_RF_needKind_14 d_RF_needKind_17 d_RF_needKind_20 hout hlocks (Nat.le_of_ble_eq_true rfl) (Nat.le_of_ble_eq_true rfl) (Nat.le_of_ble_eq_true rfl) (Nat.le_of_ble_eq_true rfl) (Nat.le_of_ble_eq_true rfl) (Nat.le_of_ble_eq_true rfl) ?_
      exact ⟨rfl, rfl, Or.inr ⟨(fun h => by simp_all), rfl⟩⟩
set_option maxHeartbeats 4000000 in
set_option maxRecDepth 100000 in
theorem c_RF_needPerson (l : Launch) (hlt : l.stackTraces = false) (D : va_G) (cA : Nat → ClassId) (bs : Nat) (σ : os_S) (ad : Nat → Nat → Nat) (k : Int32) : os_Met l y_RF_needPerson prog_1_method_28_code 1 none { frames := 6, cells := 1, slots := 6, locals := 96 } D cA bs [.int k] σ ad (pt σ ad (¬ k < 0 ∧ k < 8) none "java/lang/IllegalArgumentException") := by
  refine os_ofW (by decide) ?_
  intro p e s m below meth c hx hb hr hml hown hlocks hmn hout hE hV
  have hts := hE.hts (args := ([.int k] : List Value).toArray)
  have hK := hE.2.1
  have hbs := hE.2.2.1
  have hown : s.vm.findClass "RobotFaults" = some m.cls := hown
  have hl := lv_entry ([.int k]) (n := 1) (Nat.le_of_ble_eq_true rfl)
  rw [lg_entry_eq]
  generalize (lg_sl ([.int k]) ++ List.replicate (1 - (lg_sl ([.int k])).length) Slot.unset).toArray = ls at hl ⊢
  have hl : lv_has ls 1 [(0, .int k)] := hl
  refine lv_iload_n hx hb d_RF_needPerson_0 rfl (lv_at hl 0 rfl) ?_
  refine lv_if_lt (tgt := 10) hx hb d_RF_needPerson_1 (by decide) (fun c_1 => ?_) (fun c_1 => ?_)
  · skip
    refine os_throwW (own := "RobotFaults") (cls := "java/lang/IllegalArgumentException") (text := "a person is 0 to 7") (names := ["java/lang/RuntimeException", "java/lang/Exception"]) hx hb hlt hown (by decide) (by decide) hE hV k_261 k_10 (by decide +kernel) th_IllegalArgumentException (hl.1.trans hml.symm) d_RF_needPerson_10 d_RF_needPerson_13 d_RF_needPerson_14 d_RF_needPerson_17 d_RF_needPerson_20 hout hlocks (Nat.le_of_ble_eq_true rfl) (Nat.le_of_ble_eq_true rfl) (Nat.le_of_ble_eq_true rfl) (Nat.le_of_ble_eq_true rfl) (Nat.le_of_ble_eq_true rfl) (Nat.le_of_ble_eq_true rfl) ?_
    exact ⟨rfl, rfl, Or.inr ⟨(fun h => by simp_all), rfl⟩⟩
  · skip
    refine lv_iload_n hx hb d_RF_needPerson_4 rfl (lv_at hl 0 rfl) ?_
    refine lv_bipush (v := 8) hx hb d_RF_needPerson_5 (by decide) ?_
    refine lv_icmp_lt (tgt := 21) hx hb d_RF_needPerson_7 (by decide) (fun c_2 => ?_) (fun c_2 => ?_)
    · skip
      refine os_vret hx hb hr hlocks hV (Nat.le_of_ble_eq_true rfl) (Nat.le_of_ble_eq_true rfl) d_RF_needPerson_21 ?_
      exact ⟨rfl, rfl, Or.inl ⟨⟨by simpa using c_1, by simpa using c_2⟩, rfl⟩⟩
    · skip
      refine os_throwW (own := "RobotFaults") (cls := "java/lang/IllegalArgumentException") (text := "a person is 0 to 7") (names := ["java/lang/RuntimeException", "java/lang/Exception"]) hx hb hlt hown (by decide) (by decide) hE hV k_261 k_10 (by decide +kernel) th_IllegalArgumentException (hl.1.trans hml.symm) d_RF_needPerson_10 d_RF_needPerson_13 d_RF_needPerson_14 d_RF_needPerson_17 d_RF_needPerson_20 hout hlocks (Nat.le_of_ble_eq_true rfl) (Nat.le_of_ble_eq_true rfl) (Nat.le_of_ble_eq_true rfl) (Nat.le_of_ble_eq_true rfl) (Nat.le_of_ble_eq_true rfl) (Nat.le_of_ble_eq_true rfl) ?_
      exact ⟨rfl, rfl, Or.inr ⟨(fun h => by simp_all), rfl⟩⟩
set_option maxHeartbeats 4000000 in
set_option maxRecDepth 100000 in
theorem c_Fault_isOpen (l : Launch) (hlt : l.stackTraces = false) (D : va_G) (cA : Nat → ClassId) (bs : Nat) (σ : os_S) (ad : Nat → Nat → Nat) (i : Nat) (hi : i < os_n σ 10) : os_Met l y_Fault_isOpen prog_3_method_2_code 1 (some .boolean) { frames := 0, cells := 0, slots := 0, locals := 0 } D cA bs [.ref (ad 10 i)] σ ad (pv σ ad (some (.int (bz (decide (os_g σ 10 10 i = -1)))))) := by
  refine os_ofW (by decide) ?_
  intro p e s m below meth c hx hb hr hml hown hlocks hmn hout hE hV
  have hts := hE.hts (args := ([.ref (ad 10 i)] : List Value).toArray)
  have hK := hE.2.1
  have hbs := hE.2.2.1
  have hown : s.vm.findClass "RobotFaults$Fault" = some m.cls := hown
  have hl := lv_entry ([.ref (ad 10 i)]) (n := 1) (Nat.le_of_ble_eq_true rfl)
  rw [lg_entry_eq]
  generalize (lg_sl ([.ref (ad 10 i)]) ++ List.replicate (1 - (lg_sl ([.ref (ad 10 i)])).length) Slot.unset).toArray = ls at hl ⊢
  have hl : lv_has ls 1 [(0, .ref (ad 10 i))] := hl
  refine lv_aload_n hx hb d_Fault_isOpen_0 rfl (lv_at hl 0 rfl) ?_
  refine os_get (C := "RobotFaults$Fault") (T := F_Fault) (N := 11) (ci := 4) (K := 10) (j := 10) (i := i) (v := .int (os_g σ 10 10 i)) hx hb hts i_Fault hown hK hV rfl rfl (by decide) hi (hts _ k_439) rfl d_Fault_isOpen_1 ?_
  refine lv_iconst (v := (-1)) hx hb d_Fault_isOpen_4 (by decide) ?_
  refine lv_icmp_ne (tgt := 12) hx hb d_Fault_isOpen_5 (by decide) (fun c_1 => ?_) (fun c_1 => ?_)
  · skip
    refine lv_iconst (v := 0) hx hb d_Fault_isOpen_12 (by decide) ?_
    refine os_zret hx hb hr rfl hlocks hV (Nat.le_of_ble_eq_true rfl) (Nat.le_of_ble_eq_true rfl) d_Fault_isOpen_13 ?_
    exact ⟨rfl, rfl, by simp [bz, c_1]⟩
  · skip
    refine lv_iconst (v := 1) hx hb d_Fault_isOpen_8 (by decide) ?_
    refine lv_goto (tgt := 13) hx hb d_Fault_isOpen_9 (by decide) ?_
    refine os_zret hx hb hr rfl hlocks hV (Nat.le_of_ble_eq_true rfl) (Nat.le_of_ble_eq_true rfl) d_Fault_isOpen_13 ?_
    exact ⟨rfl, rfl, by simp [bz, c_1]⟩
set_option maxHeartbeats 4000000 in
set_option maxRecDepth 100000 in
theorem c_Alarm_isAcknowledged (l : Launch) (hlt : l.stackTraces = false) (D : va_G) (cA : Nat → ClassId) (bs : Nat) (σ : os_S) (ad : Nat → Nat → Nat) (i : Nat) (hi : i < os_n σ 11) : os_Met l y_Alarm_isAcknowledged prog_2_method_2_code 1 (some .boolean) { frames := 0, cells := 0, slots := 0, locals := 0 } D cA bs [.ref (ad 11 i)] σ ad (pv σ ad (some (.int (bz (decide (¬ os_g σ 11 6 i = -1)))))) := by
  refine os_ofW (by decide) ?_
  intro p e s m below meth c hx hb hr hml hown hlocks hmn hout hE hV
  have hts := hE.hts (args := ([.ref (ad 11 i)] : List Value).toArray)
  have hK := hE.2.1
  have hbs := hE.2.2.1
  have hown : s.vm.findClass "RobotFaults$Alarm" = some m.cls := hown
  have hl := lv_entry ([.ref (ad 11 i)]) (n := 1) (Nat.le_of_ble_eq_true rfl)
  rw [lg_entry_eq]
  generalize (lg_sl ([.ref (ad 11 i)]) ++ List.replicate (1 - (lg_sl ([.ref (ad 11 i)])).length) Slot.unset).toArray = ls at hl ⊢
  have hl : lv_has ls 1 [(0, .ref (ad 11 i))] := hl
  refine lv_aload_n hx hb d_Alarm_isAcknowledged_0 rfl (lv_at hl 0 rfl) ?_
  refine os_get (C := "RobotFaults$Alarm") (T := F_Alarm) (N := 8) (ci := 5) (K := 11) (j := 6) (i := i) (v := .int (os_g σ 11 6 i)) hx hb hts i_Alarm hown hK hV rfl rfl (by decide) hi (hts _ k_493) rfl d_Alarm_isAcknowledged_1 ?_
  refine lv_iconst (v := (-1)) hx hb d_Alarm_isAcknowledged_4 (by decide) ?_
  refine lv_icmp_eq (tgt := 12) hx hb d_Alarm_isAcknowledged_5 (by decide) (fun c_1 => ?_) (fun c_1 => ?_)
  · skip
    refine lv_iconst (v := 0) hx hb d_Alarm_isAcknowledged_12 (by decide) ?_
    refine os_zret hx hb hr rfl hlocks hV (Nat.le_of_ble_eq_true rfl) (Nat.le_of_ble_eq_true rfl) d_Alarm_isAcknowledged_13 ?_
    exact ⟨rfl, rfl, by simp [bz, c_1]⟩
  · skip
    refine lv_iconst (v := 1) hx hb d_Alarm_isAcknowledged_8 (by decide) ?_
    refine lv_goto (tgt := 13) hx hb d_Alarm_isAcknowledged_9 (by decide) ?_
    refine os_zret hx hb hr rfl hlocks hV (Nat.le_of_ble_eq_true rfl) (Nat.le_of_ble_eq_true rfl) d_Alarm_isAcknowledged_13 ?_
    exact ⟨rfl, rfl, by simp [bz, c_1]⟩
set_option maxHeartbeats 4000000 in
set_option maxRecDepth 100000 in
theorem c_RF_needLost (l : Launch) (hlt : l.stackTraces = false) (D : va_G) (cA : Nat → ClassId) (bs : Nat) (σ : os_S) (ad : Nat → Nat → Nat) (i : Nat) (hi : i < os_n σ 9) : os_Met l y_RF_needLost prog_1_method_29_code 1 none { frames := 6, cells := 1, slots := 6, locals := 96 } D cA bs [.ref (ad 9 i)] σ ad (pt σ ad (os_g σ 9 2 i = 2) none "java/lang/IllegalStateException") := by
  refine os_ofW (by decide) ?_
  intro p e s m below meth c hx hb hr hml hown hlocks hmn hout hE hV
  have hts := hE.hts (args := ([.ref (ad 9 i)] : List Value).toArray)
  have hK := hE.2.1
  have hbs := hE.2.2.1
  have hown : s.vm.findClass "RobotFaults" = some m.cls := hown
  have hl := lv_entry ([.ref (ad 9 i)]) (n := 1) (Nat.le_of_ble_eq_true rfl)
  rw [lg_entry_eq]
  generalize (lg_sl ([.ref (ad 9 i)]) ++ List.replicate (1 - (lg_sl ([.ref (ad 9 i)])).length) Slot.unset).toArray = ls at hl ⊢
  have hl : lv_has ls 1 [(0, .ref (ad 9 i))] := hl
  refine lv_aload_n hx hb d_RF_needLost_0 rfl (lv_at hl 0 rfl) ?_
  refine os_getN (C := "RobotFaults$Robot") (T := F_Robot) (N := 6) (ci := 3) (K := 9) (j := 2) (i := i) (v := .int (os_g σ 9 2 i)) hx hb hts i_Robot hown hK hV rfl rfl (by decide) hi (hts _ k_300) rfl d_RF_needLost_1 ?_
  refine lv_iconst (v := 2) hx hb d_RF_needLost_4 (by decide) ?_
  refine lv_icmp_eq (tgt := 19) hx hb d_RF_needLost_5 (by decide) (fun c_1 => ?_) (fun c_1 => ?_)
  · skip
    refine os_vret hx hb hr hlocks hV (Nat.le_of_ble_eq_true rfl) (Nat.le_of_ble_eq_true rfl) d_RF_needLost_19 ?_
    exact ⟨rfl, rfl, Or.inl ⟨c_1, rfl⟩⟩
  · skip
    refine os_throwW (own := "RobotFaults") (cls := "java/lang/IllegalStateException") (text := "the robot is not lost") (names := ["java/lang/RuntimeException", "java/lang/Exception"]) hx hb hlt hown (by decide) (by decide) hE hV k_351 k_12 (by decide +kernel) th_IllegalStateException (hl.1.trans hml.symm) d_RF_needLost_8 d_RF_needLost_11 d_RF_needLost_12 d_RF_needLost_15 d_RF_needLost_18 hout hlocks (Nat.le_of_ble_eq_true rfl) (Nat.le_of_ble_eq_true rfl) (Nat.le_of_ble_eq_true rfl) (Nat.le_of_ble_eq_true rfl) (Nat.le_of_ble_eq_true rfl) (Nat.le_of_ble_eq_true rfl) ?_
    exact ⟨rfl, rfl, Or.inr ⟨c_1, rfl⟩⟩
set_option maxHeartbeats 4000000 in
set_option maxRecDepth 100000 in
theorem c_RF_hasNoLoadToLose (l : Launch) (hlt : l.stackTraces = false) (D : va_G) (cA : Nat → ClassId) (bs : Nat) (σ : os_S) (ad : Nat → Nat → Nat) (i : Nat) (k : Int32) (hi : i < os_n σ 9) : os_Met l y_RF_hasNoLoadToLose prog_1_method_31_code 2 (some .boolean) { frames := 0, cells := 0, slots := 0, locals := 0 } D cA bs [.ref (ad 9 i), .int k] σ ad (pv σ ad (some (.int (bz (decide (k = 2) && decide (os_g σ 9 3 i = -1)))))) := by
  refine os_ofW (by decide) ?_
  intro p e s m below meth c hx hb hr hml hown hlocks hmn hout hE hV
  have hts := hE.hts (args := ([.ref (ad 9 i), .int k] : List Value).toArray)
  have hK := hE.2.1
  have hbs := hE.2.2.1
  have hown : s.vm.findClass "RobotFaults" = some m.cls := hown
  have hl := lv_entry ([.ref (ad 9 i), .int k]) (n := 2) (Nat.le_of_ble_eq_true rfl)
  rw [lg_entry_eq]
  generalize (lg_sl ([.ref (ad 9 i), .int k]) ++ List.replicate (2 - (lg_sl ([.ref (ad 9 i), .int k])).length) Slot.unset).toArray = ls at hl ⊢
  have hl : lv_has ls 2 [(0, .ref (ad 9 i)), (1, .int k)] := hl
  refine lv_iload_n hx hb d_RF_hasNoLoadToLose_0 rfl (lv_at hl 1 rfl) ?_
  refine lv_iconst (v := 2) hx hb d_RF_hasNoLoadToLose_1 (by decide) ?_
  refine lv_icmp_ne (tgt := 17) hx hb d_RF_hasNoLoadToLose_2 (by decide) (fun c_1 => ?_) (fun c_1 => ?_)
  · skip
    refine lv_iconst (v := 0) hx hb d_RF_hasNoLoadToLose_17 (by decide) ?_
    refine os_zret hx hb hr rfl hlocks hV (Nat.le_of_ble_eq_true rfl) (Nat.le_of_ble_eq_true rfl) d_RF_hasNoLoadToLose_18 ?_
    exact ⟨rfl, rfl, by simp [bz, c_1]⟩
  · skip
    refine lv_aload_n hx hb d_RF_hasNoLoadToLose_5 rfl (lv_at hl 0 rfl) ?_
    refine os_getN (C := "RobotFaults$Robot") (T := F_Robot) (N := 6) (ci := 3) (K := 9) (j := 3) (i := i) (v := .int (os_g σ 9 3 i)) hx hb hts i_Robot hown hK hV rfl rfl (by decide) hi (hts _ k_303) rfl d_RF_hasNoLoadToLose_6 ?_
    refine lv_iconst (v := (-1)) hx hb d_RF_hasNoLoadToLose_9 (by decide) ?_
    refine lv_icmp_ne (tgt := 17) hx hb d_RF_hasNoLoadToLose_10 (by decide) (fun c_2 => ?_) (fun c_2 => ?_)
    · skip
      refine lv_iconst (v := 0) hx hb d_RF_hasNoLoadToLose_17 (by decide) ?_
      refine os_zret hx hb hr rfl hlocks hV (Nat.le_of_ble_eq_true rfl) (Nat.le_of_ble_eq_true rfl) d_RF_hasNoLoadToLose_18 ?_
      exact ⟨rfl, rfl, by simp [bz, c_1, c_2]⟩
    · skip
      refine lv_iconst (v := 1) hx hb d_RF_hasNoLoadToLose_13 (by decide) ?_
      refine lv_goto (tgt := 18) hx hb d_RF_hasNoLoadToLose_14 (by decide) ?_
      refine os_zret hx hb hr rfl hlocks hV (Nat.le_of_ble_eq_true rfl) (Nat.le_of_ble_eq_true rfl) d_RF_hasNoLoadToLose_18 ?_
      exact ⟨rfl, rfl, by simp [bz, c_1, c_2]⟩
