/-! THE LAW'S HELPERS -/
/-- a call of the class, its answer put into the law's row, its exceptions as numbers -/
def hI (T : List (String × Int32)) (Q : os_O → os_S → (Nat → Nat → Nat) → Prop) : os_O → os_S → (Nat → Nat → Nat) → Prop := fun r σ' ad' => ∃ r0 σ1, Q r0 σ1 ad' ∧ ((∃ v, r0 = .inl (some (.int v)) ∧ os_sg σ1 45 0 0 v = σ' ∧ r = .inl (some (.int 0))) ∨ ∃ E k, (E, k) ∈ T ∧ r0 = .inr E ∧ σ1 = σ' ∧ r = .inl (some (.int k)))
def hV0 (T : List (String × Int32)) (Q : os_O → os_S → (Nat → Nat → Nat) → Prop) : os_O → os_S → (Nat → Nat → Nat) → Prop := fun r σ' ad' => ∃ r0 σ1, Q r0 σ1 ad' ∧ ((r0 = .inl none ∧ σ1 = σ' ∧ r = .inl (some (.int 0))) ∨ ∃ E k, (E, k) ∈ T ∧ r0 = .inr E ∧ σ1 = σ' ∧ r = .inl (some (.int k)))
theorem FM.l45 {σ τ : os_S} (h : FM σ τ) (h2 : os_l σ 45 0 = 1) : os_l τ 45 0 = 1 := (congrArg (fun z => z.2.1) h.2).symm.trans h2
theorem t_test {σ σ1 : os_S} {ad ad1 : Nat → Nat → Nat} {x v : Int32} {g : Bool} (hq : q_test σ ad x g (.inl (some (.int v))) σ1 ad1) : v = 0 ∨ v = 1 := by
  rcases hq with ⟨-, ⟨-, -, h⟩ | ⟨_, -, ⟨-, -, h⟩ | ⟨-, -, -, -, h⟩⟩⟩
  · cases h
  · cases h
  · cases h
    cases g
    · exact Or.inl rfl
    · exact Or.inr rfl
theorem k_145 : (Jvm.Cond.codeWith ({ cls := "RobotFaultsLaw", name := "piece", desc := "(LRobotFaults;[J)I" } : Jvm.MethodName) method_3_code (3 : Nat) (Option.some Jvm.ClassFile.FieldType.int) [((0 : Nat), (8 : Nat), (11 : Nat), (13 : Nat))]) ∈ os_tb := os_in (i := 178) (by decide +kernel) (by decide +kernel)
theorem k_230 : (Jvm.Cond.codeWith ({ cls := "RobotFaultsLaw", name := "link", desc := "(LRobotFaults;II)I" } : Jvm.MethodName) method_4_code (4 : Nat) (Option.some Jvm.ClassFile.FieldType.int) [((0 : Nat), (6 : Nat), (9 : Nat), (19 : Nat)), ((0 : Nat), (6 : Nat), (12 : Nat), (21 : Nat))]) ∈ os_tb := os_in (i := 263) (by decide +kernel) (by decide +kernel)
theorem k_283 : (Jvm.Cond.codeWith ({ cls := "RobotFaultsLaw", name := "robot", desc := "(LRobotFaults;I[J)I" } : Jvm.MethodName) method_5_code (4 : Nat) (Option.some Jvm.ClassFile.FieldType.int) [((0 : Nat), (9 : Nat), (12 : Nat), (19 : Nat)), ((0 : Nat), (9 : Nat), (15 : Nat), (13 : Nat))]) ∈ os_tb := os_in (i := 316) (by decide +kernel) (by decide +kernel)
theorem k_323 : (Jvm.Cond.codeWith ({ cls := "RobotFaultsLaw", name := "rule", desc := "(LRobotFaults;IIZI)I" } : Jvm.MethodName) method_6_code (6 : Nat) (Option.some Jvm.ClassFile.FieldType.int) [((0 : Nat), (9 : Nat), (12 : Nat), (21 : Nat))]) ∈ os_tb := os_in (i := 356) (by decide +kernel) (by decide +kernel)
theorem k_340 : (Jvm.Cond.codeWith ({ cls := "RobotFaultsLaw", name := "move", desc := "(LRobotFaults;II)I" } : Jvm.MethodName) method_7_code (4 : Nat) (Option.some Jvm.ClassFile.FieldType.int) [((0 : Nat), (6 : Nat), (9 : Nat), (19 : Nat)), ((0 : Nat), (6 : Nat), (12 : Nat), (34 : Nat))]) ∈ os_tb := os_in (i := 373) (by decide +kernel) (by decide +kernel)
theorem k_377 : (Jvm.Cond.codeWith ({ cls := "RobotFaultsLaw", name := "load", desc := "(LRobotFaults;II)I" } : Jvm.MethodName) method_8_code (4 : Nat) (Option.some Jvm.ClassFile.FieldType.int) [((0 : Nat), (6 : Nat), (9 : Nat), (19 : Nat)), ((0 : Nat), (6 : Nat), (12 : Nat), (21 : Nat)), ((0 : Nat), (6 : Nat), (15 : Nat), (34 : Nat))]) ∈ os_tb := os_in (i := 410) (by decide +kernel) (by decide +kernel)
theorem k_386 : (Jvm.Cond.codeWith ({ cls := "RobotFaultsLaw", name := "fault", desc := "(LRobotFaults;II[J)I" } : Jvm.MethodName) method_9_code (5 : Nat) (Option.some Jvm.ClassFile.FieldType.int) [((0 : Nat), (10 : Nat), (13 : Nat), (19 : Nat)), ((0 : Nat), (10 : Nat), (17 : Nat), (21 : Nat)), ((0 : Nat), (10 : Nat), (21 : Nat), (34 : Nat)), ((0 : Nat), (10 : Nat), (25 : Nat), (13 : Nat))]) ∈ os_tb := os_in (i := 419) (by decide +kernel) (by decide +kernel)
theorem k_520 : (Jvm.Cond.codeWith ({ cls := "RobotFaultsLaw", name := "step", desc := "(LRobotFaults;II[J)I" } : Jvm.MethodName) method_10_code (5 : Nat) (Option.some Jvm.ClassFile.FieldType.int) [((0 : Nat), (10 : Nat), (13 : Nat), (19 : Nat)), ((0 : Nat), (10 : Nat), (17 : Nat), (21 : Nat)), ((0 : Nat), (10 : Nat), (21 : Nat), (34 : Nat))]) ∈ os_tb := os_in (i := 553) (by decide +kernel) (by decide +kernel)
theorem k_548 : (Jvm.Cond.codeWith ({ cls := "RobotFaultsLaw", name := "test", desc := "(LRobotFaults;IZ[J)I" } : Jvm.MethodName) method_11_code (5 : Nat) (Option.some Jvm.ClassFile.FieldType.int) [((0 : Nat), (17 : Nat), (20 : Nat), (19 : Nat)), ((0 : Nat), (17 : Nat), (24 : Nat), (34 : Nat))]) ∈ os_tb := os_in (i := 581) (by decide +kernel) (by decide +kernel)
theorem k_561 : (Jvm.Cond.codeWith ({ cls := "RobotFaultsLaw", name := "resume", desc := "(LRobotFaults;I[J)I" } : Jvm.MethodName) method_12_code (4 : Nat) (Option.some Jvm.ClassFile.FieldType.int) [((0 : Nat), (9 : Nat), (12 : Nat), (19 : Nat)), ((0 : Nat), (9 : Nat), (15 : Nat), (34 : Nat))]) ∈ os_tb := os_in (i := 594) (by decide +kernel) (by decide +kernel)
theorem k_569 : (Jvm.Cond.codeWith ({ cls := "RobotFaultsLaw", name := "zone", desc := "(LRobotFaults;II[J)I" } : Jvm.MethodName) method_13_code (5 : Nat) (Option.some Jvm.ClassFile.FieldType.int) [((0 : Nat), (10 : Nat), (13 : Nat), (19 : Nat)), ((0 : Nat), (10 : Nat), (17 : Nat), (21 : Nat)), ((0 : Nat), (10 : Nat), (21 : Nat), (34 : Nat))]) ∈ os_tb := os_in (i := 602) (by decide +kernel) (by decide +kernel)
theorem k_593 : (Jvm.Cond.codeWith ({ cls := "RobotFaultsLaw", name := "found", desc := "(LRobotFaults;II[J)I" } : Jvm.MethodName) method_14_code (5 : Nat) (Option.some Jvm.ClassFile.FieldType.int) [((0 : Nat), (10 : Nat), (13 : Nat), (19 : Nat)), ((0 : Nat), (10 : Nat), (17 : Nat), (34 : Nat))]) ∈ os_tb := os_in (i := 626) (by decide +kernel) (by decide +kernel)
theorem k_606 : (Jvm.Cond.codeWith ({ cls := "RobotFaultsLaw", name := "tow", desc := "(LRobotFaults;II)I" } : Jvm.MethodName) method_15_code (4 : Nat) (Option.some Jvm.ClassFile.FieldType.int) [((0 : Nat), (6 : Nat), (9 : Nat), (19 : Nat)), ((0 : Nat), (6 : Nat), (12 : Nat), (34 : Nat))]) ∈ os_tb := os_in (i := 639) (by decide +kernel) (by decide +kernel)
theorem k_614 : (Jvm.Cond.codeWith ({ cls := "RobotFaultsLaw", name := "plant", desc := "(LRobotFaults;III)I" } : Jvm.MethodName) method_16_code (5 : Nat) (Option.some Jvm.ClassFile.FieldType.int) [((0 : Nat), (7 : Nat), (10 : Nat), (19 : Nat)), ((0 : Nat), (7 : Nat), (14 : Nat), (21 : Nat)), ((0 : Nat), (7 : Nat), (18 : Nat), (13 : Nat))]) ∈ os_tb := os_in (i := 647) (by decide +kernel) (by decide +kernel)
theorem k_641 : (Jvm.Cond.codeWith ({ cls := "RobotFaultsLaw", name := "pass", desc := "(LRobotFaults;I[J)I" } : Jvm.MethodName) method_17_code (4 : Nat) (Option.some Jvm.ClassFile.FieldType.int) [((0 : Nat), (9 : Nat), (12 : Nat), (21 : Nat))]) ∈ os_tb := os_in (i := 674) (by decide +kernel) (by decide +kernel)
theorem k_684 : (Jvm.Cond.codeWith ({ cls := "RobotFaultsLaw", name := "acknowledge", desc := "(LRobotFaults;II[J)I" } : Jvm.MethodName) method_18_code (5 : Nat) (Option.some Jvm.ClassFile.FieldType.int) [((0 : Nat), (10 : Nat), (13 : Nat), (19 : Nat)), ((0 : Nat), (10 : Nat), (17 : Nat), (21 : Nat)), ((0 : Nat), (10 : Nat), (21 : Nat), (34 : Nat))]) ∈ os_tb := os_in (i := 717) (by decide +kernel) (by decide +kernel)
theorem k_697 : (Jvm.Cond.codeWith ({ cls := "RobotFaultsLaw", name := "alarm", desc := "(LRobotFaults;II[J)I" } : Jvm.MethodName) method_19_code (5 : Nat) (Option.some Jvm.ClassFile.FieldType.int) [((0 : Nat), (10 : Nat), (13 : Nat), (19 : Nat)), ((0 : Nat), (10 : Nat), (17 : Nat), (21 : Nat))]) ∈ os_tb := os_in (i := 730) (by decide +kernel) (by decide +kernel)
theorem k_705 : (Jvm.Cond.codeWith ({ cls := "RobotFaultsLaw", name := "known", desc := "(LRobotFaults;II[J)I" } : Jvm.MethodName) method_20_code (5 : Nat) (Option.some Jvm.ClassFile.FieldType.int) [((0 : Nat), (10 : Nat), (13 : Nat), (19 : Nat)), ((0 : Nat), (10 : Nat), (17 : Nat), (21 : Nat))]) ∈ os_tb := os_in (i := 738) (by decide +kernel) (by decide +kernel)
theorem k_713 : (Jvm.Cond.codeWith ({ cls := "RobotFaultsLaw", name := "told", desc := "(LRobotFaults;II[J)I" } : Jvm.MethodName) method_21_code (5 : Nat) (Option.some Jvm.ClassFile.FieldType.int) [((0 : Nat), (10 : Nat), (13 : Nat), (19 : Nat)), ((0 : Nat), (10 : Nat), (17 : Nat), (21 : Nat))]) ∈ os_tb := os_in (i := 746) (by decide +kernel) (by decide +kernel)
set_option maxHeartbeats 4000000 in
set_option maxRecDepth 100000 in
theorem c_Law_piece (l : Launch) (hlt : l.stackTraces = false) (D : va_G) (cA : Nat → ClassId) (bs : Nat) (σ : os_S) (ad : Nat → Nat → Nat)  (z t nP : Nat) (τ0 : os_S) (hRel : Rel z t nP σ τ0) (h45 : 0 < os_n σ 45 ∧ os_l σ 45 0 = 1) : os_MetH l y_Law_piece method_3_code 3 (some .int) [(0, 8, 11, 13)] { frames := 7, cells := 1, slots := 6, locals := 116 } D cA bs [.ref (ad 0 0), .ref (ad 45 0)] σ ad (hI [("java/lang/UnsupportedOperationException", 1)] (q_piece σ ad)) := by
  refine os_ofWH (by decide) ?_
  intro p e s m below meth c hx hb hr hml hown hlocks hmn htab hE hN hV
  have hts := hE.hts (args := ([.ref (ad 0 0), .ref (ad 45 0)] : List Value).toArray)
  have hK := hE.2.1
  have hbs := hE.2.2.1
  have hown : s.vm.findClass "RobotFaultsLaw" = some m.cls := hown
  obtain ⟨x1, l1, hL9, hx1, htab⟩ := List.map_eq_cons_iff.mp htab
  have hl9 := List.map_eq_nil_iff.mp htab
  subst hl9
  have hl := lv_entry ([.ref (ad 0 0), .ref (ad 45 0)]) (n := 3) (Nat.le_of_ble_eq_true rfl)
  rw [lg_entry_eq]
  generalize (lg_sl ([.ref (ad 0 0), .ref (ad 45 0)]) ++ List.replicate (3 - (lg_sl ([.ref (ad 0 0), .ref (ad 45 0)])).length) Slot.unset).toArray = ls at hl ⊢
  have hl : lv_has ls 3 [(0, .ref (ad 0 0)), (1, .ref (ad 45 0))] := hl
  refine lv_aload_n hx hb d_Law_piece_0 rfl (lv_at hl 1 rfl) ?_
  refine lv_iconst (v := 0) hx hb d_Law_piece_1 (by decide) ?_
  refine lv_aload_n hx hb d_Law_piece_2 rfl (lv_at hl 0 rfl) ?_
  refine os_call (c_RF_piece l hlt D cA bs σ ad hRel.1) hE hV k_150 k_1 (os_inV (C := "RobotFaults") (n := 0) (bytes := prog_1_method_2_code) (maxL := 1) (ret := (some .int)) hx hb hown (hts _ k_147) (hts _ k_148) (hts _ k_149) (hts _ k_150) (by decide +kernel) rfl (os_recv hK hV rfl rfl (hRel.1.n 0 (by decide))) rfl d_Law_piece_3) (hl.1.trans hml.symm) (Nat.le_of_ble_eq_true rfl) (Nat.le_of_ble_eq_true rfl) (Nat.le_of_ble_eq_true rfl) (Nat.le_of_ble_eq_true rfl) (Nat.le_of_ble_eq_true rfl) (fun v σ1 ad1 H locs hp hext hV => ?_) (fun E q ce σ1 ad1 H locs hp hext hV hce hcv hcl => ?_)
  · rcases (r_piece hp).2 with ⟨v9, h9⟩ | ⟨E9, h9, -⟩
    · cases h9
      have hl45 := FM.l45 (r_piece hp).1 h45.2
      obtain ⟨σ_1, rfl⟩ : ∃ z, z = σ1 := ⟨_, rfl⟩
      obtain ⟨ad_2, rfl⟩ : ∃ z, z = ad1 := ⟨_, rfl⟩
      have he_3 := hext
      have hl : lv_has ls 3 [(0, .ref (ad_2 0 0)), (1, .ref (ad_2 45 0))] := by rw [he_3.2.1 0 0 (hRel.1.n 0 (by decide)), he_3.2.1 45 0 h45.1]; exact hl
      refine W.eq (g2 := F0 m 6 ls [.int v9, .int 0, .ref (ad_2 45 0)]) (by rw [he_3.2.1 45 0 h45.1]; rfl) ?_
      have hr_4 : 0 < os_n σ_1 0 := Nat.lt_of_lt_of_le (hRel.1.n 0 (by decide)) (he_3.1 0)
      have hr_5 : 0 < os_n σ_1 45 := Nat.lt_of_lt_of_le h45.1 (he_3.1 45)
      refine lv_i2l (v := Int32.toInt64 v9) hx hb d_Law_piece_6 rfl ?_
      refine os_lastN (v := v9) (K := 45) (i := 0) (t0 := 2) (n := 0) hx hb hK hV rfl rfl rfl hr_5 rfl (by rw [show os_l σ_1 45 0 = 1 from hl45]; decide) (by rw [show os_l σ_1 45 0 = 1 from hl45]; decide) d_Law_piece_7 (fun H locs hV => ?_)
      refine lv_goto (tgt := 14) hx hb d_Law_piece_8 (by decide) ?_
      refine lv_iconst (v := 0) hx hb d_Law_piece_14 (by decide) ?_
      refine os_iret hx hb hr hlocks hV (Nat.le_of_ble_eq_true rfl) (Nat.le_of_ble_eq_true rfl) d_Law_piece_15 ?_
      exact ⟨_, _, hp, Or.inl ⟨_, rfl, rfl, rfl⟩⟩
    · cases h9
  · rcases (r_piece hp).2 with ⟨v9, h9⟩ | ⟨E9, h9, hE9⟩
    · cases h9
    · cases h9
      subst hE9
      have hpass : ∀ z ∈ ([] : List ExceptionTableEntry), covers z 3 = false ∨ (z.catchType ≠ 0 ∧ ∃ nm : String, (Cond.classLink "RobotFaultsLaw" z.catchType nm).before ([.ref (ad 0 0), .ref (ad 45 0)] : List Value).toArray s = true ∧ va_Nc "java/lang/UnsupportedOperationException" nm s) := by
        intro z hz
        exact absurd hz List.not_mem_nil
      refine os_catch (own := "RobotFaultsLaw") (name := "java/lang/UnsupportedOperationException") hown [] x1 [] hL9 hpass (os_cov hx1 (by decide) (by decide)) (by rw [os_ct hx1]; decide) (by rw [os_ct hx1]; exact hts _ k_146) (hts _ k_157) hce hcv hcl ?_
      rw [os_hpc hx1]
      refine lv_astore_n (lv' := [(2, .ref q), (0, .ref (ad 0 0)), (1, .ref (ad 45 0))]) hx hb d_Law_piece_11 rfl hl (by decide) rfl (fun ls hl => ?_)
      refine lv_iconst (v := 1) hx hb d_Law_piece_12 (by decide) ?_
      refine os_iret hx hb hr hlocks hV (Nat.le_of_ble_eq_true rfl) (Nat.le_of_ble_eq_true rfl) d_Law_piece_13 ?_
      exact ⟨_, _, hp, Or.inr ⟨_, 1, by simp, rfl, rfl, rfl⟩⟩
set_option maxHeartbeats 4000000 in
set_option maxRecDepth 100000 in
theorem c_Law_link (l : Launch) (hlt : l.stackTraces = false) (D : va_G) (cA : Nat → ClassId) (bs : Nat) (σ : os_S) (ad : Nat → Nat → Nat) (x y : Int32) (z t nP : Nat) (τ0 : os_S) (hRel : Rel z t nP σ τ0) (h45 : 0 < os_n σ 45 ∧ os_l σ 45 0 = 1) : os_MetH l y_Law_link method_4_code 4 (some .int) [(0, 6, 9, 19), (0, 6, 12, 21)] { frames := 8, cells := 3, slots := 18, locals := 139 } D cA bs [.ref (ad 0 0), .int x, .int y] σ ad (hV0 [("java/util/NoSuchElementException", 1), ("java/lang/IllegalArgumentException", 2)] (q_link σ ad x y)) := by
  refine os_ofWH (by decide) ?_
  intro p e s m below meth c hx hb hr hml hown hlocks hmn htab hE hN hV
  have hts := hE.hts (args := ([.ref (ad 0 0), .int x, .int y] : List Value).toArray)
  have hK := hE.2.1
  have hbs := hE.2.2.1
  have hown : s.vm.findClass "RobotFaultsLaw" = some m.cls := hown
  obtain ⟨x1, l1, hL9, hx1, htab⟩ := List.map_eq_cons_iff.mp htab
  obtain ⟨x2, l2, rfl, hx2, htab⟩ := List.map_eq_cons_iff.mp htab
  have hl9 := List.map_eq_nil_iff.mp htab
  subst hl9
  have hl := lv_entry ([.ref (ad 0 0), .int x, .int y]) (n := 4) (Nat.le_of_ble_eq_true rfl)
  rw [lg_entry_eq]
  generalize (lg_sl ([.ref (ad 0 0), .int x, .int y]) ++ List.replicate (4 - (lg_sl ([.ref (ad 0 0), .int x, .int y])).length) Slot.unset).toArray = ls at hl ⊢
  have hl : lv_has ls 4 [(0, .ref (ad 0 0)), (1, .int x), (2, .int y)] := hl
  refine lv_aload_n hx hb d_Law_link_0 rfl (lv_at hl 0 rfl) ?_
  refine lv_iload_n hx hb d_Law_link_1 rfl (lv_at hl 1 rfl) ?_
  refine lv_iload_n hx hb d_Law_link_2 rfl (lv_at hl 2 rfl) ?_
  refine os_call (c_RF_link l hlt D cA bs σ ad x y hRel.1 ⟨z, hRel.C.2.2.1, hRel.C.1⟩) hE hV k_236 k_1 (os_inV (C := "RobotFaults") (n := 2) (bytes := prog_1_method_3_code) (maxL := 3) (ret := none) hx hb hown (hts _ k_233) (hts _ k_234) (hts _ k_235) (hts _ k_236) (by decide +kernel) rfl (os_recv hK hV rfl rfl (hRel.1.n 0 (by decide))) rfl d_Law_link_3) (hl.1.trans hml.symm) (Nat.le_of_ble_eq_true rfl) (Nat.le_of_ble_eq_true rfl) (Nat.le_of_ble_eq_true rfl) (Nat.le_of_ble_eq_true rfl) (Nat.le_of_ble_eq_true rfl) (fun v σ1 ad1 H locs hp hext hV => ?_) (fun E q ce σ1 ad1 H locs hp hext hV hce hcv hcl => ?_)
  · rcases (r_link hp).2 with h9 | ⟨E9, h9, -⟩
    · cases h9
      have hl45 := FM.l45 (r_link hp).1 h45.2
      obtain ⟨σ_1, rfl⟩ : ∃ z, z = σ1 := ⟨_, rfl⟩
      obtain ⟨ad_2, rfl⟩ : ∃ z, z = ad1 := ⟨_, rfl⟩
      have he_3 := hext
      have hl : lv_has ls 4 [(0, .ref (ad_2 0 0)), (1, .int x), (2, .int y)] := by rw [he_3.2.1 0 0 (hRel.1.n 0 (by decide))]; exact hl
      refine W.eq (g2 := F0 m 6 ls []) rfl ?_
      have hr_4 : 0 < os_n σ_1 0 := Nat.lt_of_lt_of_le (hRel.1.n 0 (by decide)) (he_3.1 0)
      refine lv_goto (tgt := 15) hx hb d_Law_link_6 (by decide) ?_
      refine lv_iconst (v := 0) hx hb d_Law_link_15 (by decide) ?_
      refine os_iret hx hb hr hlocks hV (Nat.le_of_ble_eq_true rfl) (Nat.le_of_ble_eq_true rfl) d_Law_link_16 ?_
      exact ⟨_, _, hp, Or.inl ⟨rfl, rfl, rfl⟩⟩
    · cases h9
  · rcases (r_link hp).2 with h9 | ⟨E9, h9, hE9⟩
    · cases h9
    · cases h9
      rcases hE9 with rfl | rfl
      · skip
        have hpass : ∀ z ∈ ([] : List ExceptionTableEntry), covers z 3 = false ∨ (z.catchType ≠ 0 ∧ ∃ nm : String, (Cond.classLink "RobotFaultsLaw" z.catchType nm).before ([.ref (ad 0 0), .int x, .int y] : List Value).toArray s = true ∧ va_Nc "java/util/NoSuchElementException" nm s) := by
          intro z hz
          exact absurd hz List.not_mem_nil
        refine os_catch (own := "RobotFaultsLaw") (name := "java/util/NoSuchElementException") hown [] x1 [x2] hL9 hpass (os_cov hx1 (by decide) (by decide)) (by rw [os_ct hx1]; decide) (by rw [os_ct hx1]; exact hts _ k_231) (hts _ k_247) hce hcv hcl ?_
        rw [os_hpc hx1]
        refine lv_astore_n (lv' := [(3, .ref q), (0, .ref (ad 0 0)), (1, .int x), (2, .int y)]) hx hb d_Law_link_9 rfl hl (by decide) rfl (fun ls hl => ?_)
        refine lv_iconst (v := 1) hx hb d_Law_link_10 (by decide) ?_
        refine os_iret hx hb hr hlocks hV (Nat.le_of_ble_eq_true rfl) (Nat.le_of_ble_eq_true rfl) d_Law_link_11 ?_
        exact ⟨_, _, hp, Or.inr ⟨_, 1, by simp, rfl, rfl, rfl⟩⟩
      · skip
        have hpass : ∀ z ∈ ([x1] : List ExceptionTableEntry), covers z 3 = false ∨ (z.catchType ≠ 0 ∧ ∃ nm : String, (Cond.classLink "RobotFaultsLaw" z.catchType nm).before ([.ref (ad 0 0), .int x, .int y] : List Value).toArray s = true ∧ va_Nc "java/lang/IllegalArgumentException" nm s) := by
          intro z hz
          simp only [List.mem_cons, List.not_mem_nil, or_false] at hz
          rcases hz with rfl
          · exact Or.inr ⟨by rw [os_ct hx1]; decide, "java/util/NoSuchElementException", by rw [os_ct hx1]; exact hts _ k_231, hN ("java/lang/IllegalArgumentException", "java/util/NoSuchElementException") (by decide)⟩
        refine os_catch (own := "RobotFaultsLaw") (name := "java/lang/IllegalArgumentException") hown [x1] x2 [] hL9 hpass (os_cov hx2 (by decide) (by decide)) (by rw [os_ct hx2]; decide) (by rw [os_ct hx2]; exact hts _ k_232) (hts _ k_263) hce hcv hcl ?_
        rw [os_hpc hx2]
        refine lv_astore_n (lv' := [(3, .ref q), (0, .ref (ad 0 0)), (1, .int x), (2, .int y)]) hx hb d_Law_link_12 rfl hl (by decide) rfl (fun ls hl => ?_)
        refine lv_iconst (v := 2) hx hb d_Law_link_13 (by decide) ?_
        refine os_iret hx hb hr hlocks hV (Nat.le_of_ble_eq_true rfl) (Nat.le_of_ble_eq_true rfl) d_Law_link_14 ?_
        exact ⟨_, _, hp, Or.inr ⟨_, 2, by simp, rfl, rfl, rfl⟩⟩
set_option maxHeartbeats 4000000 in
set_option maxRecDepth 100000 in
theorem c_Law_robot (l : Launch) (hlt : l.stackTraces = false) (D : va_G) (cA : Nat → ClassId) (bs : Nat) (σ : os_S) (ad : Nat → Nat → Nat) (x : Int32) (z t nP : Nat) (τ0 : os_S) (hRel : Rel z t nP σ τ0) (h45 : 0 < os_n σ 45 ∧ os_l σ 45 0 = 1) : os_MetH l y_Law_robot method_5_code 4 (some .int) [(0, 9, 12, 19), (0, 9, 15, 13)] { frames := 8, cells := 3, slots := 18, locals := 140 } D cA bs [.ref (ad 0 0), .int x, .ref (ad 45 0)] σ ad (hI [("java/util/NoSuchElementException", 1), ("java/lang/UnsupportedOperationException", 2)] (q_robot σ x)) := by
  refine os_ofWH (by decide) ?_
  intro p e s m below meth c hx hb hr hml hown hlocks hmn htab hE hN hV
  have hts := hE.hts (args := ([.ref (ad 0 0), .int x, .ref (ad 45 0)] : List Value).toArray)
  have hK := hE.2.1
  have hbs := hE.2.2.1
  have hown : s.vm.findClass "RobotFaultsLaw" = some m.cls := hown
  obtain ⟨x1, l1, hL9, hx1, htab⟩ := List.map_eq_cons_iff.mp htab
  obtain ⟨x2, l2, rfl, hx2, htab⟩ := List.map_eq_cons_iff.mp htab
  have hl9 := List.map_eq_nil_iff.mp htab
  subst hl9
  have hl := lv_entry ([.ref (ad 0 0), .int x, .ref (ad 45 0)]) (n := 4) (Nat.le_of_ble_eq_true rfl)
  rw [lg_entry_eq]
  generalize (lg_sl ([.ref (ad 0 0), .int x, .ref (ad 45 0)]) ++ List.replicate (4 - (lg_sl ([.ref (ad 0 0), .int x, .ref (ad 45 0)])).length) Slot.unset).toArray = ls at hl ⊢
  have hl : lv_has ls 4 [(0, .ref (ad 0 0)), (1, .int x), (2, .ref (ad 45 0))] := hl
  refine lv_aload_n hx hb d_Law_robot_0 rfl (lv_at hl 2 rfl) ?_
  refine lv_iconst (v := 0) hx hb d_Law_robot_1 (by decide) ?_
  refine lv_aload_n hx hb d_Law_robot_2 rfl (lv_at hl 0 rfl) ?_
  refine lv_iload_n hx hb d_Law_robot_3 rfl (lv_at hl 1 rfl) ?_
  refine os_call (c_RF_robot l hlt D cA bs σ ad x hRel.1 hRel.2.2.1) hE hV k_287 k_1 (os_inV (C := "RobotFaults") (n := 1) (bytes := prog_1_method_4_code) (maxL := 3) (ret := (some .int)) hx hb hown (hts _ k_284) (hts _ k_285) (hts _ k_286) (hts _ k_287) (by decide +kernel) rfl (os_recv hK hV rfl rfl (hRel.1.n 0 (by decide))) rfl d_Law_robot_4) (hl.1.trans hml.symm) (Nat.le_of_ble_eq_true rfl) (Nat.le_of_ble_eq_true rfl) (Nat.le_of_ble_eq_true rfl) (Nat.le_of_ble_eq_true rfl) (Nat.le_of_ble_eq_true rfl) (fun v σ1 ad1 H locs hp hext hV => ?_) (fun E q ce σ1 ad1 H locs hp hext hV hce hcv hcl => ?_)
  · rcases (r_robot hp).2 with ⟨v9, h9⟩ | ⟨E9, h9, -⟩
    · cases h9
      have hl45 := FM.l45 (r_robot hp).1 h45.2
      obtain ⟨σ_1, rfl⟩ : ∃ z, z = σ1 := ⟨_, rfl⟩
      obtain ⟨ad_2, rfl⟩ : ∃ z, z = ad1 := ⟨_, rfl⟩
      have he_3 := hext
      have hl : lv_has ls 4 [(0, .ref (ad_2 0 0)), (1, .int x), (2, .ref (ad_2 45 0))] := by rw [he_3.2.1 0 0 (hRel.1.n 0 (by decide)), he_3.2.1 45 0 h45.1]; exact hl
      refine W.eq (g2 := F0 m 7 ls [.int v9, .int 0, .ref (ad_2 45 0)]) (by rw [he_3.2.1 45 0 h45.1]; rfl) ?_
      have hr_4 : 0 < os_n σ_1 0 := Nat.lt_of_lt_of_le (hRel.1.n 0 (by decide)) (he_3.1 0)
      have hr_5 : 0 < os_n σ_1 45 := Nat.lt_of_lt_of_le h45.1 (he_3.1 45)
      refine lv_i2l (v := Int32.toInt64 v9) hx hb d_Law_robot_7 rfl ?_
      refine os_lastN (v := v9) (K := 45) (i := 0) (t0 := 2) (n := 0) hx hb hK hV rfl rfl rfl hr_5 rfl (by rw [show os_l σ_1 45 0 = 1 from hl45]; decide) (by rw [show os_l σ_1 45 0 = 1 from hl45]; decide) d_Law_robot_8 (fun H locs hV => ?_)
      refine lv_goto (tgt := 18) hx hb d_Law_robot_9 (by decide) ?_
      refine lv_iconst (v := 0) hx hb d_Law_robot_18 (by decide) ?_
      refine os_iret hx hb hr hlocks hV (Nat.le_of_ble_eq_true rfl) (Nat.le_of_ble_eq_true rfl) d_Law_robot_19 ?_
      exact ⟨_, _, hp, Or.inl ⟨_, rfl, rfl, rfl⟩⟩
    · cases h9
  · rcases (r_robot hp).2 with ⟨v9, h9⟩ | ⟨E9, h9, hE9⟩
    · cases h9
    · cases h9
      rcases hE9 with rfl | rfl
      · skip
        have hpass : ∀ z ∈ ([] : List ExceptionTableEntry), covers z 4 = false ∨ (z.catchType ≠ 0 ∧ ∃ nm : String, (Cond.classLink "RobotFaultsLaw" z.catchType nm).before ([.ref (ad 0 0), .int x, .ref (ad 45 0)] : List Value).toArray s = true ∧ va_Nc "java/util/NoSuchElementException" nm s) := by
          intro z hz
          exact absurd hz List.not_mem_nil
        refine os_catch (own := "RobotFaultsLaw") (name := "java/util/NoSuchElementException") hown [] x1 [x2] hL9 hpass (os_cov hx1 (by decide) (by decide)) (by rw [os_ct hx1]; decide) (by rw [os_ct hx1]; exact hts _ k_231) (hts _ k_247) hce hcv hcl ?_
        rw [os_hpc hx1]
        refine lv_astore_n (lv' := [(3, .ref q), (0, .ref (ad 0 0)), (1, .int x), (2, .ref (ad 45 0))]) hx hb d_Law_robot_12 rfl hl (by decide) rfl (fun ls hl => ?_)
        refine lv_iconst (v := 1) hx hb d_Law_robot_13 (by decide) ?_
        refine os_iret hx hb hr hlocks hV (Nat.le_of_ble_eq_true rfl) (Nat.le_of_ble_eq_true rfl) d_Law_robot_14 ?_
        exact ⟨_, _, hp, Or.inr ⟨_, 1, by simp, rfl, rfl, rfl⟩⟩
      · skip
        have hpass : ∀ z ∈ ([x1] : List ExceptionTableEntry), covers z 4 = false ∨ (z.catchType ≠ 0 ∧ ∃ nm : String, (Cond.classLink "RobotFaultsLaw" z.catchType nm).before ([.ref (ad 0 0), .int x, .ref (ad 45 0)] : List Value).toArray s = true ∧ va_Nc "java/lang/UnsupportedOperationException" nm s) := by
          intro z hz
          simp only [List.mem_cons, List.not_mem_nil, or_false] at hz
          rcases hz with rfl
          · exact Or.inr ⟨by rw [os_ct hx1]; decide, "java/util/NoSuchElementException", by rw [os_ct hx1]; exact hts _ k_231, hN ("java/lang/UnsupportedOperationException", "java/util/NoSuchElementException") (by decide)⟩
        refine os_catch (own := "RobotFaultsLaw") (name := "java/lang/UnsupportedOperationException") hown [x1] x2 [] hL9 hpass (os_cov hx2 (by decide) (by decide)) (by rw [os_ct hx2]; decide) (by rw [os_ct hx2]; exact hts _ k_146) (hts _ k_157) hce hcv hcl ?_
        rw [os_hpc hx2]
        refine lv_astore_n (lv' := [(3, .ref q), (0, .ref (ad 0 0)), (1, .int x), (2, .ref (ad 45 0))]) hx hb d_Law_robot_15 rfl hl (by decide) rfl (fun ls hl => ?_)
        refine lv_iconst (v := 2) hx hb d_Law_robot_16 (by decide) ?_
        refine os_iret hx hb hr hlocks hV (Nat.le_of_ble_eq_true rfl) (Nat.le_of_ble_eq_true rfl) d_Law_robot_17 ?_
        exact ⟨_, _, hp, Or.inr ⟨_, 2, by simp, rfl, rfl, rfl⟩⟩
set_option maxHeartbeats 4000000 in
set_option maxRecDepth 100000 in
theorem c_Law_rule (l : Launch) (hlt : l.stackTraces = false) (D : va_G) (cA : Nat → ClassId) (bs : Nat) (σ : os_S) (ad : Nat → Nat → Nat) (x n : Int32) (b : Bool) (q9 : Int32) (z t nP : Nat) (τ0 : os_S) (hRel : Rel z t nP σ τ0) (h45 : 0 < os_n σ 45 ∧ os_l σ 45 0 = 1) : os_MetH l y_Law_rule method_6_code 6 (some .int) [(0, 9, 12, 21)] { frames := 8, cells := 2, slots := 12, locals := 140 } D cA bs [.ref (ad 0 0), .int x, .int n, .int (bz b), .int q9] σ ad (hV0 [("java/lang/IllegalArgumentException", 1)] (q_rule σ ad x n q9 b)) := by
  refine os_ofWH (by decide) ?_
  intro p e s m below meth c hx hb hr hml hown hlocks hmn htab hE hN hV
  have hts := hE.hts (args := ([.ref (ad 0 0), .int x, .int n, .int (bz b), .int q9] : List Value).toArray)
  have hK := hE.2.1
  have hbs := hE.2.2.1
  have hown : s.vm.findClass "RobotFaultsLaw" = some m.cls := hown
  obtain ⟨x1, l1, hL9, hx1, htab⟩ := List.map_eq_cons_iff.mp htab
  have hl9 := List.map_eq_nil_iff.mp htab
  subst hl9
  have hl := lv_entry ([.ref (ad 0 0), .int x, .int n, .int (bz b), .int q9]) (n := 6) (Nat.le_of_ble_eq_true rfl)
  rw [lg_entry_eq]
  generalize (lg_sl ([.ref (ad 0 0), .int x, .int n, .int (bz b), .int q9]) ++ List.replicate (6 - (lg_sl ([.ref (ad 0 0), .int x, .int n, .int (bz b), .int q9])).length) Slot.unset).toArray = ls at hl ⊢
  have hl : lv_has ls 6 [(0, .ref (ad 0 0)), (1, .int x), (2, .int n), (3, .int (bz b)), (4, .int q9)] := hl
  refine lv_aload_n hx hb d_Law_rule_0 rfl (lv_at hl 0 rfl) ?_
  refine lv_iload_n hx hb d_Law_rule_1 rfl (lv_at hl 1 rfl) ?_
  refine lv_iload_n hx hb d_Law_rule_2 rfl (lv_at hl 2 rfl) ?_
  refine lv_iload_n hx hb d_Law_rule_3 rfl (lv_at hl 3 rfl) ?_
  refine lv_iload hx hb d_Law_rule_4 (lv_at hl 4 rfl) ?_
  refine os_call (c_RF_rule l hlt D cA bs σ ad x n q9 b hRel.1) hE hV k_327 k_1 (os_inV (C := "RobotFaults") (n := 4) (bytes := prog_1_method_5_code) (maxL := 5) (ret := none) hx hb hown (hts _ k_324) (hts _ k_325) (hts _ k_326) (hts _ k_327) (by decide +kernel) rfl (os_recv hK hV rfl rfl (hRel.1.n 0 (by decide))) rfl d_Law_rule_6) (hl.1.trans hml.symm) (Nat.le_of_ble_eq_true rfl) (Nat.le_of_ble_eq_true rfl) (Nat.le_of_ble_eq_true rfl) (Nat.le_of_ble_eq_true rfl) (Nat.le_of_ble_eq_true rfl) (fun v σ1 ad1 H locs hp hext hV => ?_) (fun E q ce σ1 ad1 H locs hp hext hV hce hcv hcl => ?_)
  · rcases (r_rule hp).2 with h9 | ⟨E9, h9, -⟩
    · cases h9
      have hl45 := FM.l45 (r_rule hp).1 h45.2
      obtain ⟨σ_1, rfl⟩ : ∃ z, z = σ1 := ⟨_, rfl⟩
      obtain ⟨ad_2, rfl⟩ : ∃ z, z = ad1 := ⟨_, rfl⟩
      have he_3 := hext
      have hl : lv_has ls 6 [(0, .ref (ad_2 0 0)), (1, .int x), (2, .int n), (3, .int (bz b)), (4, .int q9)] := by rw [he_3.2.1 0 0 (hRel.1.n 0 (by decide))]; exact hl
      refine W.eq (g2 := F0 m 9 ls []) rfl ?_
      have hr_4 : 0 < os_n σ_1 0 := Nat.lt_of_lt_of_le (hRel.1.n 0 (by decide)) (he_3.1 0)
      refine lv_goto (tgt := 16) hx hb d_Law_rule_9 (by decide) ?_
      refine lv_iconst (v := 0) hx hb d_Law_rule_16 (by decide) ?_
      refine os_iret hx hb hr hlocks hV (Nat.le_of_ble_eq_true rfl) (Nat.le_of_ble_eq_true rfl) d_Law_rule_17 ?_
      exact ⟨_, _, hp, Or.inl ⟨rfl, rfl, rfl⟩⟩
    · cases h9
  · rcases (r_rule hp).2 with h9 | ⟨E9, h9, hE9⟩
    · cases h9
    · cases h9
      subst hE9
      have hpass : ∀ z ∈ ([] : List ExceptionTableEntry), covers z 6 = false ∨ (z.catchType ≠ 0 ∧ ∃ nm : String, (Cond.classLink "RobotFaultsLaw" z.catchType nm).before ([.ref (ad 0 0), .int x, .int n, .int (bz b), .int q9] : List Value).toArray s = true ∧ va_Nc "java/lang/IllegalArgumentException" nm s) := by
        intro z hz
        exact absurd hz List.not_mem_nil
      refine os_catch (own := "RobotFaultsLaw") (name := "java/lang/IllegalArgumentException") hown [] x1 [] hL9 hpass (os_cov hx1 (by decide) (by decide)) (by rw [os_ct hx1]; decide) (by rw [os_ct hx1]; exact hts _ k_232) (hts _ k_263) hce hcv hcl ?_
      rw [os_hpc hx1]
      refine lv_astore (lv' := [(5, .ref q), (0, .ref (ad 0 0)), (1, .int x), (2, .int n), (3, .int (bz b)), (4, .int q9)]) hx hb d_Law_rule_12 hl (by decide) rfl (fun ls hl => ?_)
      refine lv_iconst (v := 1) hx hb d_Law_rule_14 (by decide) ?_
      refine os_iret hx hb hr hlocks hV (Nat.le_of_ble_eq_true rfl) (Nat.le_of_ble_eq_true rfl) d_Law_rule_15 ?_
      exact ⟨_, _, hp, Or.inr ⟨_, 1, by simp, rfl, rfl, rfl⟩⟩
set_option maxHeartbeats 4000000 in
set_option maxRecDepth 100000 in
theorem c_Law_move (l : Launch) (hlt : l.stackTraces = false) (D : va_G) (cA : Nat → ClassId) (bs : Nat) (σ : os_S) (ad : Nat → Nat → Nat) (x y : Int32) (z t nP : Nat) (τ0 : os_S) (hRel : Rel z t nP σ τ0) (h45 : 0 < os_n σ 45 ∧ os_l σ 45 0 = 1) : os_MetH l y_Law_move method_7_code 4 (some .int) [(0, 6, 9, 19), (0, 6, 12, 34)] { frames := 8, cells := 3, slots := 18, locals := 141 } D cA bs [.ref (ad 0 0), .int x, .int y] σ ad (hV0 [("java/util/NoSuchElementException", 1), ("java/lang/IllegalStateException", 2)] (q_move σ ad x y)) := by
  refine os_ofWH (by decide) ?_
  intro p e s m below meth c hx hb hr hml hown hlocks hmn htab hE hN hV
  have hts := hE.hts (args := ([.ref (ad 0 0), .int x, .int y] : List Value).toArray)
  have hK := hE.2.1
  have hbs := hE.2.2.1
  have hown : s.vm.findClass "RobotFaultsLaw" = some m.cls := hown
  obtain ⟨x1, l1, hL9, hx1, htab⟩ := List.map_eq_cons_iff.mp htab
  obtain ⟨x2, l2, rfl, hx2, htab⟩ := List.map_eq_cons_iff.mp htab
  have hl9 := List.map_eq_nil_iff.mp htab
  subst hl9
  have hl := lv_entry ([.ref (ad 0 0), .int x, .int y]) (n := 4) (Nat.le_of_ble_eq_true rfl)
  rw [lg_entry_eq]
  generalize (lg_sl ([.ref (ad 0 0), .int x, .int y]) ++ List.replicate (4 - (lg_sl ([.ref (ad 0 0), .int x, .int y])).length) Slot.unset).toArray = ls at hl ⊢
  have hl : lv_has ls 4 [(0, .ref (ad 0 0)), (1, .int x), (2, .int y)] := hl
  refine lv_aload_n hx hb d_Law_move_0 rfl (lv_at hl 0 rfl) ?_
  refine lv_iload_n hx hb d_Law_move_1 rfl (lv_at hl 1 rfl) ?_
  refine lv_iload_n hx hb d_Law_move_2 rfl (lv_at hl 2 rfl) ?_
  refine os_call (c_RF_move l hlt D cA bs σ ad x y hRel.1 hRel.2.2.1 (fun i hi => by obtain ⟨p9, h1, h2⟩ := (hRel.R hi).2.2.2.2.2.2.1; exact ⟨p9, Nat.lt_of_lt_of_le h1 hRel.C.2.2.1, h2⟩)) hE hV k_345 k_1 (os_inV (C := "RobotFaults") (n := 2) (bytes := prog_1_method_6_code) (maxL := 4) (ret := none) hx hb hown (hts _ k_342) (hts _ k_343) (hts _ k_344) (hts _ k_345) (by decide +kernel) rfl (os_recv hK hV rfl rfl (hRel.1.n 0 (by decide))) rfl d_Law_move_3) (hl.1.trans hml.symm) (Nat.le_of_ble_eq_true rfl) (Nat.le_of_ble_eq_true rfl) (Nat.le_of_ble_eq_true rfl) (Nat.le_of_ble_eq_true rfl) (Nat.le_of_ble_eq_true rfl) (fun v σ1 ad1 H locs hp hext hV => ?_) (fun E q ce σ1 ad1 H locs hp hext hV hce hcv hcl => ?_)
  · rcases (r_move hp).2 with h9 | ⟨E9, h9, -⟩
    · cases h9
      have hl45 := FM.l45 (r_move hp).1 h45.2
      obtain ⟨σ_1, rfl⟩ : ∃ z, z = σ1 := ⟨_, rfl⟩
      obtain ⟨ad_2, rfl⟩ : ∃ z, z = ad1 := ⟨_, rfl⟩
      have he_3 := hext
      have hl : lv_has ls 4 [(0, .ref (ad_2 0 0)), (1, .int x), (2, .int y)] := by rw [he_3.2.1 0 0 (hRel.1.n 0 (by decide))]; exact hl
      refine W.eq (g2 := F0 m 6 ls []) rfl ?_
      have hr_4 : 0 < os_n σ_1 0 := Nat.lt_of_lt_of_le (hRel.1.n 0 (by decide)) (he_3.1 0)
      refine lv_goto (tgt := 15) hx hb d_Law_move_6 (by decide) ?_
      refine lv_iconst (v := 0) hx hb d_Law_move_15 (by decide) ?_
      refine os_iret hx hb hr hlocks hV (Nat.le_of_ble_eq_true rfl) (Nat.le_of_ble_eq_true rfl) d_Law_move_16 ?_
      exact ⟨_, _, hp, Or.inl ⟨rfl, rfl, rfl⟩⟩
    · cases h9
  · rcases (r_move hp).2 with h9 | ⟨E9, h9, hE9⟩
    · cases h9
    · cases h9
      rcases hE9 with rfl | rfl
      · skip
        have hpass : ∀ z ∈ ([] : List ExceptionTableEntry), covers z 3 = false ∨ (z.catchType ≠ 0 ∧ ∃ nm : String, (Cond.classLink "RobotFaultsLaw" z.catchType nm).before ([.ref (ad 0 0), .int x, .int y] : List Value).toArray s = true ∧ va_Nc "java/util/NoSuchElementException" nm s) := by
          intro z hz
          exact absurd hz List.not_mem_nil
        refine os_catch (own := "RobotFaultsLaw") (name := "java/util/NoSuchElementException") hown [] x1 [x2] hL9 hpass (os_cov hx1 (by decide) (by decide)) (by rw [os_ct hx1]; decide) (by rw [os_ct hx1]; exact hts _ k_231) (hts _ k_247) hce hcv hcl ?_
        rw [os_hpc hx1]
        refine lv_astore_n (lv' := [(3, .ref q), (0, .ref (ad 0 0)), (1, .int x), (2, .int y)]) hx hb d_Law_move_9 rfl hl (by decide) rfl (fun ls hl => ?_)
        refine lv_iconst (v := 1) hx hb d_Law_move_10 (by decide) ?_
        refine os_iret hx hb hr hlocks hV (Nat.le_of_ble_eq_true rfl) (Nat.le_of_ble_eq_true rfl) d_Law_move_11 ?_
        exact ⟨_, _, hp, Or.inr ⟨_, 1, by simp, rfl, rfl, rfl⟩⟩
      · skip
        have hpass : ∀ z ∈ ([x1] : List ExceptionTableEntry), covers z 3 = false ∨ (z.catchType ≠ 0 ∧ ∃ nm : String, (Cond.classLink "RobotFaultsLaw" z.catchType nm).before ([.ref (ad 0 0), .int x, .int y] : List Value).toArray s = true ∧ va_Nc "java/lang/IllegalStateException" nm s) := by
          intro z hz
          simp only [List.mem_cons, List.not_mem_nil, or_false] at hz
          rcases hz with rfl
          · exact Or.inr ⟨by rw [os_ct hx1]; decide, "java/util/NoSuchElementException", by rw [os_ct hx1]; exact hts _ k_231, hN ("java/lang/IllegalStateException", "java/util/NoSuchElementException") (by decide)⟩
        refine os_catch (own := "RobotFaultsLaw") (name := "java/lang/IllegalStateException") hown [x1] x2 [] hL9 hpass (os_cov hx2 (by decide) (by decide)) (by rw [os_ct hx2]; decide) (by rw [os_ct hx2]; exact hts _ k_341) (hts _ k_353) hce hcv hcl ?_
        rw [os_hpc hx2]
        refine lv_astore_n (lv' := [(3, .ref q), (0, .ref (ad 0 0)), (1, .int x), (2, .int y)]) hx hb d_Law_move_12 rfl hl (by decide) rfl (fun ls hl => ?_)
        refine lv_iconst (v := 2) hx hb d_Law_move_13 (by decide) ?_
        refine os_iret hx hb hr hlocks hV (Nat.le_of_ble_eq_true rfl) (Nat.le_of_ble_eq_true rfl) d_Law_move_14 ?_
        exact ⟨_, _, hp, Or.inr ⟨_, 2, by simp, rfl, rfl, rfl⟩⟩
set_option maxHeartbeats 4000000 in
set_option maxRecDepth 100000 in
theorem c_Law_load (l : Launch) (hlt : l.stackTraces = false) (D : va_G) (cA : Nat → ClassId) (bs : Nat) (σ : os_S) (ad : Nat → Nat → Nat) (x y : Int32) (z t nP : Nat) (τ0 : os_S) (hRel : Rel z t nP σ τ0) (h45 : 0 < os_n σ 45 ∧ os_l σ 45 0 = 1) : os_MetH l y_Law_load method_8_code 4 (some .int) [(0, 6, 9, 19), (0, 6, 12, 21), (0, 6, 15, 34)] { frames := 8, cells := 2, slots := 12, locals := 141 } D cA bs [.ref (ad 0 0), .int x, .int y] σ ad (hV0 [("java/util/NoSuchElementException", 1), ("java/lang/IllegalArgumentException", 2), ("java/lang/IllegalStateException", 3)] (q_load σ ad x y)) := by
  refine os_ofWH (by decide) ?_
  intro p e s m below meth c hx hb hr hml hown hlocks hmn htab hE hN hV
  have hts := hE.hts (args := ([.ref (ad 0 0), .int x, .int y] : List Value).toArray)
  have hK := hE.2.1
  have hbs := hE.2.2.1
  have hown : s.vm.findClass "RobotFaultsLaw" = some m.cls := hown
  obtain ⟨x1, l1, hL9, hx1, htab⟩ := List.map_eq_cons_iff.mp htab
  obtain ⟨x2, l2, rfl, hx2, htab⟩ := List.map_eq_cons_iff.mp htab
  obtain ⟨x3, l3, rfl, hx3, htab⟩ := List.map_eq_cons_iff.mp htab
  have hl9 := List.map_eq_nil_iff.mp htab
  subst hl9
  have hl := lv_entry ([.ref (ad 0 0), .int x, .int y]) (n := 4) (Nat.le_of_ble_eq_true rfl)
  rw [lg_entry_eq]
  generalize (lg_sl ([.ref (ad 0 0), .int x, .int y]) ++ List.replicate (4 - (lg_sl ([.ref (ad 0 0), .int x, .int y])).length) Slot.unset).toArray = ls at hl ⊢
  have hl : lv_has ls 4 [(0, .ref (ad 0 0)), (1, .int x), (2, .int y)] := hl
  refine lv_aload_n hx hb d_Law_load_0 rfl (lv_at hl 0 rfl) ?_
  refine lv_iload_n hx hb d_Law_load_1 rfl (lv_at hl 1 rfl) ?_
  refine lv_iload_n hx hb d_Law_load_2 rfl (lv_at hl 2 rfl) ?_
  refine os_call (c_RF_load l hlt D cA bs σ ad x y hRel.1 hRel.2.2.1) hE hV k_381 k_1 (os_inV (C := "RobotFaults") (n := 2) (bytes := prog_1_method_7_code) (maxL := 4) (ret := none) hx hb hown (hts _ k_378) (hts _ k_379) (hts _ k_380) (hts _ k_381) (by decide +kernel) rfl (os_recv hK hV rfl rfl (hRel.1.n 0 (by decide))) rfl d_Law_load_3) (hl.1.trans hml.symm) (Nat.le_of_ble_eq_true rfl) (Nat.le_of_ble_eq_true rfl) (Nat.le_of_ble_eq_true rfl) (Nat.le_of_ble_eq_true rfl) (Nat.le_of_ble_eq_true rfl) (fun v σ1 ad1 H locs hp hext hV => ?_) (fun E q ce σ1 ad1 H locs hp hext hV hce hcv hcl => ?_)
  · rcases (r_load hp).2 with h9 | ⟨E9, h9, -⟩
    · cases h9
      have hl45 := FM.l45 (r_load hp).1 h45.2
      obtain ⟨σ_1, rfl⟩ : ∃ z, z = σ1 := ⟨_, rfl⟩
      obtain ⟨ad_2, rfl⟩ : ∃ z, z = ad1 := ⟨_, rfl⟩
      have he_3 := hext
      have hl : lv_has ls 4 [(0, .ref (ad_2 0 0)), (1, .int x), (2, .int y)] := by rw [he_3.2.1 0 0 (hRel.1.n 0 (by decide))]; exact hl
      refine W.eq (g2 := F0 m 6 ls []) rfl ?_
      have hr_4 : 0 < os_n σ_1 0 := Nat.lt_of_lt_of_le (hRel.1.n 0 (by decide)) (he_3.1 0)
      refine lv_goto (tgt := 18) hx hb d_Law_load_6 (by decide) ?_
      refine lv_iconst (v := 0) hx hb d_Law_load_18 (by decide) ?_
      refine os_iret hx hb hr hlocks hV (Nat.le_of_ble_eq_true rfl) (Nat.le_of_ble_eq_true rfl) d_Law_load_19 ?_
      exact ⟨_, _, hp, Or.inl ⟨rfl, rfl, rfl⟩⟩
    · cases h9
  · rcases (r_load hp).2 with h9 | ⟨E9, h9, hE9⟩
    · cases h9
    · cases h9
      rcases hE9 with rfl | rfl | rfl
      · skip
        have hpass : ∀ z ∈ ([] : List ExceptionTableEntry), covers z 3 = false ∨ (z.catchType ≠ 0 ∧ ∃ nm : String, (Cond.classLink "RobotFaultsLaw" z.catchType nm).before ([.ref (ad 0 0), .int x, .int y] : List Value).toArray s = true ∧ va_Nc "java/util/NoSuchElementException" nm s) := by
          intro z hz
          exact absurd hz List.not_mem_nil
        refine os_catch (own := "RobotFaultsLaw") (name := "java/util/NoSuchElementException") hown [] x1 [x2, x3] hL9 hpass (os_cov hx1 (by decide) (by decide)) (by rw [os_ct hx1]; decide) (by rw [os_ct hx1]; exact hts _ k_231) (hts _ k_247) hce hcv hcl ?_
        rw [os_hpc hx1]
        refine lv_astore_n (lv' := [(3, .ref q), (0, .ref (ad 0 0)), (1, .int x), (2, .int y)]) hx hb d_Law_load_9 rfl hl (by decide) rfl (fun ls hl => ?_)
        refine lv_iconst (v := 1) hx hb d_Law_load_10 (by decide) ?_
        refine os_iret hx hb hr hlocks hV (Nat.le_of_ble_eq_true rfl) (Nat.le_of_ble_eq_true rfl) d_Law_load_11 ?_
        exact ⟨_, _, hp, Or.inr ⟨_, 1, by simp, rfl, rfl, rfl⟩⟩
      · skip
        have hpass : ∀ z ∈ ([x1] : List ExceptionTableEntry), covers z 3 = false ∨ (z.catchType ≠ 0 ∧ ∃ nm : String, (Cond.classLink "RobotFaultsLaw" z.catchType nm).before ([.ref (ad 0 0), .int x, .int y] : List Value).toArray s = true ∧ va_Nc "java/lang/IllegalArgumentException" nm s) := by
          intro z hz
          simp only [List.mem_cons, List.not_mem_nil, or_false] at hz
          rcases hz with rfl
          · exact Or.inr ⟨by rw [os_ct hx1]; decide, "java/util/NoSuchElementException", by rw [os_ct hx1]; exact hts _ k_231, hN ("java/lang/IllegalArgumentException", "java/util/NoSuchElementException") (by decide)⟩
        refine os_catch (own := "RobotFaultsLaw") (name := "java/lang/IllegalArgumentException") hown [x1] x2 [x3] hL9 hpass (os_cov hx2 (by decide) (by decide)) (by rw [os_ct hx2]; decide) (by rw [os_ct hx2]; exact hts _ k_232) (hts _ k_263) hce hcv hcl ?_
        rw [os_hpc hx2]
        refine lv_astore_n (lv' := [(3, .ref q), (0, .ref (ad 0 0)), (1, .int x), (2, .int y)]) hx hb d_Law_load_12 rfl hl (by decide) rfl (fun ls hl => ?_)
        refine lv_iconst (v := 2) hx hb d_Law_load_13 (by decide) ?_
        refine os_iret hx hb hr hlocks hV (Nat.le_of_ble_eq_true rfl) (Nat.le_of_ble_eq_true rfl) d_Law_load_14 ?_
        exact ⟨_, _, hp, Or.inr ⟨_, 2, by simp, rfl, rfl, rfl⟩⟩
      · skip
        have hpass : ∀ z ∈ ([x1, x2] : List ExceptionTableEntry), covers z 3 = false ∨ (z.catchType ≠ 0 ∧ ∃ nm : String, (Cond.classLink "RobotFaultsLaw" z.catchType nm).before ([.ref (ad 0 0), .int x, .int y] : List Value).toArray s = true ∧ va_Nc "java/lang/IllegalStateException" nm s) := by
          intro z hz
          simp only [List.mem_cons, List.not_mem_nil, or_false] at hz
          rcases hz with rfl | rfl
          · exact Or.inr ⟨by rw [os_ct hx1]; decide, "java/util/NoSuchElementException", by rw [os_ct hx1]; exact hts _ k_231, hN ("java/lang/IllegalStateException", "java/util/NoSuchElementException") (by decide)⟩
          · exact Or.inr ⟨by rw [os_ct hx2]; decide, "java/lang/IllegalArgumentException", by rw [os_ct hx2]; exact hts _ k_232, hN ("java/lang/IllegalStateException", "java/lang/IllegalArgumentException") (by decide)⟩
        refine os_catch (own := "RobotFaultsLaw") (name := "java/lang/IllegalStateException") hown [x1, x2] x3 [] hL9 hpass (os_cov hx3 (by decide) (by decide)) (by rw [os_ct hx3]; decide) (by rw [os_ct hx3]; exact hts _ k_341) (hts _ k_353) hce hcv hcl ?_
        rw [os_hpc hx3]
        refine lv_astore_n (lv' := [(3, .ref q), (0, .ref (ad 0 0)), (1, .int x), (2, .int y)]) hx hb d_Law_load_15 rfl hl (by decide) rfl (fun ls hl => ?_)
        refine lv_iconst (v := 3) hx hb d_Law_load_16 (by decide) ?_
        refine os_iret hx hb hr hlocks hV (Nat.le_of_ble_eq_true rfl) (Nat.le_of_ble_eq_true rfl) d_Law_load_17 ?_
        exact ⟨_, _, hp, Or.inr ⟨_, 3, by simp, rfl, rfl, rfl⟩⟩
set_option maxHeartbeats 4000000 in
set_option maxRecDepth 100000 in
theorem c_Law_fault (l : Launch) (hlt : l.stackTraces = false) (D : va_G) (cA : Nat → ClassId) (bs : Nat) (σ : os_S) (ad : Nat → Nat → Nat) (x y : Int32) (z t nP : Nat) (τ0 : os_S) (hRel : Rel z t nP σ τ0) (h45 : 0 < os_n σ 45 ∧ os_l σ 45 0 = 1) : os_MetH l y_Law_fault method_9_code 5 (some .int) [(0, 10, 13, 19), (0, 10, 17, 21), (0, 10, 21, 34), (0, 10, 25, 13)] { frames := 8, cells := 6, slots := 43, locals := 163 } D cA bs [.ref (ad 0 0), .int x, .int y, .ref (ad 45 0)] σ ad (hI [("java/util/NoSuchElementException", 1), ("java/lang/IllegalArgumentException", 2), ("java/lang/IllegalStateException", 3), ("java/lang/UnsupportedOperationException", 4)] (q_fault σ ad x y)) := by
  refine os_ofWH (by decide) ?_
  intro p e s m below meth c hx hb hr hml hown hlocks hmn htab hE hN hV
  have hts := hE.hts (args := ([.ref (ad 0 0), .int x, .int y, .ref (ad 45 0)] : List Value).toArray)
  have hK := hE.2.1
  have hbs := hE.2.2.1
  have hown : s.vm.findClass "RobotFaultsLaw" = some m.cls := hown
  obtain ⟨x1, l1, hL9, hx1, htab⟩ := List.map_eq_cons_iff.mp htab
  obtain ⟨x2, l2, rfl, hx2, htab⟩ := List.map_eq_cons_iff.mp htab
  obtain ⟨x3, l3, rfl, hx3, htab⟩ := List.map_eq_cons_iff.mp htab
  obtain ⟨x4, l4, rfl, hx4, htab⟩ := List.map_eq_cons_iff.mp htab
  have hl9 := List.map_eq_nil_iff.mp htab
  subst hl9
  have hl := lv_entry ([.ref (ad 0 0), .int x, .int y, .ref (ad 45 0)]) (n := 5) (Nat.le_of_ble_eq_true rfl)
  rw [lg_entry_eq]
  generalize (lg_sl ([.ref (ad 0 0), .int x, .int y, .ref (ad 45 0)]) ++ List.replicate (5 - (lg_sl ([.ref (ad 0 0), .int x, .int y, .ref (ad 45 0)])).length) Slot.unset).toArray = ls at hl ⊢
  have hl : lv_has ls 5 [(0, .ref (ad 0 0)), (1, .int x), (2, .int y), (3, .ref (ad 45 0))] := hl
  refine lv_aload_n hx hb d_Law_fault_0 rfl (lv_at hl 3 rfl) ?_
  refine lv_iconst (v := 0) hx hb d_Law_fault_1 (by decide) ?_
  refine lv_aload_n hx hb d_Law_fault_2 rfl (lv_at hl 0 rfl) ?_
  refine lv_iload_n hx hb d_Law_fault_3 rfl (lv_at hl 1 rfl) ?_
  refine lv_iload_n hx hb d_Law_fault_4 rfl (lv_at hl 2 rfl) ?_
  refine os_call (c_RF_fault l hlt D cA bs σ ad x y hRel.1 hRel.2.2.1 hRel.2.2.2.1 hRel.2.2.2.2.1 hRel.zero.T) hE hV k_390 k_1 (os_inV (C := "RobotFaults") (n := 2) (bytes := prog_1_method_8_code) (maxL := 4) (ret := (some .int)) hx hb hown (hts _ k_387) (hts _ k_388) (hts _ k_389) (hts _ k_390) (by decide +kernel) rfl (os_recv hK hV rfl rfl (hRel.1.n 0 (by decide))) rfl d_Law_fault_5) (hl.1.trans hml.symm) (Nat.le_of_ble_eq_true rfl) (Nat.le_of_ble_eq_true rfl) (Nat.le_of_ble_eq_true rfl) (Nat.le_of_ble_eq_true rfl) (Nat.le_of_ble_eq_true rfl) (fun v σ1 ad1 H locs hp hext hV => ?_) (fun E q ce σ1 ad1 H locs hp hext hV hce hcv hcl => ?_)
  · rcases (r_fault hp).2 with ⟨v9, h9⟩ | ⟨E9, h9, -⟩
    · cases h9
      have hl45 := FM.l45 (r_fault hp).1 h45.2
      obtain ⟨σ_1, rfl⟩ : ∃ z, z = σ1 := ⟨_, rfl⟩
      obtain ⟨ad_2, rfl⟩ : ∃ z, z = ad1 := ⟨_, rfl⟩
      have he_3 := hext
      have hl : lv_has ls 5 [(0, .ref (ad_2 0 0)), (1, .int x), (2, .int y), (3, .ref (ad_2 45 0))] := by rw [he_3.2.1 0 0 (hRel.1.n 0 (by decide)), he_3.2.1 45 0 h45.1]; exact hl
      refine W.eq (g2 := F0 m 8 ls [.int v9, .int 0, .ref (ad_2 45 0)]) (by rw [he_3.2.1 45 0 h45.1]; rfl) ?_
      have hr_4 : 0 < os_n σ_1 0 := Nat.lt_of_lt_of_le (hRel.1.n 0 (by decide)) (he_3.1 0)
      have hr_5 : 0 < os_n σ_1 45 := Nat.lt_of_lt_of_le h45.1 (he_3.1 45)
      refine lv_i2l (v := Int32.toInt64 v9) hx hb d_Law_fault_8 rfl ?_
      refine os_lastN (v := v9) (K := 45) (i := 0) (t0 := 2) (n := 0) hx hb hK hV rfl rfl rfl hr_5 rfl (by rw [show os_l σ_1 45 0 = 1 from hl45]; decide) (by rw [show os_l σ_1 45 0 = 1 from hl45]; decide) d_Law_fault_9 (fun H locs hV => ?_)
      refine lv_goto (tgt := 29) hx hb d_Law_fault_10 (by decide) ?_
      refine lv_iconst (v := 0) hx hb d_Law_fault_29 (by decide) ?_
      refine os_iret hx hb hr hlocks hV (Nat.le_of_ble_eq_true rfl) (Nat.le_of_ble_eq_true rfl) d_Law_fault_30 ?_
      exact ⟨_, _, hp, Or.inl ⟨_, rfl, rfl, rfl⟩⟩
    · cases h9
  · rcases (r_fault hp).2 with ⟨v9, h9⟩ | ⟨E9, h9, hE9⟩
    · cases h9
    · cases h9
      rcases hE9 with rfl | rfl | rfl | rfl
      · skip
        have hpass : ∀ z ∈ ([] : List ExceptionTableEntry), covers z 5 = false ∨ (z.catchType ≠ 0 ∧ ∃ nm : String, (Cond.classLink "RobotFaultsLaw" z.catchType nm).before ([.ref (ad 0 0), .int x, .int y, .ref (ad 45 0)] : List Value).toArray s = true ∧ va_Nc "java/util/NoSuchElementException" nm s) := by
          intro z hz
          exact absurd hz List.not_mem_nil
        refine os_catch (own := "RobotFaultsLaw") (name := "java/util/NoSuchElementException") hown [] x1 [x2, x3, x4] hL9 hpass (os_cov hx1 (by decide) (by decide)) (by rw [os_ct hx1]; decide) (by rw [os_ct hx1]; exact hts _ k_231) (hts _ k_247) hce hcv hcl ?_
        rw [os_hpc hx1]
        refine lv_astore (lv' := [(4, .ref q), (0, .ref (ad 0 0)), (1, .int x), (2, .int y), (3, .ref (ad 45 0))]) hx hb d_Law_fault_13 hl (by decide) rfl (fun ls hl => ?_)
        refine lv_iconst (v := 1) hx hb d_Law_fault_15 (by decide) ?_
        refine os_iret hx hb hr hlocks hV (Nat.le_of_ble_eq_true rfl) (Nat.le_of_ble_eq_true rfl) d_Law_fault_16 ?_
        exact ⟨_, _, hp, Or.inr ⟨_, 1, by simp, rfl, rfl, rfl⟩⟩
      · skip
        have hpass : ∀ z ∈ ([x1] : List ExceptionTableEntry), covers z 5 = false ∨ (z.catchType ≠ 0 ∧ ∃ nm : String, (Cond.classLink "RobotFaultsLaw" z.catchType nm).before ([.ref (ad 0 0), .int x, .int y, .ref (ad 45 0)] : List Value).toArray s = true ∧ va_Nc "java/lang/IllegalArgumentException" nm s) := by
          intro z hz
          simp only [List.mem_cons, List.not_mem_nil, or_false] at hz
          rcases hz with rfl
          · exact Or.inr ⟨by rw [os_ct hx1]; decide, "java/util/NoSuchElementException", by rw [os_ct hx1]; exact hts _ k_231, hN ("java/lang/IllegalArgumentException", "java/util/NoSuchElementException") (by decide)⟩
        refine os_catch (own := "RobotFaultsLaw") (name := "java/lang/IllegalArgumentException") hown [x1] x2 [x3, x4] hL9 hpass (os_cov hx2 (by decide) (by decide)) (by rw [os_ct hx2]; decide) (by rw [os_ct hx2]; exact hts _ k_232) (hts _ k_263) hce hcv hcl ?_
        rw [os_hpc hx2]
        refine lv_astore (lv' := [(4, .ref q), (0, .ref (ad 0 0)), (1, .int x), (2, .int y), (3, .ref (ad 45 0))]) hx hb d_Law_fault_17 hl (by decide) rfl (fun ls hl => ?_)
        refine lv_iconst (v := 2) hx hb d_Law_fault_19 (by decide) ?_
        refine os_iret hx hb hr hlocks hV (Nat.le_of_ble_eq_true rfl) (Nat.le_of_ble_eq_true rfl) d_Law_fault_20 ?_
        exact ⟨_, _, hp, Or.inr ⟨_, 2, by simp, rfl, rfl, rfl⟩⟩
      · skip
        have hpass : ∀ z ∈ ([x1, x2] : List ExceptionTableEntry), covers z 5 = false ∨ (z.catchType ≠ 0 ∧ ∃ nm : String, (Cond.classLink "RobotFaultsLaw" z.catchType nm).before ([.ref (ad 0 0), .int x, .int y, .ref (ad 45 0)] : List Value).toArray s = true ∧ va_Nc "java/lang/IllegalStateException" nm s) := by
          intro z hz
          simp only [List.mem_cons, List.not_mem_nil, or_false] at hz
          rcases hz with rfl | rfl
          · exact Or.inr ⟨by rw [os_ct hx1]; decide, "java/util/NoSuchElementException", by rw [os_ct hx1]; exact hts _ k_231, hN ("java/lang/IllegalStateException", "java/util/NoSuchElementException") (by decide)⟩
          · exact Or.inr ⟨by rw [os_ct hx2]; decide, "java/lang/IllegalArgumentException", by rw [os_ct hx2]; exact hts _ k_232, hN ("java/lang/IllegalStateException", "java/lang/IllegalArgumentException") (by decide)⟩
        refine os_catch (own := "RobotFaultsLaw") (name := "java/lang/IllegalStateException") hown [x1, x2] x3 [x4] hL9 hpass (os_cov hx3 (by decide) (by decide)) (by rw [os_ct hx3]; decide) (by rw [os_ct hx3]; exact hts _ k_341) (hts _ k_353) hce hcv hcl ?_
        rw [os_hpc hx3]
        refine lv_astore (lv' := [(4, .ref q), (0, .ref (ad 0 0)), (1, .int x), (2, .int y), (3, .ref (ad 45 0))]) hx hb d_Law_fault_21 hl (by decide) rfl (fun ls hl => ?_)
        refine lv_iconst (v := 3) hx hb d_Law_fault_23 (by decide) ?_
        refine os_iret hx hb hr hlocks hV (Nat.le_of_ble_eq_true rfl) (Nat.le_of_ble_eq_true rfl) d_Law_fault_24 ?_
        exact ⟨_, _, hp, Or.inr ⟨_, 3, by simp, rfl, rfl, rfl⟩⟩
      · skip
        have hpass : ∀ z ∈ ([x1, x2, x3] : List ExceptionTableEntry), covers z 5 = false ∨ (z.catchType ≠ 0 ∧ ∃ nm : String, (Cond.classLink "RobotFaultsLaw" z.catchType nm).before ([.ref (ad 0 0), .int x, .int y, .ref (ad 45 0)] : List Value).toArray s = true ∧ va_Nc "java/lang/UnsupportedOperationException" nm s) := by
          intro z hz
          simp only [List.mem_cons, List.not_mem_nil, or_false] at hz
          rcases hz with rfl | rfl | rfl
          · exact Or.inr ⟨by rw [os_ct hx1]; decide, "java/util/NoSuchElementException", by rw [os_ct hx1]; exact hts _ k_231, hN ("java/lang/UnsupportedOperationException", "java/util/NoSuchElementException") (by decide)⟩
          · exact Or.inr ⟨by rw [os_ct hx2]; decide, "java/lang/IllegalArgumentException", by rw [os_ct hx2]; exact hts _ k_232, hN ("java/lang/UnsupportedOperationException", "java/lang/IllegalArgumentException") (by decide)⟩
          · exact Or.inr ⟨by rw [os_ct hx3]; decide, "java/lang/IllegalStateException", by rw [os_ct hx3]; exact hts _ k_341, hN ("java/lang/UnsupportedOperationException", "java/lang/IllegalStateException") (by decide)⟩
        refine os_catch (own := "RobotFaultsLaw") (name := "java/lang/UnsupportedOperationException") hown [x1, x2, x3] x4 [] hL9 hpass (os_cov hx4 (by decide) (by decide)) (by rw [os_ct hx4]; decide) (by rw [os_ct hx4]; exact hts _ k_146) (hts _ k_157) hce hcv hcl ?_
        rw [os_hpc hx4]
        refine lv_astore (lv' := [(4, .ref q), (0, .ref (ad 0 0)), (1, .int x), (2, .int y), (3, .ref (ad 45 0))]) hx hb d_Law_fault_25 hl (by decide) rfl (fun ls hl => ?_)
        refine lv_iconst (v := 4) hx hb d_Law_fault_27 (by decide) ?_
        refine os_iret hx hb hr hlocks hV (Nat.le_of_ble_eq_true rfl) (Nat.le_of_ble_eq_true rfl) d_Law_fault_28 ?_
        exact ⟨_, _, hp, Or.inr ⟨_, 4, by simp, rfl, rfl, rfl⟩⟩
set_option maxHeartbeats 4000000 in
set_option maxRecDepth 100000 in
theorem c_Law_step (l : Launch) (hlt : l.stackTraces = false) (D : va_G) (cA : Nat → ClassId) (bs : Nat) (σ : os_S) (ad : Nat → Nat → Nat) (x y : Int32) (z t nP : Nat) (τ0 : os_S) (hRel : Rel z t nP σ τ0) (h45 : 0 < os_n σ 45 ∧ os_l σ 45 0 = 1) : os_MetH l y_Law_step method_10_code 5 (some .int) [(0, 10, 13, 19), (0, 10, 17, 21), (0, 10, 21, 34)] { frames := 8, cells := 3, slots := 18, locals := 141 } D cA bs [.ref (ad 0 0), .int x, .int y, .ref (ad 45 0)] σ ad (hI [("java/util/NoSuchElementException", 1), ("java/lang/IllegalArgumentException", 2), ("java/lang/IllegalStateException", 3)] (q_step σ ad x y)) := by
  refine os_ofWH (by decide) ?_
  intro p e s m below meth c hx hb hr hml hown hlocks hmn htab hE hN hV
  have hts := hE.hts (args := ([.ref (ad 0 0), .int x, .int y, .ref (ad 45 0)] : List Value).toArray)
  have hK := hE.2.1
  have hbs := hE.2.2.1
  have hown : s.vm.findClass "RobotFaultsLaw" = some m.cls := hown
  obtain ⟨x1, l1, hL9, hx1, htab⟩ := List.map_eq_cons_iff.mp htab
  obtain ⟨x2, l2, rfl, hx2, htab⟩ := List.map_eq_cons_iff.mp htab
  obtain ⟨x3, l3, rfl, hx3, htab⟩ := List.map_eq_cons_iff.mp htab
  have hl9 := List.map_eq_nil_iff.mp htab
  subst hl9
  have hl := lv_entry ([.ref (ad 0 0), .int x, .int y, .ref (ad 45 0)]) (n := 5) (Nat.le_of_ble_eq_true rfl)
  rw [lg_entry_eq]
  generalize (lg_sl ([.ref (ad 0 0), .int x, .int y, .ref (ad 45 0)]) ++ List.replicate (5 - (lg_sl ([.ref (ad 0 0), .int x, .int y, .ref (ad 45 0)])).length) Slot.unset).toArray = ls at hl ⊢
  have hl : lv_has ls 5 [(0, .ref (ad 0 0)), (1, .int x), (2, .int y), (3, .ref (ad 45 0))] := hl
  refine lv_aload_n hx hb d_Law_step_0 rfl (lv_at hl 3 rfl) ?_
  refine lv_iconst (v := 0) hx hb d_Law_step_1 (by decide) ?_
  refine lv_aload_n hx hb d_Law_step_2 rfl (lv_at hl 0 rfl) ?_
  refine lv_iload_n hx hb d_Law_step_3 rfl (lv_at hl 1 rfl) ?_
  refine lv_iload_n hx hb d_Law_step_4 rfl (lv_at hl 2 rfl) ?_
  refine os_call (c_RF_step l hlt D cA bs σ ad x y hRel.1 hRel.2.2.2.1) hE hV k_524 k_1 (os_inV (C := "RobotFaults") (n := 2) (bytes := prog_1_method_9_code) (maxL := 4) (ret := (some .int)) hx hb hown (hts _ k_521) (hts _ k_522) (hts _ k_523) (hts _ k_524) (by decide +kernel) rfl (os_recv hK hV rfl rfl (hRel.1.n 0 (by decide))) rfl d_Law_step_5) (hl.1.trans hml.symm) (Nat.le_of_ble_eq_true rfl) (Nat.le_of_ble_eq_true rfl) (Nat.le_of_ble_eq_true rfl) (Nat.le_of_ble_eq_true rfl) (Nat.le_of_ble_eq_true rfl) (fun v σ1 ad1 H locs hp hext hV => ?_) (fun E q ce σ1 ad1 H locs hp hext hV hce hcv hcl => ?_)
  · rcases (r_step hp).2 with ⟨v9, h9⟩ | ⟨E9, h9, -⟩
    · cases h9
      have hl45 := FM.l45 (r_step hp).1 h45.2
      obtain ⟨σ_1, rfl⟩ : ∃ z, z = σ1 := ⟨_, rfl⟩
      obtain ⟨ad_2, rfl⟩ : ∃ z, z = ad1 := ⟨_, rfl⟩
      have he_3 := hext
      have hl : lv_has ls 5 [(0, .ref (ad_2 0 0)), (1, .int x), (2, .int y), (3, .ref (ad_2 45 0))] := by rw [he_3.2.1 0 0 (hRel.1.n 0 (by decide)), he_3.2.1 45 0 h45.1]; exact hl
      refine W.eq (g2 := F0 m 8 ls [.int v9, .int 0, .ref (ad_2 45 0)]) (by rw [he_3.2.1 45 0 h45.1]; rfl) ?_
      have hr_4 : 0 < os_n σ_1 0 := Nat.lt_of_lt_of_le (hRel.1.n 0 (by decide)) (he_3.1 0)
      have hr_5 : 0 < os_n σ_1 45 := Nat.lt_of_lt_of_le h45.1 (he_3.1 45)
      refine lv_i2l (v := Int32.toInt64 v9) hx hb d_Law_step_8 rfl ?_
      refine os_lastN (v := v9) (K := 45) (i := 0) (t0 := 2) (n := 0) hx hb hK hV rfl rfl rfl hr_5 rfl (by rw [show os_l σ_1 45 0 = 1 from hl45]; decide) (by rw [show os_l σ_1 45 0 = 1 from hl45]; decide) d_Law_step_9 (fun H locs hV => ?_)
      refine lv_goto (tgt := 25) hx hb d_Law_step_10 (by decide) ?_
      refine lv_iconst (v := 0) hx hb d_Law_step_25 (by decide) ?_
      refine os_iret hx hb hr hlocks hV (Nat.le_of_ble_eq_true rfl) (Nat.le_of_ble_eq_true rfl) d_Law_step_26 ?_
      exact ⟨_, _, hp, Or.inl ⟨_, rfl, rfl, rfl⟩⟩
    · cases h9
  · rcases (r_step hp).2 with ⟨v9, h9⟩ | ⟨E9, h9, hE9⟩
    · cases h9
    · cases h9
      rcases hE9 with rfl | rfl | rfl
      · skip
        have hpass : ∀ z ∈ ([] : List ExceptionTableEntry), covers z 5 = false ∨ (z.catchType ≠ 0 ∧ ∃ nm : String, (Cond.classLink "RobotFaultsLaw" z.catchType nm).before ([.ref (ad 0 0), .int x, .int y, .ref (ad 45 0)] : List Value).toArray s = true ∧ va_Nc "java/util/NoSuchElementException" nm s) := by
          intro z hz
          exact absurd hz List.not_mem_nil
        refine os_catch (own := "RobotFaultsLaw") (name := "java/util/NoSuchElementException") hown [] x1 [x2, x3] hL9 hpass (os_cov hx1 (by decide) (by decide)) (by rw [os_ct hx1]; decide) (by rw [os_ct hx1]; exact hts _ k_231) (hts _ k_247) hce hcv hcl ?_
        rw [os_hpc hx1]
        refine lv_astore (lv' := [(4, .ref q), (0, .ref (ad 0 0)), (1, .int x), (2, .int y), (3, .ref (ad 45 0))]) hx hb d_Law_step_13 hl (by decide) rfl (fun ls hl => ?_)
        refine lv_iconst (v := 1) hx hb d_Law_step_15 (by decide) ?_
        refine os_iret hx hb hr hlocks hV (Nat.le_of_ble_eq_true rfl) (Nat.le_of_ble_eq_true rfl) d_Law_step_16 ?_
        exact ⟨_, _, hp, Or.inr ⟨_, 1, by simp, rfl, rfl, rfl⟩⟩
      · skip
        have hpass : ∀ z ∈ ([x1] : List ExceptionTableEntry), covers z 5 = false ∨ (z.catchType ≠ 0 ∧ ∃ nm : String, (Cond.classLink "RobotFaultsLaw" z.catchType nm).before ([.ref (ad 0 0), .int x, .int y, .ref (ad 45 0)] : List Value).toArray s = true ∧ va_Nc "java/lang/IllegalArgumentException" nm s) := by
          intro z hz
          simp only [List.mem_cons, List.not_mem_nil, or_false] at hz
          rcases hz with rfl
          · exact Or.inr ⟨by rw [os_ct hx1]; decide, "java/util/NoSuchElementException", by rw [os_ct hx1]; exact hts _ k_231, hN ("java/lang/IllegalArgumentException", "java/util/NoSuchElementException") (by decide)⟩
        refine os_catch (own := "RobotFaultsLaw") (name := "java/lang/IllegalArgumentException") hown [x1] x2 [x3] hL9 hpass (os_cov hx2 (by decide) (by decide)) (by rw [os_ct hx2]; decide) (by rw [os_ct hx2]; exact hts _ k_232) (hts _ k_263) hce hcv hcl ?_
        rw [os_hpc hx2]
        refine lv_astore (lv' := [(4, .ref q), (0, .ref (ad 0 0)), (1, .int x), (2, .int y), (3, .ref (ad 45 0))]) hx hb d_Law_step_17 hl (by decide) rfl (fun ls hl => ?_)
        refine lv_iconst (v := 2) hx hb d_Law_step_19 (by decide) ?_
        refine os_iret hx hb hr hlocks hV (Nat.le_of_ble_eq_true rfl) (Nat.le_of_ble_eq_true rfl) d_Law_step_20 ?_
        exact ⟨_, _, hp, Or.inr ⟨_, 2, by simp, rfl, rfl, rfl⟩⟩
      · skip
        have hpass : ∀ z ∈ ([x1, x2] : List ExceptionTableEntry), covers z 5 = false ∨ (z.catchType ≠ 0 ∧ ∃ nm : String, (Cond.classLink "RobotFaultsLaw" z.catchType nm).before ([.ref (ad 0 0), .int x, .int y, .ref (ad 45 0)] : List Value).toArray s = true ∧ va_Nc "java/lang/IllegalStateException" nm s) := by
          intro z hz
          simp only [List.mem_cons, List.not_mem_nil, or_false] at hz
          rcases hz with rfl | rfl
          · exact Or.inr ⟨by rw [os_ct hx1]; decide, "java/util/NoSuchElementException", by rw [os_ct hx1]; exact hts _ k_231, hN ("java/lang/IllegalStateException", "java/util/NoSuchElementException") (by decide)⟩
          · exact Or.inr ⟨by rw [os_ct hx2]; decide, "java/lang/IllegalArgumentException", by rw [os_ct hx2]; exact hts _ k_232, hN ("java/lang/IllegalStateException", "java/lang/IllegalArgumentException") (by decide)⟩
        refine os_catch (own := "RobotFaultsLaw") (name := "java/lang/IllegalStateException") hown [x1, x2] x3 [] hL9 hpass (os_cov hx3 (by decide) (by decide)) (by rw [os_ct hx3]; decide) (by rw [os_ct hx3]; exact hts _ k_341) (hts _ k_353) hce hcv hcl ?_
        rw [os_hpc hx3]
        refine lv_astore (lv' := [(4, .ref q), (0, .ref (ad 0 0)), (1, .int x), (2, .int y), (3, .ref (ad 45 0))]) hx hb d_Law_step_21 hl (by decide) rfl (fun ls hl => ?_)
        refine lv_iconst (v := 3) hx hb d_Law_step_23 (by decide) ?_
        refine os_iret hx hb hr hlocks hV (Nat.le_of_ble_eq_true rfl) (Nat.le_of_ble_eq_true rfl) d_Law_step_24 ?_
        exact ⟨_, _, hp, Or.inr ⟨_, 3, by simp, rfl, rfl, rfl⟩⟩
set_option maxHeartbeats 4000000 in
set_option maxRecDepth 100000 in
theorem c_Law_test (l : Launch) (hlt : l.stackTraces = false) (D : va_G) (cA : Nat → ClassId) (bs : Nat) (σ : os_S) (ad : Nat → Nat → Nat) (x : Int32) (g : Bool) (z t nP : Nat) (τ0 : os_S) (hRel : Rel z t nP σ τ0) (h45 : 0 < os_n σ 45 ∧ os_l σ 45 0 = 1) : os_MetH l y_Law_test method_11_code 5 (some .int) [(0, 17, 20, 19), (0, 17, 24, 34)] { frames := 8, cells := 3, slots := 18, locals := 141 } D cA bs [.ref (ad 0 0), .int x, .int (bz g), .ref (ad 45 0)] σ ad (hI [("java/util/NoSuchElementException", 1), ("java/lang/IllegalStateException", 2)] (q_test σ ad x g)) := by
  refine os_ofWH (by decide) ?_
  intro p e s m below meth c hx hb hr hml hown hlocks hmn htab hE hN hV
  have hts := hE.hts (args := ([.ref (ad 0 0), .int x, .int (bz g), .ref (ad 45 0)] : List Value).toArray)
  have hK := hE.2.1
  have hbs := hE.2.2.1
  have hown : s.vm.findClass "RobotFaultsLaw" = some m.cls := hown
  obtain ⟨x1, l1, hL9, hx1, htab⟩ := List.map_eq_cons_iff.mp htab
  obtain ⟨x2, l2, rfl, hx2, htab⟩ := List.map_eq_cons_iff.mp htab
  have hl9 := List.map_eq_nil_iff.mp htab
  subst hl9
  have hl := lv_entry ([.ref (ad 0 0), .int x, .int (bz g), .ref (ad 45 0)]) (n := 5) (Nat.le_of_ble_eq_true rfl)
  rw [lg_entry_eq]
  generalize (lg_sl ([.ref (ad 0 0), .int x, .int (bz g), .ref (ad 45 0)]) ++ List.replicate (5 - (lg_sl ([.ref (ad 0 0), .int x, .int (bz g), .ref (ad 45 0)])).length) Slot.unset).toArray = ls at hl ⊢
  have hl : lv_has ls 5 [(0, .ref (ad 0 0)), (1, .int x), (2, .int (bz g)), (3, .ref (ad 45 0))] := hl
  refine lv_aload_n hx hb d_Law_test_0 rfl (lv_at hl 3 rfl) ?_
  refine lv_iconst (v := 0) hx hb d_Law_test_1 (by decide) ?_
  refine lv_aload_n hx hb d_Law_test_2 rfl (lv_at hl 0 rfl) ?_
  refine lv_iload_n hx hb d_Law_test_3 rfl (lv_at hl 1 rfl) ?_
  refine lv_iload_n hx hb d_Law_test_4 rfl (lv_at hl 2 rfl) ?_
  refine os_call (c_RF_test l hlt D cA bs σ ad x g hRel.1 hRel.2.2.1 hRel.2.2.2.1) hE hV k_552 k_1 (os_inV (C := "RobotFaults") (n := 2) (bytes := prog_1_method_10_code) (maxL := 4) (ret := (some .boolean)) hx hb hown (hts _ k_549) (hts _ k_550) (hts _ k_551) (hts _ k_552) (by decide +kernel) rfl (os_recv hK hV rfl rfl (hRel.1.n 0 (by decide))) rfl d_Law_test_5) (hl.1.trans hml.symm) (Nat.le_of_ble_eq_true rfl) (Nat.le_of_ble_eq_true rfl) (Nat.le_of_ble_eq_true rfl) (Nat.le_of_ble_eq_true rfl) (Nat.le_of_ble_eq_true rfl) (fun v σ1 ad1 H locs hp hext hV => ?_) (fun E q ce σ1 ad1 H locs hp hext hV hce hcv hcl => ?_)
  · rcases (r_test hp).2 with ⟨v9, h9⟩ | ⟨E9, h9, -⟩
    · cases h9
      have hl45 := FM.l45 (r_test hp).1 h45.2
      obtain ⟨σ_1, rfl⟩ : ∃ z, z = σ1 := ⟨_, rfl⟩
      obtain ⟨ad_2, rfl⟩ : ∃ z, z = ad1 := ⟨_, rfl⟩
      have he_3 := hext
      have hl : lv_has ls 5 [(0, .ref (ad_2 0 0)), (1, .int x), (2, .int (bz g)), (3, .ref (ad_2 45 0))] := by rw [he_3.2.1 0 0 (hRel.1.n 0 (by decide)), he_3.2.1 45 0 h45.1]; exact hl
      refine W.eq (g2 := F0 m 8 ls [.int v9, .int 0, .ref (ad_2 45 0)]) (by rw [he_3.2.1 45 0 h45.1]; rfl) ?_
      have hr_4 : 0 < os_n σ_1 0 := Nat.lt_of_lt_of_le (hRel.1.n 0 (by decide)) (he_3.1 0)
      have hr_5 : 0 < os_n σ_1 45 := Nat.lt_of_lt_of_le h45.1 (he_3.1 45)
      refine lv_if_eq (tgt := 15) hx hb d_Law_test_8 (by decide) (fun c_6 => ?_) (fun c_6 => ?_)
      · skip
        refine lv_lconst (v := Int32.toInt64 0) hx hb d_Law_test_15 (by decide) ?_
        refine os_lastN (v := 0) (K := 45) (i := 0) (t0 := 2) (n := 0) hx hb hK hV rfl rfl rfl hr_5 rfl (by rw [show os_l σ_1 45 0 = 1 from hl45]; decide) (by rw [show os_l σ_1 45 0 = 1 from hl45]; decide) d_Law_test_16 (fun H locs hV => ?_)
        refine lv_goto (tgt := 28) hx hb d_Law_test_17 (by decide) ?_
        refine lv_iconst (v := 0) hx hb d_Law_test_28 (by decide) ?_
        refine os_iret hx hb hr hlocks hV (Nat.le_of_ble_eq_true rfl) (Nat.le_of_ble_eq_true rfl) d_Law_test_29 ?_
        exact ⟨_, _, hp, Or.inl ⟨_, rfl, by rw [c_6], rfl⟩⟩
      · skip
        refine lv_lconst (v := Int32.toInt64 1) hx hb d_Law_test_11 (by decide) ?_
        refine lv_goto (tgt := 16) hx hb d_Law_test_12 (by decide) ?_
        refine os_lastN (v := 1) (K := 45) (i := 0) (t0 := 2) (n := 0) hx hb hK hV rfl rfl rfl hr_5 rfl (by rw [show os_l σ_1 45 0 = 1 from hl45]; decide) (by rw [show os_l σ_1 45 0 = 1 from hl45]; decide) d_Law_test_16 (fun H locs hV => ?_)
        refine lv_goto (tgt := 28) hx hb d_Law_test_17 (by decide) ?_
        refine lv_iconst (v := 0) hx hb d_Law_test_28 (by decide) ?_
        refine os_iret hx hb hr hlocks hV (Nat.le_of_ble_eq_true rfl) (Nat.le_of_ble_eq_true rfl) d_Law_test_29 ?_
        exact ⟨_, _, hp, Or.inl ⟨_, rfl, by rw [(t_test hp).resolve_left c_6], rfl⟩⟩
    · cases h9
  · rcases (r_test hp).2 with ⟨v9, h9⟩ | ⟨E9, h9, hE9⟩
    · cases h9
    · cases h9
      rcases hE9 with rfl | rfl
      · skip
        have hpass : ∀ z ∈ ([] : List ExceptionTableEntry), covers z 5 = false ∨ (z.catchType ≠ 0 ∧ ∃ nm : String, (Cond.classLink "RobotFaultsLaw" z.catchType nm).before ([.ref (ad 0 0), .int x, .int (bz g), .ref (ad 45 0)] : List Value).toArray s = true ∧ va_Nc "java/util/NoSuchElementException" nm s) := by
          intro z hz
          exact absurd hz List.not_mem_nil
        refine os_catch (own := "RobotFaultsLaw") (name := "java/util/NoSuchElementException") hown [] x1 [x2] hL9 hpass (os_cov hx1 (by decide) (by decide)) (by rw [os_ct hx1]; decide) (by rw [os_ct hx1]; exact hts _ k_231) (hts _ k_247) hce hcv hcl ?_
        rw [os_hpc hx1]
        refine lv_astore (lv' := [(4, .ref q), (0, .ref (ad 0 0)), (1, .int x), (2, .int (bz g)), (3, .ref (ad 45 0))]) hx hb d_Law_test_20 hl (by decide) rfl (fun ls hl => ?_)
        refine lv_iconst (v := 1) hx hb d_Law_test_22 (by decide) ?_
        refine os_iret hx hb hr hlocks hV (Nat.le_of_ble_eq_true rfl) (Nat.le_of_ble_eq_true rfl) d_Law_test_23 ?_
        exact ⟨_, _, hp, Or.inr ⟨_, 1, by simp, rfl, rfl, rfl⟩⟩
      · skip
        have hpass : ∀ z ∈ ([x1] : List ExceptionTableEntry), covers z 5 = false ∨ (z.catchType ≠ 0 ∧ ∃ nm : String, (Cond.classLink "RobotFaultsLaw" z.catchType nm).before ([.ref (ad 0 0), .int x, .int (bz g), .ref (ad 45 0)] : List Value).toArray s = true ∧ va_Nc "java/lang/IllegalStateException" nm s) := by
          intro z hz
          simp only [List.mem_cons, List.not_mem_nil, or_false] at hz
          rcases hz with rfl
          · exact Or.inr ⟨by rw [os_ct hx1]; decide, "java/util/NoSuchElementException", by rw [os_ct hx1]; exact hts _ k_231, hN ("java/lang/IllegalStateException", "java/util/NoSuchElementException") (by decide)⟩
        refine os_catch (own := "RobotFaultsLaw") (name := "java/lang/IllegalStateException") hown [x1] x2 [] hL9 hpass (os_cov hx2 (by decide) (by decide)) (by rw [os_ct hx2]; decide) (by rw [os_ct hx2]; exact hts _ k_341) (hts _ k_353) hce hcv hcl ?_
        rw [os_hpc hx2]
        refine lv_astore (lv' := [(4, .ref q), (0, .ref (ad 0 0)), (1, .int x), (2, .int (bz g)), (3, .ref (ad 45 0))]) hx hb d_Law_test_24 hl (by decide) rfl (fun ls hl => ?_)
        refine lv_iconst (v := 2) hx hb d_Law_test_26 (by decide) ?_
        refine os_iret hx hb hr hlocks hV (Nat.le_of_ble_eq_true rfl) (Nat.le_of_ble_eq_true rfl) d_Law_test_27 ?_
        exact ⟨_, _, hp, Or.inr ⟨_, 2, by simp, rfl, rfl, rfl⟩⟩
set_option maxHeartbeats 4000000 in
set_option maxRecDepth 100000 in
theorem c_Law_resume (l : Launch) (hlt : l.stackTraces = false) (D : va_G) (cA : Nat → ClassId) (bs : Nat) (σ : os_S) (ad : Nat → Nat → Nat) (x : Int32) (z t nP : Nat) (τ0 : os_S) (hRel : Rel z t nP σ τ0) (h45 : 0 < os_n σ 45 ∧ os_l σ 45 0 = 1) : os_MetH l y_Law_resume method_12_code 4 (some .int) [(0, 9, 12, 19), (0, 9, 15, 34)] { frames := 8, cells := 2, slots := 12, locals := 140 } D cA bs [.ref (ad 0 0), .int x, .ref (ad 45 0)] σ ad (hI [("java/util/NoSuchElementException", 1), ("java/lang/IllegalStateException", 2)] (q_resume σ ad x)) := by
  refine os_ofWH (by decide) ?_
  intro p e s m below meth c hx hb hr hml hown hlocks hmn htab hE hN hV
  have hts := hE.hts (args := ([.ref (ad 0 0), .int x, .ref (ad 45 0)] : List Value).toArray)
  have hK := hE.2.1
  have hbs := hE.2.2.1
  have hown : s.vm.findClass "RobotFaultsLaw" = some m.cls := hown
  obtain ⟨x1, l1, hL9, hx1, htab⟩ := List.map_eq_cons_iff.mp htab
  obtain ⟨x2, l2, rfl, hx2, htab⟩ := List.map_eq_cons_iff.mp htab
  have hl9 := List.map_eq_nil_iff.mp htab
  subst hl9
  have hl := lv_entry ([.ref (ad 0 0), .int x, .ref (ad 45 0)]) (n := 4) (Nat.le_of_ble_eq_true rfl)
  rw [lg_entry_eq]
  generalize (lg_sl ([.ref (ad 0 0), .int x, .ref (ad 45 0)]) ++ List.replicate (4 - (lg_sl ([.ref (ad 0 0), .int x, .ref (ad 45 0)])).length) Slot.unset).toArray = ls at hl ⊢
  have hl : lv_has ls 4 [(0, .ref (ad 0 0)), (1, .int x), (2, .ref (ad 45 0))] := hl
  refine lv_aload_n hx hb d_Law_resume_0 rfl (lv_at hl 2 rfl) ?_
  refine lv_iconst (v := 0) hx hb d_Law_resume_1 (by decide) ?_
  refine lv_aload_n hx hb d_Law_resume_2 rfl (lv_at hl 0 rfl) ?_
  refine lv_iload_n hx hb d_Law_resume_3 rfl (lv_at hl 1 rfl) ?_
  refine os_call (c_RF_resume l hlt D cA bs σ ad x hRel.1 hRel.2.2.1 hRel.2.2.2.1) hE hV k_565 k_1 (os_inV (C := "RobotFaults") (n := 1) (bytes := prog_1_method_11_code) (maxL := 3) (ret := (some .int)) hx hb hown (hts _ k_562) (hts _ k_563) (hts _ k_564) (hts _ k_565) (by decide +kernel) rfl (os_recv hK hV rfl rfl (hRel.1.n 0 (by decide))) rfl d_Law_resume_4) (hl.1.trans hml.symm) (Nat.le_of_ble_eq_true rfl) (Nat.le_of_ble_eq_true rfl) (Nat.le_of_ble_eq_true rfl) (Nat.le_of_ble_eq_true rfl) (Nat.le_of_ble_eq_true rfl) (fun v σ1 ad1 H locs hp hext hV => ?_) (fun E q ce σ1 ad1 H locs hp hext hV hce hcv hcl => ?_)
  · rcases (r_resume hp).2 with ⟨v9, h9⟩ | ⟨E9, h9, -⟩
    · cases h9
      have hl45 := FM.l45 (r_resume hp).1 h45.2
      obtain ⟨σ_1, rfl⟩ : ∃ z, z = σ1 := ⟨_, rfl⟩
      obtain ⟨ad_2, rfl⟩ : ∃ z, z = ad1 := ⟨_, rfl⟩
      have he_3 := hext
      have hl : lv_has ls 4 [(0, .ref (ad_2 0 0)), (1, .int x), (2, .ref (ad_2 45 0))] := by rw [he_3.2.1 0 0 (hRel.1.n 0 (by decide)), he_3.2.1 45 0 h45.1]; exact hl
      refine W.eq (g2 := F0 m 7 ls [.int v9, .int 0, .ref (ad_2 45 0)]) (by rw [he_3.2.1 45 0 h45.1]; rfl) ?_
      have hr_4 : 0 < os_n σ_1 0 := Nat.lt_of_lt_of_le (hRel.1.n 0 (by decide)) (he_3.1 0)
      have hr_5 : 0 < os_n σ_1 45 := Nat.lt_of_lt_of_le h45.1 (he_3.1 45)
      refine lv_i2l (v := Int32.toInt64 v9) hx hb d_Law_resume_7 rfl ?_
      refine os_lastN (v := v9) (K := 45) (i := 0) (t0 := 2) (n := 0) hx hb hK hV rfl rfl rfl hr_5 rfl (by rw [show os_l σ_1 45 0 = 1 from hl45]; decide) (by rw [show os_l σ_1 45 0 = 1 from hl45]; decide) d_Law_resume_8 (fun H locs hV => ?_)
      refine lv_goto (tgt := 18) hx hb d_Law_resume_9 (by decide) ?_
      refine lv_iconst (v := 0) hx hb d_Law_resume_18 (by decide) ?_
      refine os_iret hx hb hr hlocks hV (Nat.le_of_ble_eq_true rfl) (Nat.le_of_ble_eq_true rfl) d_Law_resume_19 ?_
      exact ⟨_, _, hp, Or.inl ⟨_, rfl, rfl, rfl⟩⟩
    · cases h9
  · rcases (r_resume hp).2 with ⟨v9, h9⟩ | ⟨E9, h9, hE9⟩
    · cases h9
    · cases h9
      rcases hE9 with rfl | rfl
      · skip
        have hpass : ∀ z ∈ ([] : List ExceptionTableEntry), covers z 4 = false ∨ (z.catchType ≠ 0 ∧ ∃ nm : String, (Cond.classLink "RobotFaultsLaw" z.catchType nm).before ([.ref (ad 0 0), .int x, .ref (ad 45 0)] : List Value).toArray s = true ∧ va_Nc "java/util/NoSuchElementException" nm s) := by
          intro z hz
          exact absurd hz List.not_mem_nil
        refine os_catch (own := "RobotFaultsLaw") (name := "java/util/NoSuchElementException") hown [] x1 [x2] hL9 hpass (os_cov hx1 (by decide) (by decide)) (by rw [os_ct hx1]; decide) (by rw [os_ct hx1]; exact hts _ k_231) (hts _ k_247) hce hcv hcl ?_
        rw [os_hpc hx1]
        refine lv_astore_n (lv' := [(3, .ref q), (0, .ref (ad 0 0)), (1, .int x), (2, .ref (ad 45 0))]) hx hb d_Law_resume_12 rfl hl (by decide) rfl (fun ls hl => ?_)
        refine lv_iconst (v := 1) hx hb d_Law_resume_13 (by decide) ?_
        refine os_iret hx hb hr hlocks hV (Nat.le_of_ble_eq_true rfl) (Nat.le_of_ble_eq_true rfl) d_Law_resume_14 ?_
        exact ⟨_, _, hp, Or.inr ⟨_, 1, by simp, rfl, rfl, rfl⟩⟩
      · skip
        have hpass : ∀ z ∈ ([x1] : List ExceptionTableEntry), covers z 4 = false ∨ (z.catchType ≠ 0 ∧ ∃ nm : String, (Cond.classLink "RobotFaultsLaw" z.catchType nm).before ([.ref (ad 0 0), .int x, .ref (ad 45 0)] : List Value).toArray s = true ∧ va_Nc "java/lang/IllegalStateException" nm s) := by
          intro z hz
          simp only [List.mem_cons, List.not_mem_nil, or_false] at hz
          rcases hz with rfl
          · exact Or.inr ⟨by rw [os_ct hx1]; decide, "java/util/NoSuchElementException", by rw [os_ct hx1]; exact hts _ k_231, hN ("java/lang/IllegalStateException", "java/util/NoSuchElementException") (by decide)⟩
        refine os_catch (own := "RobotFaultsLaw") (name := "java/lang/IllegalStateException") hown [x1] x2 [] hL9 hpass (os_cov hx2 (by decide) (by decide)) (by rw [os_ct hx2]; decide) (by rw [os_ct hx2]; exact hts _ k_341) (hts _ k_353) hce hcv hcl ?_
        rw [os_hpc hx2]
        refine lv_astore_n (lv' := [(3, .ref q), (0, .ref (ad 0 0)), (1, .int x), (2, .ref (ad 45 0))]) hx hb d_Law_resume_15 rfl hl (by decide) rfl (fun ls hl => ?_)
        refine lv_iconst (v := 2) hx hb d_Law_resume_16 (by decide) ?_
        refine os_iret hx hb hr hlocks hV (Nat.le_of_ble_eq_true rfl) (Nat.le_of_ble_eq_true rfl) d_Law_resume_17 ?_
        exact ⟨_, _, hp, Or.inr ⟨_, 2, by simp, rfl, rfl, rfl⟩⟩
set_option maxHeartbeats 4000000 in
set_option maxRecDepth 100000 in
theorem c_Law_zone (l : Launch) (hlt : l.stackTraces = false) (D : va_G) (cA : Nat → ClassId) (bs : Nat) (σ : os_S) (ad : Nat → Nat → Nat) (x y : Int32) (z t nP : Nat) (τ0 : os_S) (hRel : Rel z t nP σ τ0) (h45 : 0 < os_n σ 45 ∧ os_l σ 45 0 = 1) : os_MetH l y_Law_zone method_13_code 5 (some .int) [(0, 10, 13, 19), (0, 10, 17, 21), (0, 10, 21, 34)] { frames := 8, cells := 3, slots := 18, locals := 144 } D cA bs [.ref (ad 0 0), .int x, .int y, .ref (ad 45 0)] σ ad (hI [("java/util/NoSuchElementException", 1), ("java/lang/IllegalArgumentException", 2), ("java/lang/IllegalStateException", 3)] (q_zone σ ad z x y)) := by
  refine os_ofWH (by decide) ?_
  intro p e s m below meth c hx hb hr hml hown hlocks hmn htab hE hN hV
  have hts := hE.hts (args := ([.ref (ad 0 0), .int x, .int y, .ref (ad 45 0)] : List Value).toArray)
  have hK := hE.2.1
  have hbs := hE.2.2.1
  have hown : s.vm.findClass "RobotFaultsLaw" = some m.cls := hown
  obtain ⟨x1, l1, hL9, hx1, htab⟩ := List.map_eq_cons_iff.mp htab
  obtain ⟨x2, l2, rfl, hx2, htab⟩ := List.map_eq_cons_iff.mp htab
  obtain ⟨x3, l3, rfl, hx3, htab⟩ := List.map_eq_cons_iff.mp htab
  have hl9 := List.map_eq_nil_iff.mp htab
  subst hl9
  have hl := lv_entry ([.ref (ad 0 0), .int x, .int y, .ref (ad 45 0)]) (n := 5) (Nat.le_of_ble_eq_true rfl)
  rw [lg_entry_eq]
  generalize (lg_sl ([.ref (ad 0 0), .int x, .int y, .ref (ad 45 0)]) ++ List.replicate (5 - (lg_sl ([.ref (ad 0 0), .int x, .int y, .ref (ad 45 0)])).length) Slot.unset).toArray = ls at hl ⊢
  have hl : lv_has ls 5 [(0, .ref (ad 0 0)), (1, .int x), (2, .int y), (3, .ref (ad 45 0))] := hl
  refine lv_aload_n hx hb d_Law_zone_0 rfl (lv_at hl 3 rfl) ?_
  refine lv_iconst (v := 0) hx hb d_Law_zone_1 (by decide) ?_
  refine lv_aload_n hx hb d_Law_zone_2 rfl (lv_at hl 0 rfl) ?_
  refine lv_iload_n hx hb d_Law_zone_3 rfl (lv_at hl 1 rfl) ?_
  refine lv_iload_n hx hb d_Law_zone_4 rfl (lv_at hl 2 rfl) ?_
  refine os_call (c_RF_zone l hlt D cA bs σ ad x y z hRel.1 hRel.2.2.1 hRel.C.1 hRel.C.2.2.1 (fun i hi => lost_q hRel hi)) hE hV k_573 k_1 (os_inV (C := "RobotFaults") (n := 2) (bytes := prog_1_method_12_code) (maxL := 7) (ret := (some .int)) hx hb hown (hts _ k_570) (hts _ k_571) (hts _ k_572) (hts _ k_573) (by decide +kernel) rfl (os_recv hK hV rfl rfl (hRel.1.n 0 (by decide))) rfl d_Law_zone_5) (hl.1.trans hml.symm) (Nat.le_of_ble_eq_true rfl) (Nat.le_of_ble_eq_true rfl) (Nat.le_of_ble_eq_true rfl) (Nat.le_of_ble_eq_true rfl) (Nat.le_of_ble_eq_true rfl) (fun v σ1 ad1 H locs hp hext hV => ?_) (fun E q ce σ1 ad1 H locs hp hext hV hce hcv hcl => ?_)
  · rcases (r_zone hp).2 with ⟨v9, h9⟩ | ⟨E9, h9, -⟩
    · cases h9
      have hl45 := FM.l45 (r_zone hp).1 h45.2
      obtain ⟨σ_1, rfl⟩ : ∃ z, z = σ1 := ⟨_, rfl⟩
      obtain ⟨ad_2, rfl⟩ : ∃ z, z = ad1 := ⟨_, rfl⟩
      have he_3 := hext
      have hl : lv_has ls 5 [(0, .ref (ad_2 0 0)), (1, .int x), (2, .int y), (3, .ref (ad_2 45 0))] := by rw [he_3.2.1 0 0 (hRel.1.n 0 (by decide)), he_3.2.1 45 0 h45.1]; exact hl
      refine W.eq (g2 := F0 m 8 ls [.int v9, .int 0, .ref (ad_2 45 0)]) (by rw [he_3.2.1 45 0 h45.1]; rfl) ?_
      have hr_4 : 0 < os_n σ_1 0 := Nat.lt_of_lt_of_le (hRel.1.n 0 (by decide)) (he_3.1 0)
      have hr_5 : 0 < os_n σ_1 45 := Nat.lt_of_lt_of_le h45.1 (he_3.1 45)
      refine lv_i2l (v := Int32.toInt64 v9) hx hb d_Law_zone_8 rfl ?_
      refine os_lastN (v := v9) (K := 45) (i := 0) (t0 := 2) (n := 0) hx hb hK hV rfl rfl rfl hr_5 rfl (by rw [show os_l σ_1 45 0 = 1 from hl45]; decide) (by rw [show os_l σ_1 45 0 = 1 from hl45]; decide) d_Law_zone_9 (fun H locs hV => ?_)
      refine lv_goto (tgt := 25) hx hb d_Law_zone_10 (by decide) ?_
      refine lv_iconst (v := 0) hx hb d_Law_zone_25 (by decide) ?_
      refine os_iret hx hb hr hlocks hV (Nat.le_of_ble_eq_true rfl) (Nat.le_of_ble_eq_true rfl) d_Law_zone_26 ?_
      exact ⟨_, _, hp, Or.inl ⟨_, rfl, rfl, rfl⟩⟩
    · cases h9
  · rcases (r_zone hp).2 with ⟨v9, h9⟩ | ⟨E9, h9, hE9⟩
    · cases h9
    · cases h9
      rcases hE9 with rfl | rfl | rfl
      · skip
        have hpass : ∀ z ∈ ([] : List ExceptionTableEntry), covers z 5 = false ∨ (z.catchType ≠ 0 ∧ ∃ nm : String, (Cond.classLink "RobotFaultsLaw" z.catchType nm).before ([.ref (ad 0 0), .int x, .int y, .ref (ad 45 0)] : List Value).toArray s = true ∧ va_Nc "java/util/NoSuchElementException" nm s) := by
          intro z hz
          exact absurd hz List.not_mem_nil
        refine os_catch (own := "RobotFaultsLaw") (name := "java/util/NoSuchElementException") hown [] x1 [x2, x3] hL9 hpass (os_cov hx1 (by decide) (by decide)) (by rw [os_ct hx1]; decide) (by rw [os_ct hx1]; exact hts _ k_231) (hts _ k_247) hce hcv hcl ?_
        rw [os_hpc hx1]
        refine lv_astore (lv' := [(4, .ref q), (0, .ref (ad 0 0)), (1, .int x), (2, .int y), (3, .ref (ad 45 0))]) hx hb d_Law_zone_13 hl (by decide) rfl (fun ls hl => ?_)
        refine lv_iconst (v := 1) hx hb d_Law_zone_15 (by decide) ?_
        refine os_iret hx hb hr hlocks hV (Nat.le_of_ble_eq_true rfl) (Nat.le_of_ble_eq_true rfl) d_Law_zone_16 ?_
        exact ⟨_, _, hp, Or.inr ⟨_, 1, by simp, rfl, rfl, rfl⟩⟩
      · skip
        have hpass : ∀ z ∈ ([x1] : List ExceptionTableEntry), covers z 5 = false ∨ (z.catchType ≠ 0 ∧ ∃ nm : String, (Cond.classLink "RobotFaultsLaw" z.catchType nm).before ([.ref (ad 0 0), .int x, .int y, .ref (ad 45 0)] : List Value).toArray s = true ∧ va_Nc "java/lang/IllegalArgumentException" nm s) := by
          intro z hz
          simp only [List.mem_cons, List.not_mem_nil, or_false] at hz
          rcases hz with rfl
          · exact Or.inr ⟨by rw [os_ct hx1]; decide, "java/util/NoSuchElementException", by rw [os_ct hx1]; exact hts _ k_231, hN ("java/lang/IllegalArgumentException", "java/util/NoSuchElementException") (by decide)⟩
        refine os_catch (own := "RobotFaultsLaw") (name := "java/lang/IllegalArgumentException") hown [x1] x2 [x3] hL9 hpass (os_cov hx2 (by decide) (by decide)) (by rw [os_ct hx2]; decide) (by rw [os_ct hx2]; exact hts _ k_232) (hts _ k_263) hce hcv hcl ?_
        rw [os_hpc hx2]
        refine lv_astore (lv' := [(4, .ref q), (0, .ref (ad 0 0)), (1, .int x), (2, .int y), (3, .ref (ad 45 0))]) hx hb d_Law_zone_17 hl (by decide) rfl (fun ls hl => ?_)
        refine lv_iconst (v := 2) hx hb d_Law_zone_19 (by decide) ?_
        refine os_iret hx hb hr hlocks hV (Nat.le_of_ble_eq_true rfl) (Nat.le_of_ble_eq_true rfl) d_Law_zone_20 ?_
        exact ⟨_, _, hp, Or.inr ⟨_, 2, by simp, rfl, rfl, rfl⟩⟩
      · skip
        have hpass : ∀ z ∈ ([x1, x2] : List ExceptionTableEntry), covers z 5 = false ∨ (z.catchType ≠ 0 ∧ ∃ nm : String, (Cond.classLink "RobotFaultsLaw" z.catchType nm).before ([.ref (ad 0 0), .int x, .int y, .ref (ad 45 0)] : List Value).toArray s = true ∧ va_Nc "java/lang/IllegalStateException" nm s) := by
          intro z hz
          simp only [List.mem_cons, List.not_mem_nil, or_false] at hz
          rcases hz with rfl | rfl
          · exact Or.inr ⟨by rw [os_ct hx1]; decide, "java/util/NoSuchElementException", by rw [os_ct hx1]; exact hts _ k_231, hN ("java/lang/IllegalStateException", "java/util/NoSuchElementException") (by decide)⟩
          · exact Or.inr ⟨by rw [os_ct hx2]; decide, "java/lang/IllegalArgumentException", by rw [os_ct hx2]; exact hts _ k_232, hN ("java/lang/IllegalStateException", "java/lang/IllegalArgumentException") (by decide)⟩
        refine os_catch (own := "RobotFaultsLaw") (name := "java/lang/IllegalStateException") hown [x1, x2] x3 [] hL9 hpass (os_cov hx3 (by decide) (by decide)) (by rw [os_ct hx3]; decide) (by rw [os_ct hx3]; exact hts _ k_341) (hts _ k_353) hce hcv hcl ?_
        rw [os_hpc hx3]
        refine lv_astore (lv' := [(4, .ref q), (0, .ref (ad 0 0)), (1, .int x), (2, .int y), (3, .ref (ad 45 0))]) hx hb d_Law_zone_21 hl (by decide) rfl (fun ls hl => ?_)
        refine lv_iconst (v := 3) hx hb d_Law_zone_23 (by decide) ?_
        refine os_iret hx hb hr hlocks hV (Nat.le_of_ble_eq_true rfl) (Nat.le_of_ble_eq_true rfl) d_Law_zone_24 ?_
        exact ⟨_, _, hp, Or.inr ⟨_, 3, by simp, rfl, rfl, rfl⟩⟩
set_option maxHeartbeats 4000000 in
set_option maxRecDepth 100000 in
theorem c_Law_found (l : Launch) (hlt : l.stackTraces = false) (D : va_G) (cA : Nat → ClassId) (bs : Nat) (σ : os_S) (ad : Nat → Nat → Nat) (x y : Int32) (z t nP : Nat) (τ0 : os_S) (hRel : Rel z t nP σ τ0) (h45 : 0 < os_n σ 45 ∧ os_l σ 45 0 = 1) : os_MetH l y_Law_found method_14_code 5 (some .int) [(0, 10, 13, 19), (0, 10, 17, 34)] { frames := 8, cells := 4, slots := 24, locals := 142 } D cA bs [.ref (ad 0 0), .int x, .int y, .ref (ad 45 0)] σ ad (hI [("java/util/NoSuchElementException", 1), ("java/lang/IllegalStateException", 2)] (q_found σ ad z x y)) := by
  refine os_ofWH (by decide) ?_
  intro p e s m below meth c hx hb hr hml hown hlocks hmn htab hE hN hV
  have hts := hE.hts (args := ([.ref (ad 0 0), .int x, .int y, .ref (ad 45 0)] : List Value).toArray)
  have hK := hE.2.1
  have hbs := hE.2.2.1
  have hown : s.vm.findClass "RobotFaultsLaw" = some m.cls := hown
  obtain ⟨x1, l1, hL9, hx1, htab⟩ := List.map_eq_cons_iff.mp htab
  obtain ⟨x2, l2, rfl, hx2, htab⟩ := List.map_eq_cons_iff.mp htab
  have hl9 := List.map_eq_nil_iff.mp htab
  subst hl9
  have hl := lv_entry ([.ref (ad 0 0), .int x, .int y, .ref (ad 45 0)]) (n := 5) (Nat.le_of_ble_eq_true rfl)
  rw [lg_entry_eq]
  generalize (lg_sl ([.ref (ad 0 0), .int x, .int y, .ref (ad 45 0)]) ++ List.replicate (5 - (lg_sl ([.ref (ad 0 0), .int x, .int y, .ref (ad 45 0)])).length) Slot.unset).toArray = ls at hl ⊢
  have hl : lv_has ls 5 [(0, .ref (ad 0 0)), (1, .int x), (2, .int y), (3, .ref (ad 45 0))] := hl
  refine lv_aload_n hx hb d_Law_found_0 rfl (lv_at hl 3 rfl) ?_
  refine lv_iconst (v := 0) hx hb d_Law_found_1 (by decide) ?_
  refine lv_aload_n hx hb d_Law_found_2 rfl (lv_at hl 0 rfl) ?_
  refine lv_iload_n hx hb d_Law_found_3 rfl (lv_at hl 1 rfl) ?_
  refine lv_iload_n hx hb d_Law_found_4 rfl (lv_at hl 2 rfl) ?_
  refine os_call (c_RF_found l hlt D cA bs σ ad x y z hRel.1 hRel.2.2.1 hRel.C.1 hRel.C.2.2.1 (fun i hi => lost_q hRel hi)) hE hV k_597 k_1 (os_inV (C := "RobotFaults") (n := 2) (bytes := prog_1_method_13_code) (maxL := 5) (ret := (some .int)) hx hb hown (hts _ k_594) (hts _ k_595) (hts _ k_596) (hts _ k_597) (by decide +kernel) rfl (os_recv hK hV rfl rfl (hRel.1.n 0 (by decide))) rfl d_Law_found_5) (hl.1.trans hml.symm) (Nat.le_of_ble_eq_true rfl) (Nat.le_of_ble_eq_true rfl) (Nat.le_of_ble_eq_true rfl) (Nat.le_of_ble_eq_true rfl) (Nat.le_of_ble_eq_true rfl) (fun v σ1 ad1 H locs hp hext hV => ?_) (fun E q ce σ1 ad1 H locs hp hext hV hce hcv hcl => ?_)
  · rcases (r_found hp).2 with ⟨v9, h9⟩ | ⟨E9, h9, -⟩
    · cases h9
      have hl45 := FM.l45 (r_found hp).1 h45.2
      obtain ⟨σ_1, rfl⟩ : ∃ z, z = σ1 := ⟨_, rfl⟩
      obtain ⟨ad_2, rfl⟩ : ∃ z, z = ad1 := ⟨_, rfl⟩
      have he_3 := hext
      have hl : lv_has ls 5 [(0, .ref (ad_2 0 0)), (1, .int x), (2, .int y), (3, .ref (ad_2 45 0))] := by rw [he_3.2.1 0 0 (hRel.1.n 0 (by decide)), he_3.2.1 45 0 h45.1]; exact hl
      refine W.eq (g2 := F0 m 8 ls [.int v9, .int 0, .ref (ad_2 45 0)]) (by rw [he_3.2.1 45 0 h45.1]; rfl) ?_
      have hr_4 : 0 < os_n σ_1 0 := Nat.lt_of_lt_of_le (hRel.1.n 0 (by decide)) (he_3.1 0)
      have hr_5 : 0 < os_n σ_1 45 := Nat.lt_of_lt_of_le h45.1 (he_3.1 45)
      refine lv_i2l (v := Int32.toInt64 v9) hx hb d_Law_found_8 rfl ?_
      refine os_lastN (v := v9) (K := 45) (i := 0) (t0 := 2) (n := 0) hx hb hK hV rfl rfl rfl hr_5 rfl (by rw [show os_l σ_1 45 0 = 1 from hl45]; decide) (by rw [show os_l σ_1 45 0 = 1 from hl45]; decide) d_Law_found_9 (fun H locs hV => ?_)
      refine lv_goto (tgt := 21) hx hb d_Law_found_10 (by decide) ?_
      refine lv_iconst (v := 0) hx hb d_Law_found_21 (by decide) ?_
      refine os_iret hx hb hr hlocks hV (Nat.le_of_ble_eq_true rfl) (Nat.le_of_ble_eq_true rfl) d_Law_found_22 ?_
      exact ⟨_, _, hp, Or.inl ⟨_, rfl, rfl, rfl⟩⟩
    · cases h9
  · rcases (r_found hp).2 with ⟨v9, h9⟩ | ⟨E9, h9, hE9⟩
    · cases h9
    · cases h9
      rcases hE9 with rfl | rfl
      · skip
        have hpass : ∀ z ∈ ([] : List ExceptionTableEntry), covers z 5 = false ∨ (z.catchType ≠ 0 ∧ ∃ nm : String, (Cond.classLink "RobotFaultsLaw" z.catchType nm).before ([.ref (ad 0 0), .int x, .int y, .ref (ad 45 0)] : List Value).toArray s = true ∧ va_Nc "java/util/NoSuchElementException" nm s) := by
          intro z hz
          exact absurd hz List.not_mem_nil
        refine os_catch (own := "RobotFaultsLaw") (name := "java/util/NoSuchElementException") hown [] x1 [x2] hL9 hpass (os_cov hx1 (by decide) (by decide)) (by rw [os_ct hx1]; decide) (by rw [os_ct hx1]; exact hts _ k_231) (hts _ k_247) hce hcv hcl ?_
        rw [os_hpc hx1]
        refine lv_astore (lv' := [(4, .ref q), (0, .ref (ad 0 0)), (1, .int x), (2, .int y), (3, .ref (ad 45 0))]) hx hb d_Law_found_13 hl (by decide) rfl (fun ls hl => ?_)
        refine lv_iconst (v := 1) hx hb d_Law_found_15 (by decide) ?_
        refine os_iret hx hb hr hlocks hV (Nat.le_of_ble_eq_true rfl) (Nat.le_of_ble_eq_true rfl) d_Law_found_16 ?_
        exact ⟨_, _, hp, Or.inr ⟨_, 1, by simp, rfl, rfl, rfl⟩⟩
      · skip
        have hpass : ∀ z ∈ ([x1] : List ExceptionTableEntry), covers z 5 = false ∨ (z.catchType ≠ 0 ∧ ∃ nm : String, (Cond.classLink "RobotFaultsLaw" z.catchType nm).before ([.ref (ad 0 0), .int x, .int y, .ref (ad 45 0)] : List Value).toArray s = true ∧ va_Nc "java/lang/IllegalStateException" nm s) := by
          intro z hz
          simp only [List.mem_cons, List.not_mem_nil, or_false] at hz
          rcases hz with rfl
          · exact Or.inr ⟨by rw [os_ct hx1]; decide, "java/util/NoSuchElementException", by rw [os_ct hx1]; exact hts _ k_231, hN ("java/lang/IllegalStateException", "java/util/NoSuchElementException") (by decide)⟩
        refine os_catch (own := "RobotFaultsLaw") (name := "java/lang/IllegalStateException") hown [x1] x2 [] hL9 hpass (os_cov hx2 (by decide) (by decide)) (by rw [os_ct hx2]; decide) (by rw [os_ct hx2]; exact hts _ k_341) (hts _ k_353) hce hcv hcl ?_
        rw [os_hpc hx2]
        refine lv_astore (lv' := [(4, .ref q), (0, .ref (ad 0 0)), (1, .int x), (2, .int y), (3, .ref (ad 45 0))]) hx hb d_Law_found_17 hl (by decide) rfl (fun ls hl => ?_)
        refine lv_iconst (v := 2) hx hb d_Law_found_19 (by decide) ?_
        refine os_iret hx hb hr hlocks hV (Nat.le_of_ble_eq_true rfl) (Nat.le_of_ble_eq_true rfl) d_Law_found_20 ?_
        exact ⟨_, _, hp, Or.inr ⟨_, 2, by simp, rfl, rfl, rfl⟩⟩
set_option maxHeartbeats 4000000 in
set_option maxRecDepth 100000 in
theorem c_Law_tow (l : Launch) (hlt : l.stackTraces = false) (D : va_G) (cA : Nat → ClassId) (bs : Nat) (σ : os_S) (ad : Nat → Nat → Nat) (x y : Int32) (z t nP : Nat) (τ0 : os_S) (hRel : Rel z t nP σ τ0) (h45 : 0 < os_n σ 45 ∧ os_l σ 45 0 = 1) : os_MetH l y_Law_tow method_15_code 4 (some .int) [(0, 6, 9, 19), (0, 6, 12, 34)] { frames := 8, cells := 3, slots := 18, locals := 141 } D cA bs [.ref (ad 0 0), .int x, .int y] σ ad (hV0 [("java/util/NoSuchElementException", 1), ("java/lang/IllegalStateException", 2)] (q_tow σ ad x y)) := by
  refine os_ofWH (by decide) ?_
  intro p e s m below meth c hx hb hr hml hown hlocks hmn htab hE hN hV
  have hts := hE.hts (args := ([.ref (ad 0 0), .int x, .int y] : List Value).toArray)
  have hK := hE.2.1
  have hbs := hE.2.2.1
  have hown : s.vm.findClass "RobotFaultsLaw" = some m.cls := hown
  obtain ⟨x1, l1, hL9, hx1, htab⟩ := List.map_eq_cons_iff.mp htab
  obtain ⟨x2, l2, rfl, hx2, htab⟩ := List.map_eq_cons_iff.mp htab
  have hl9 := List.map_eq_nil_iff.mp htab
  subst hl9
  have hl := lv_entry ([.ref (ad 0 0), .int x, .int y]) (n := 4) (Nat.le_of_ble_eq_true rfl)
  rw [lg_entry_eq]
  generalize (lg_sl ([.ref (ad 0 0), .int x, .int y]) ++ List.replicate (4 - (lg_sl ([.ref (ad 0 0), .int x, .int y])).length) Slot.unset).toArray = ls at hl ⊢
  have hl : lv_has ls 4 [(0, .ref (ad 0 0)), (1, .int x), (2, .int y)] := hl
  refine lv_aload_n hx hb d_Law_tow_0 rfl (lv_at hl 0 rfl) ?_
  refine lv_iload_n hx hb d_Law_tow_1 rfl (lv_at hl 1 rfl) ?_
  refine lv_iload_n hx hb d_Law_tow_2 rfl (lv_at hl 2 rfl) ?_
  refine os_call (c_RF_tow l hlt D cA bs σ ad x y hRel.1 hRel.2.2.1) hE hV k_610 k_1 (os_inV (C := "RobotFaults") (n := 2) (bytes := prog_1_method_14_code) (maxL := 4) (ret := none) hx hb hown (hts _ k_607) (hts _ k_608) (hts _ k_609) (hts _ k_610) (by decide +kernel) rfl (os_recv hK hV rfl rfl (hRel.1.n 0 (by decide))) rfl d_Law_tow_3) (hl.1.trans hml.symm) (Nat.le_of_ble_eq_true rfl) (Nat.le_of_ble_eq_true rfl) (Nat.le_of_ble_eq_true rfl) (Nat.le_of_ble_eq_true rfl) (Nat.le_of_ble_eq_true rfl) (fun v σ1 ad1 H locs hp hext hV => ?_) (fun E q ce σ1 ad1 H locs hp hext hV hce hcv hcl => ?_)
  · rcases (r_tow hp).2 with h9 | ⟨E9, h9, -⟩
    · cases h9
      have hl45 := FM.l45 (r_tow hp).1 h45.2
      obtain ⟨σ_1, rfl⟩ : ∃ z, z = σ1 := ⟨_, rfl⟩
      obtain ⟨ad_2, rfl⟩ : ∃ z, z = ad1 := ⟨_, rfl⟩
      have he_3 := hext
      have hl : lv_has ls 4 [(0, .ref (ad_2 0 0)), (1, .int x), (2, .int y)] := by rw [he_3.2.1 0 0 (hRel.1.n 0 (by decide))]; exact hl
      refine W.eq (g2 := F0 m 6 ls []) rfl ?_
      have hr_4 : 0 < os_n σ_1 0 := Nat.lt_of_lt_of_le (hRel.1.n 0 (by decide)) (he_3.1 0)
      refine lv_goto (tgt := 15) hx hb d_Law_tow_6 (by decide) ?_
      refine lv_iconst (v := 0) hx hb d_Law_tow_15 (by decide) ?_
      refine os_iret hx hb hr hlocks hV (Nat.le_of_ble_eq_true rfl) (Nat.le_of_ble_eq_true rfl) d_Law_tow_16 ?_
      exact ⟨_, _, hp, Or.inl ⟨rfl, rfl, rfl⟩⟩
    · cases h9
  · rcases (r_tow hp).2 with h9 | ⟨E9, h9, hE9⟩
    · cases h9
    · cases h9
      rcases hE9 with rfl | rfl
      · skip
        have hpass : ∀ z ∈ ([] : List ExceptionTableEntry), covers z 3 = false ∨ (z.catchType ≠ 0 ∧ ∃ nm : String, (Cond.classLink "RobotFaultsLaw" z.catchType nm).before ([.ref (ad 0 0), .int x, .int y] : List Value).toArray s = true ∧ va_Nc "java/util/NoSuchElementException" nm s) := by
          intro z hz
          exact absurd hz List.not_mem_nil
        refine os_catch (own := "RobotFaultsLaw") (name := "java/util/NoSuchElementException") hown [] x1 [x2] hL9 hpass (os_cov hx1 (by decide) (by decide)) (by rw [os_ct hx1]; decide) (by rw [os_ct hx1]; exact hts _ k_231) (hts _ k_247) hce hcv hcl ?_
        rw [os_hpc hx1]
        refine lv_astore_n (lv' := [(3, .ref q), (0, .ref (ad 0 0)), (1, .int x), (2, .int y)]) hx hb d_Law_tow_9 rfl hl (by decide) rfl (fun ls hl => ?_)
        refine lv_iconst (v := 1) hx hb d_Law_tow_10 (by decide) ?_
        refine os_iret hx hb hr hlocks hV (Nat.le_of_ble_eq_true rfl) (Nat.le_of_ble_eq_true rfl) d_Law_tow_11 ?_
        exact ⟨_, _, hp, Or.inr ⟨_, 1, by simp, rfl, rfl, rfl⟩⟩
      · skip
        have hpass : ∀ z ∈ ([x1] : List ExceptionTableEntry), covers z 3 = false ∨ (z.catchType ≠ 0 ∧ ∃ nm : String, (Cond.classLink "RobotFaultsLaw" z.catchType nm).before ([.ref (ad 0 0), .int x, .int y] : List Value).toArray s = true ∧ va_Nc "java/lang/IllegalStateException" nm s) := by
          intro z hz
          simp only [List.mem_cons, List.not_mem_nil, or_false] at hz
          rcases hz with rfl
          · exact Or.inr ⟨by rw [os_ct hx1]; decide, "java/util/NoSuchElementException", by rw [os_ct hx1]; exact hts _ k_231, hN ("java/lang/IllegalStateException", "java/util/NoSuchElementException") (by decide)⟩
        refine os_catch (own := "RobotFaultsLaw") (name := "java/lang/IllegalStateException") hown [x1] x2 [] hL9 hpass (os_cov hx2 (by decide) (by decide)) (by rw [os_ct hx2]; decide) (by rw [os_ct hx2]; exact hts _ k_341) (hts _ k_353) hce hcv hcl ?_
        rw [os_hpc hx2]
        refine lv_astore_n (lv' := [(3, .ref q), (0, .ref (ad 0 0)), (1, .int x), (2, .int y)]) hx hb d_Law_tow_12 rfl hl (by decide) rfl (fun ls hl => ?_)
        refine lv_iconst (v := 2) hx hb d_Law_tow_13 (by decide) ?_
        refine os_iret hx hb hr hlocks hV (Nat.le_of_ble_eq_true rfl) (Nat.le_of_ble_eq_true rfl) d_Law_tow_14 ?_
        exact ⟨_, _, hp, Or.inr ⟨_, 2, by simp, rfl, rfl, rfl⟩⟩
set_option maxHeartbeats 4000000 in
set_option maxRecDepth 100000 in
theorem c_Law_plant (l : Launch) (hlt : l.stackTraces = false) (D : va_G) (cA : Nat → ClassId) (bs : Nat) (σ : os_S) (ad : Nat → Nat → Nat) (x y s9 : Int32) (z t nP : Nat) (τ0 : os_S) (hRel : Rel z t nP σ τ0) (h45 : 0 < os_n σ 45 ∧ os_l σ 45 0 = 1) : os_MetH l y_Law_plant method_16_code 5 (some .int) [(0, 7, 10, 19), (0, 7, 14, 21), (0, 7, 18, 13)] { frames := 8, cells := 3, slots := 18, locals := 142 } D cA bs [.ref (ad 0 0), .int x, .int y, .int s9] σ ad (hV0 [("java/util/NoSuchElementException", 1), ("java/lang/IllegalArgumentException", 2), ("java/lang/UnsupportedOperationException", 3)] (q_plant σ nP x y s9)) := by
  refine os_ofWH (by decide) ?_
  intro p e s m below meth c hx hb hr hml hown hlocks hmn htab hE hN hV
  have hts := hE.hts (args := ([.ref (ad 0 0), .int x, .int y, .int s9] : List Value).toArray)
  have hK := hE.2.1
  have hbs := hE.2.2.1
  have hown : s.vm.findClass "RobotFaultsLaw" = some m.cls := hown
  obtain ⟨x1, l1, hL9, hx1, htab⟩ := List.map_eq_cons_iff.mp htab
  obtain ⟨x2, l2, rfl, hx2, htab⟩ := List.map_eq_cons_iff.mp htab
  obtain ⟨x3, l3, rfl, hx3, htab⟩ := List.map_eq_cons_iff.mp htab
  have hl9 := List.map_eq_nil_iff.mp htab
  subst hl9
  have hl := lv_entry ([.ref (ad 0 0), .int x, .int y, .int s9]) (n := 5) (Nat.le_of_ble_eq_true rfl)
  rw [lg_entry_eq]
  generalize (lg_sl ([.ref (ad 0 0), .int x, .int y, .int s9]) ++ List.replicate (5 - (lg_sl ([.ref (ad 0 0), .int x, .int y, .int s9])).length) Slot.unset).toArray = ls at hl ⊢
  have hl : lv_has ls 5 [(0, .ref (ad 0 0)), (1, .int x), (2, .int y), (3, .int s9)] := hl
  refine lv_aload_n hx hb d_Law_plant_0 rfl (lv_at hl 0 rfl) ?_
  refine lv_iload_n hx hb d_Law_plant_1 rfl (lv_at hl 1 rfl) ?_
  refine lv_iload_n hx hb d_Law_plant_2 rfl (lv_at hl 2 rfl) ?_
  refine lv_iload_n hx hb d_Law_plant_3 rfl (lv_at hl 3 rfl) ?_
  refine os_call (c_RF_plant l hlt D cA bs σ ad x y s9 hRel.1 hRel.2.2.1 nP hRel.C.2.2.2.2.2.2.2.2.2.2.2.1 hRel.C.2.2.2.2.2.2.2.2.2.1) hE hV k_618 k_1 (os_inV (C := "RobotFaults") (n := 3) (bytes := prog_1_method_15_code) (maxL := 5) (ret := none) hx hb hown (hts _ k_615) (hts _ k_616) (hts _ k_617) (hts _ k_618) (by decide +kernel) rfl (os_recv hK hV rfl rfl (hRel.1.n 0 (by decide))) rfl d_Law_plant_4) (hl.1.trans hml.symm) (Nat.le_of_ble_eq_true rfl) (Nat.le_of_ble_eq_true rfl) (Nat.le_of_ble_eq_true rfl) (Nat.le_of_ble_eq_true rfl) (Nat.le_of_ble_eq_true rfl) (fun v σ1 ad1 H locs hp hext hV => ?_) (fun E q ce σ1 ad1 H locs hp hext hV hce hcv hcl => ?_)
  · rcases (r_plant hp).2 with h9 | ⟨E9, h9, -⟩
    · cases h9
      have hl45 := FM.l45 (r_plant hp).1 h45.2
      obtain ⟨σ_1, rfl⟩ : ∃ z, z = σ1 := ⟨_, rfl⟩
      obtain ⟨ad_2, rfl⟩ : ∃ z, z = ad1 := ⟨_, rfl⟩
      have he_3 := hext
      have hl : lv_has ls 5 [(0, .ref (ad_2 0 0)), (1, .int x), (2, .int y), (3, .int s9)] := by rw [he_3.2.1 0 0 (hRel.1.n 0 (by decide))]; exact hl
      refine W.eq (g2 := F0 m 7 ls []) rfl ?_
      have hr_4 : 0 < os_n σ_1 0 := Nat.lt_of_lt_of_le (hRel.1.n 0 (by decide)) (he_3.1 0)
      refine lv_goto (tgt := 22) hx hb d_Law_plant_7 (by decide) ?_
      refine lv_iconst (v := 0) hx hb d_Law_plant_22 (by decide) ?_
      refine os_iret hx hb hr hlocks hV (Nat.le_of_ble_eq_true rfl) (Nat.le_of_ble_eq_true rfl) d_Law_plant_23 ?_
      exact ⟨_, _, hp, Or.inl ⟨rfl, rfl, rfl⟩⟩
    · cases h9
  · rcases (r_plant hp).2 with h9 | ⟨E9, h9, hE9⟩
    · cases h9
    · cases h9
      rcases hE9 with rfl | rfl | rfl
      · skip
        have hpass : ∀ z ∈ ([] : List ExceptionTableEntry), covers z 4 = false ∨ (z.catchType ≠ 0 ∧ ∃ nm : String, (Cond.classLink "RobotFaultsLaw" z.catchType nm).before ([.ref (ad 0 0), .int x, .int y, .int s9] : List Value).toArray s = true ∧ va_Nc "java/util/NoSuchElementException" nm s) := by
          intro z hz
          exact absurd hz List.not_mem_nil
        refine os_catch (own := "RobotFaultsLaw") (name := "java/util/NoSuchElementException") hown [] x1 [x2, x3] hL9 hpass (os_cov hx1 (by decide) (by decide)) (by rw [os_ct hx1]; decide) (by rw [os_ct hx1]; exact hts _ k_231) (hts _ k_247) hce hcv hcl ?_
        rw [os_hpc hx1]
        refine lv_astore (lv' := [(4, .ref q), (0, .ref (ad 0 0)), (1, .int x), (2, .int y), (3, .int s9)]) hx hb d_Law_plant_10 hl (by decide) rfl (fun ls hl => ?_)
        refine lv_iconst (v := 1) hx hb d_Law_plant_12 (by decide) ?_
        refine os_iret hx hb hr hlocks hV (Nat.le_of_ble_eq_true rfl) (Nat.le_of_ble_eq_true rfl) d_Law_plant_13 ?_
        exact ⟨_, _, hp, Or.inr ⟨_, 1, by simp, rfl, rfl, rfl⟩⟩
      · skip
        have hpass : ∀ z ∈ ([x1] : List ExceptionTableEntry), covers z 4 = false ∨ (z.catchType ≠ 0 ∧ ∃ nm : String, (Cond.classLink "RobotFaultsLaw" z.catchType nm).before ([.ref (ad 0 0), .int x, .int y, .int s9] : List Value).toArray s = true ∧ va_Nc "java/lang/IllegalArgumentException" nm s) := by
          intro z hz
          simp only [List.mem_cons, List.not_mem_nil, or_false] at hz
          rcases hz with rfl
          · exact Or.inr ⟨by rw [os_ct hx1]; decide, "java/util/NoSuchElementException", by rw [os_ct hx1]; exact hts _ k_231, hN ("java/lang/IllegalArgumentException", "java/util/NoSuchElementException") (by decide)⟩
        refine os_catch (own := "RobotFaultsLaw") (name := "java/lang/IllegalArgumentException") hown [x1] x2 [x3] hL9 hpass (os_cov hx2 (by decide) (by decide)) (by rw [os_ct hx2]; decide) (by rw [os_ct hx2]; exact hts _ k_232) (hts _ k_263) hce hcv hcl ?_
        rw [os_hpc hx2]
        refine lv_astore (lv' := [(4, .ref q), (0, .ref (ad 0 0)), (1, .int x), (2, .int y), (3, .int s9)]) hx hb d_Law_plant_14 hl (by decide) rfl (fun ls hl => ?_)
        refine lv_iconst (v := 2) hx hb d_Law_plant_16 (by decide) ?_
        refine os_iret hx hb hr hlocks hV (Nat.le_of_ble_eq_true rfl) (Nat.le_of_ble_eq_true rfl) d_Law_plant_17 ?_
        exact ⟨_, _, hp, Or.inr ⟨_, 2, by simp, rfl, rfl, rfl⟩⟩
      · skip
        have hpass : ∀ z ∈ ([x1, x2] : List ExceptionTableEntry), covers z 4 = false ∨ (z.catchType ≠ 0 ∧ ∃ nm : String, (Cond.classLink "RobotFaultsLaw" z.catchType nm).before ([.ref (ad 0 0), .int x, .int y, .int s9] : List Value).toArray s = true ∧ va_Nc "java/lang/UnsupportedOperationException" nm s) := by
          intro z hz
          simp only [List.mem_cons, List.not_mem_nil, or_false] at hz
          rcases hz with rfl | rfl
          · exact Or.inr ⟨by rw [os_ct hx1]; decide, "java/util/NoSuchElementException", by rw [os_ct hx1]; exact hts _ k_231, hN ("java/lang/UnsupportedOperationException", "java/util/NoSuchElementException") (by decide)⟩
          · exact Or.inr ⟨by rw [os_ct hx2]; decide, "java/lang/IllegalArgumentException", by rw [os_ct hx2]; exact hts _ k_232, hN ("java/lang/UnsupportedOperationException", "java/lang/IllegalArgumentException") (by decide)⟩
        refine os_catch (own := "RobotFaultsLaw") (name := "java/lang/UnsupportedOperationException") hown [x1, x2] x3 [] hL9 hpass (os_cov hx3 (by decide) (by decide)) (by rw [os_ct hx3]; decide) (by rw [os_ct hx3]; exact hts _ k_146) (hts _ k_157) hce hcv hcl ?_
        rw [os_hpc hx3]
        refine lv_astore (lv' := [(4, .ref q), (0, .ref (ad 0 0)), (1, .int x), (2, .int y), (3, .int s9)]) hx hb d_Law_plant_18 hl (by decide) rfl (fun ls hl => ?_)
        refine lv_iconst (v := 3) hx hb d_Law_plant_20 (by decide) ?_
        refine os_iret hx hb hr hlocks hV (Nat.le_of_ble_eq_true rfl) (Nat.le_of_ble_eq_true rfl) d_Law_plant_21 ?_
        exact ⟨_, _, hp, Or.inr ⟨_, 3, by simp, rfl, rfl, rfl⟩⟩
set_option maxHeartbeats 4000000 in
set_option maxRecDepth 100000 in
theorem c_Law_pass (l : Launch) (hlt : l.stackTraces = false) (D : va_G) (cA : Nat → ClassId) (bs : Nat) (σ : os_S) (ad : Nat → Nat → Nat) (x : Int32) (z t nP : Nat) (τ0 : os_S) (hRel : Rel z t nP σ τ0) (h45 : 0 < os_n σ 45 ∧ os_l σ 45 0 = 1) : os_MetH l y_Law_pass method_17_code 4 (some .int) [(0, 9, 12, 21)] { frames := 8, cells := 21, slots := 196, locals := 208 } D cA bs [.ref (ad 0 0), .int x, .ref (ad 45 0)] σ ad (hI [("java/lang/IllegalArgumentException", 1)] (q_pass σ x)) := by
  refine os_ofWH (by decide) ?_
  intro p e s m below meth c hx hb hr hml hown hlocks hmn htab hE hN hV
  have hts := hE.hts (args := ([.ref (ad 0 0), .int x, .ref (ad 45 0)] : List Value).toArray)
  have hK := hE.2.1
  have hbs := hE.2.2.1
  have hown : s.vm.findClass "RobotFaultsLaw" = some m.cls := hown
  obtain ⟨x1, l1, hL9, hx1, htab⟩ := List.map_eq_cons_iff.mp htab
  have hl9 := List.map_eq_nil_iff.mp htab
  subst hl9
  have hl := lv_entry ([.ref (ad 0 0), .int x, .ref (ad 45 0)]) (n := 4) (Nat.le_of_ble_eq_true rfl)
  rw [lg_entry_eq]
  generalize (lg_sl ([.ref (ad 0 0), .int x, .ref (ad 45 0)]) ++ List.replicate (4 - (lg_sl ([.ref (ad 0 0), .int x, .ref (ad 45 0)])).length) Slot.unset).toArray = ls at hl ⊢
  have hl : lv_has ls 4 [(0, .ref (ad 0 0)), (1, .int x), (2, .ref (ad 45 0))] := hl
  refine lv_aload_n hx hb d_Law_pass_0 rfl (lv_at hl 2 rfl) ?_
  refine lv_iconst (v := 0) hx hb d_Law_pass_1 (by decide) ?_
  refine lv_aload_n hx hb d_Law_pass_2 rfl (lv_at hl 0 rfl) ?_
  refine lv_iload_n hx hb d_Law_pass_3 rfl (lv_at hl 1 rfl) ?_
  refine os_call (c_RF_pass l hlt D cA bs σ ad x z t nP τ0 hRel) hE hV k_645 k_1 (os_inV (C := "RobotFaults") (n := 1) (bytes := prog_1_method_16_code) (maxL := 5) (ret := (some .int)) hx hb hown (hts _ k_642) (hts _ k_643) (hts _ k_644) (hts _ k_645) (by decide +kernel) rfl (os_recv hK hV rfl rfl (hRel.1.n 0 (by decide))) rfl d_Law_pass_4) (hl.1.trans hml.symm) (Nat.le_of_ble_eq_true rfl) (Nat.le_of_ble_eq_true rfl) (Nat.le_of_ble_eq_true rfl) (Nat.le_of_ble_eq_true rfl) (Nat.le_of_ble_eq_true rfl) (fun v σ1 ad1 H locs hp hext hV => ?_) (fun E q ce σ1 ad1 H locs hp hext hV hce hcv hcl => ?_)
  · rcases (r_pass hp).2 with ⟨v9, h9⟩ | ⟨E9, h9, -⟩
    · cases h9
      have hl45 := FM.l45 (r_pass hp).1 h45.2
      obtain ⟨σ_1, rfl⟩ : ∃ z, z = σ1 := ⟨_, rfl⟩
      obtain ⟨ad_2, rfl⟩ : ∃ z, z = ad1 := ⟨_, rfl⟩
      have he_3 := hext
      have hl : lv_has ls 4 [(0, .ref (ad_2 0 0)), (1, .int x), (2, .ref (ad_2 45 0))] := by rw [he_3.2.1 0 0 (hRel.1.n 0 (by decide)), he_3.2.1 45 0 h45.1]; exact hl
      refine W.eq (g2 := F0 m 7 ls [.int v9, .int 0, .ref (ad_2 45 0)]) (by rw [he_3.2.1 45 0 h45.1]; rfl) ?_
      have hr_4 : 0 < os_n σ_1 0 := Nat.lt_of_lt_of_le (hRel.1.n 0 (by decide)) (he_3.1 0)
      have hr_5 : 0 < os_n σ_1 45 := Nat.lt_of_lt_of_le h45.1 (he_3.1 45)
      refine lv_i2l (v := Int32.toInt64 v9) hx hb d_Law_pass_7 rfl ?_
      refine os_lastN (v := v9) (K := 45) (i := 0) (t0 := 2) (n := 0) hx hb hK hV rfl rfl rfl hr_5 rfl (by rw [show os_l σ_1 45 0 = 1 from hl45]; decide) (by rw [show os_l σ_1 45 0 = 1 from hl45]; decide) d_Law_pass_8 (fun H locs hV => ?_)
      refine lv_goto (tgt := 15) hx hb d_Law_pass_9 (by decide) ?_
      refine lv_iconst (v := 0) hx hb d_Law_pass_15 (by decide) ?_
      refine os_iret hx hb hr hlocks hV (Nat.le_of_ble_eq_true rfl) (Nat.le_of_ble_eq_true rfl) d_Law_pass_16 ?_
      exact ⟨_, _, hp, Or.inl ⟨_, rfl, rfl, rfl⟩⟩
    · cases h9
  · rcases (r_pass hp).2 with ⟨v9, h9⟩ | ⟨E9, h9, hE9⟩
    · cases h9
    · cases h9
      subst hE9
      have hpass : ∀ z ∈ ([] : List ExceptionTableEntry), covers z 4 = false ∨ (z.catchType ≠ 0 ∧ ∃ nm : String, (Cond.classLink "RobotFaultsLaw" z.catchType nm).before ([.ref (ad 0 0), .int x, .ref (ad 45 0)] : List Value).toArray s = true ∧ va_Nc "java/lang/IllegalArgumentException" nm s) := by
        intro z hz
        exact absurd hz List.not_mem_nil
      refine os_catch (own := "RobotFaultsLaw") (name := "java/lang/IllegalArgumentException") hown [] x1 [] hL9 hpass (os_cov hx1 (by decide) (by decide)) (by rw [os_ct hx1]; decide) (by rw [os_ct hx1]; exact hts _ k_232) (hts _ k_263) hce hcv hcl ?_
      rw [os_hpc hx1]
      refine lv_astore_n (lv' := [(3, .ref q), (0, .ref (ad 0 0)), (1, .int x), (2, .ref (ad 45 0))]) hx hb d_Law_pass_12 rfl hl (by decide) rfl (fun ls hl => ?_)
      refine lv_iconst (v := 1) hx hb d_Law_pass_13 (by decide) ?_
      refine os_iret hx hb hr hlocks hV (Nat.le_of_ble_eq_true rfl) (Nat.le_of_ble_eq_true rfl) d_Law_pass_14 ?_
      exact ⟨_, _, hp, Or.inr ⟨_, 1, by simp, rfl, rfl, rfl⟩⟩
set_option maxHeartbeats 4000000 in
set_option maxRecDepth 100000 in
theorem c_Law_acknowledge (l : Launch) (hlt : l.stackTraces = false) (D : va_G) (cA : Nat → ClassId) (bs : Nat) (σ : os_S) (ad : Nat → Nat → Nat) (x y : Int32) (z t nP : Nat) (τ0 : os_S) (hRel : Rel z t nP σ τ0) (h45 : 0 < os_n σ 45 ∧ os_l σ 45 0 = 1) : os_MetH l y_Law_acknowledge method_18_code 5 (some .int) [(0, 10, 13, 19), (0, 10, 17, 21), (0, 10, 21, 34)] { frames := 8, cells := 3, slots := 18, locals := 141 } D cA bs [.ref (ad 0 0), .int x, .int y, .ref (ad 45 0)] σ ad (hI [("java/util/NoSuchElementException", 1), ("java/lang/IllegalArgumentException", 2), ("java/lang/IllegalStateException", 3)] (q_ack σ ad x y)) := by
  refine os_ofWH (by decide) ?_
  intro p e s m below meth c hx hb hr hml hown hlocks hmn htab hE hN hV
  have hts := hE.hts (args := ([.ref (ad 0 0), .int x, .int y, .ref (ad 45 0)] : List Value).toArray)
  have hK := hE.2.1
  have hbs := hE.2.2.1
  have hown : s.vm.findClass "RobotFaultsLaw" = some m.cls := hown
  obtain ⟨x1, l1, hL9, hx1, htab⟩ := List.map_eq_cons_iff.mp htab
  obtain ⟨x2, l2, rfl, hx2, htab⟩ := List.map_eq_cons_iff.mp htab
  obtain ⟨x3, l3, rfl, hx3, htab⟩ := List.map_eq_cons_iff.mp htab
  have hl9 := List.map_eq_nil_iff.mp htab
  subst hl9
  have hl := lv_entry ([.ref (ad 0 0), .int x, .int y, .ref (ad 45 0)]) (n := 5) (Nat.le_of_ble_eq_true rfl)
  rw [lg_entry_eq]
  generalize (lg_sl ([.ref (ad 0 0), .int x, .int y, .ref (ad 45 0)]) ++ List.replicate (5 - (lg_sl ([.ref (ad 0 0), .int x, .int y, .ref (ad 45 0)])).length) Slot.unset).toArray = ls at hl ⊢
  have hl : lv_has ls 5 [(0, .ref (ad 0 0)), (1, .int x), (2, .int y), (3, .ref (ad 45 0))] := hl
  refine lv_aload_n hx hb d_Law_acknowledge_0 rfl (lv_at hl 3 rfl) ?_
  refine lv_iconst (v := 0) hx hb d_Law_acknowledge_1 (by decide) ?_
  refine lv_aload_n hx hb d_Law_acknowledge_2 rfl (lv_at hl 0 rfl) ?_
  refine lv_iload_n hx hb d_Law_acknowledge_3 rfl (lv_at hl 1 rfl) ?_
  refine lv_iload_n hx hb d_Law_acknowledge_4 rfl (lv_at hl 2 rfl) ?_
  refine os_call (c_RF_acknowledge l hlt D cA bs σ ad x y hRel.1 hRel.2.2.2.2.1) hE hV k_688 k_1 (os_inV (C := "RobotFaults") (n := 2) (bytes := prog_1_method_17_code) (maxL := 4) (ret := (some .int)) hx hb hown (hts _ k_685) (hts _ k_686) (hts _ k_687) (hts _ k_688) (by decide +kernel) rfl (os_recv hK hV rfl rfl (hRel.1.n 0 (by decide))) rfl d_Law_acknowledge_5) (hl.1.trans hml.symm) (Nat.le_of_ble_eq_true rfl) (Nat.le_of_ble_eq_true rfl) (Nat.le_of_ble_eq_true rfl) (Nat.le_of_ble_eq_true rfl) (Nat.le_of_ble_eq_true rfl) (fun v σ1 ad1 H locs hp hext hV => ?_) (fun E q ce σ1 ad1 H locs hp hext hV hce hcv hcl => ?_)
  · rcases (r_acknowledge hp).2 with ⟨v9, h9⟩ | ⟨E9, h9, -⟩
    · cases h9
      have hl45 := FM.l45 (r_acknowledge hp).1 h45.2
      obtain ⟨σ_1, rfl⟩ : ∃ z, z = σ1 := ⟨_, rfl⟩
      obtain ⟨ad_2, rfl⟩ : ∃ z, z = ad1 := ⟨_, rfl⟩
      have he_3 := hext
      have hl : lv_has ls 5 [(0, .ref (ad_2 0 0)), (1, .int x), (2, .int y), (3, .ref (ad_2 45 0))] := by rw [he_3.2.1 0 0 (hRel.1.n 0 (by decide)), he_3.2.1 45 0 h45.1]; exact hl
      refine W.eq (g2 := F0 m 8 ls [.int v9, .int 0, .ref (ad_2 45 0)]) (by rw [he_3.2.1 45 0 h45.1]; rfl) ?_
      have hr_4 : 0 < os_n σ_1 0 := Nat.lt_of_lt_of_le (hRel.1.n 0 (by decide)) (he_3.1 0)
      have hr_5 : 0 < os_n σ_1 45 := Nat.lt_of_lt_of_le h45.1 (he_3.1 45)
      refine lv_i2l (v := Int32.toInt64 v9) hx hb d_Law_acknowledge_8 rfl ?_
      refine os_lastN (v := v9) (K := 45) (i := 0) (t0 := 2) (n := 0) hx hb hK hV rfl rfl rfl hr_5 rfl (by rw [show os_l σ_1 45 0 = 1 from hl45]; decide) (by rw [show os_l σ_1 45 0 = 1 from hl45]; decide) d_Law_acknowledge_9 (fun H locs hV => ?_)
      refine lv_goto (tgt := 25) hx hb d_Law_acknowledge_10 (by decide) ?_
      refine lv_iconst (v := 0) hx hb d_Law_acknowledge_25 (by decide) ?_
      refine os_iret hx hb hr hlocks hV (Nat.le_of_ble_eq_true rfl) (Nat.le_of_ble_eq_true rfl) d_Law_acknowledge_26 ?_
      exact ⟨_, _, hp, Or.inl ⟨_, rfl, rfl, rfl⟩⟩
    · cases h9
  · rcases (r_acknowledge hp).2 with ⟨v9, h9⟩ | ⟨E9, h9, hE9⟩
    · cases h9
    · cases h9
      rcases hE9 with rfl | rfl | rfl
      · skip
        have hpass : ∀ z ∈ ([] : List ExceptionTableEntry), covers z 5 = false ∨ (z.catchType ≠ 0 ∧ ∃ nm : String, (Cond.classLink "RobotFaultsLaw" z.catchType nm).before ([.ref (ad 0 0), .int x, .int y, .ref (ad 45 0)] : List Value).toArray s = true ∧ va_Nc "java/util/NoSuchElementException" nm s) := by
          intro z hz
          exact absurd hz List.not_mem_nil
        refine os_catch (own := "RobotFaultsLaw") (name := "java/util/NoSuchElementException") hown [] x1 [x2, x3] hL9 hpass (os_cov hx1 (by decide) (by decide)) (by rw [os_ct hx1]; decide) (by rw [os_ct hx1]; exact hts _ k_231) (hts _ k_247) hce hcv hcl ?_
        rw [os_hpc hx1]
        refine lv_astore (lv' := [(4, .ref q), (0, .ref (ad 0 0)), (1, .int x), (2, .int y), (3, .ref (ad 45 0))]) hx hb d_Law_acknowledge_13 hl (by decide) rfl (fun ls hl => ?_)
        refine lv_iconst (v := 1) hx hb d_Law_acknowledge_15 (by decide) ?_
        refine os_iret hx hb hr hlocks hV (Nat.le_of_ble_eq_true rfl) (Nat.le_of_ble_eq_true rfl) d_Law_acknowledge_16 ?_
        exact ⟨_, _, hp, Or.inr ⟨_, 1, by simp, rfl, rfl, rfl⟩⟩
      · skip
        have hpass : ∀ z ∈ ([x1] : List ExceptionTableEntry), covers z 5 = false ∨ (z.catchType ≠ 0 ∧ ∃ nm : String, (Cond.classLink "RobotFaultsLaw" z.catchType nm).before ([.ref (ad 0 0), .int x, .int y, .ref (ad 45 0)] : List Value).toArray s = true ∧ va_Nc "java/lang/IllegalArgumentException" nm s) := by
          intro z hz
          simp only [List.mem_cons, List.not_mem_nil, or_false] at hz
          rcases hz with rfl
          · exact Or.inr ⟨by rw [os_ct hx1]; decide, "java/util/NoSuchElementException", by rw [os_ct hx1]; exact hts _ k_231, hN ("java/lang/IllegalArgumentException", "java/util/NoSuchElementException") (by decide)⟩
        refine os_catch (own := "RobotFaultsLaw") (name := "java/lang/IllegalArgumentException") hown [x1] x2 [x3] hL9 hpass (os_cov hx2 (by decide) (by decide)) (by rw [os_ct hx2]; decide) (by rw [os_ct hx2]; exact hts _ k_232) (hts _ k_263) hce hcv hcl ?_
        rw [os_hpc hx2]
        refine lv_astore (lv' := [(4, .ref q), (0, .ref (ad 0 0)), (1, .int x), (2, .int y), (3, .ref (ad 45 0))]) hx hb d_Law_acknowledge_17 hl (by decide) rfl (fun ls hl => ?_)
        refine lv_iconst (v := 2) hx hb d_Law_acknowledge_19 (by decide) ?_
        refine os_iret hx hb hr hlocks hV (Nat.le_of_ble_eq_true rfl) (Nat.le_of_ble_eq_true rfl) d_Law_acknowledge_20 ?_
        exact ⟨_, _, hp, Or.inr ⟨_, 2, by simp, rfl, rfl, rfl⟩⟩
      · skip
        have hpass : ∀ z ∈ ([x1, x2] : List ExceptionTableEntry), covers z 5 = false ∨ (z.catchType ≠ 0 ∧ ∃ nm : String, (Cond.classLink "RobotFaultsLaw" z.catchType nm).before ([.ref (ad 0 0), .int x, .int y, .ref (ad 45 0)] : List Value).toArray s = true ∧ va_Nc "java/lang/IllegalStateException" nm s) := by
          intro z hz
          simp only [List.mem_cons, List.not_mem_nil, or_false] at hz
          rcases hz with rfl | rfl
          · exact Or.inr ⟨by rw [os_ct hx1]; decide, "java/util/NoSuchElementException", by rw [os_ct hx1]; exact hts _ k_231, hN ("java/lang/IllegalStateException", "java/util/NoSuchElementException") (by decide)⟩
          · exact Or.inr ⟨by rw [os_ct hx2]; decide, "java/lang/IllegalArgumentException", by rw [os_ct hx2]; exact hts _ k_232, hN ("java/lang/IllegalStateException", "java/lang/IllegalArgumentException") (by decide)⟩
        refine os_catch (own := "RobotFaultsLaw") (name := "java/lang/IllegalStateException") hown [x1, x2] x3 [] hL9 hpass (os_cov hx3 (by decide) (by decide)) (by rw [os_ct hx3]; decide) (by rw [os_ct hx3]; exact hts _ k_341) (hts _ k_353) hce hcv hcl ?_
        rw [os_hpc hx3]
        refine lv_astore (lv' := [(4, .ref q), (0, .ref (ad 0 0)), (1, .int x), (2, .int y), (3, .ref (ad 45 0))]) hx hb d_Law_acknowledge_21 hl (by decide) rfl (fun ls hl => ?_)
        refine lv_iconst (v := 3) hx hb d_Law_acknowledge_23 (by decide) ?_
        refine os_iret hx hb hr hlocks hV (Nat.le_of_ble_eq_true rfl) (Nat.le_of_ble_eq_true rfl) d_Law_acknowledge_24 ?_
        exact ⟨_, _, hp, Or.inr ⟨_, 3, by simp, rfl, rfl, rfl⟩⟩
set_option maxHeartbeats 4000000 in
set_option maxRecDepth 100000 in
theorem c_Law_alarm (l : Launch) (hlt : l.stackTraces = false) (D : va_G) (cA : Nat → ClassId) (bs : Nat) (σ : os_S) (ad : Nat → Nat → Nat) (x y : Int32) (z t nP : Nat) (τ0 : os_S) (hRel : Rel z t nP σ τ0) (h45 : 0 < os_n σ 45 ∧ os_l σ 45 0 = 1) : os_MetH l y_Law_alarm method_19_code 5 (some .int) [(0, 10, 13, 19), (0, 10, 17, 21)] { frames := 8, cells := 2, slots := 12, locals := 141 } D cA bs [.ref (ad 0 0), .int x, .int y, .ref (ad 45 0)] σ ad (hI [("java/util/NoSuchElementException", 1), ("java/lang/IllegalArgumentException", 2)] (q_alarm σ ad x y)) := by
  refine os_ofWH (by decide) ?_
  intro p e s m below meth c hx hb hr hml hown hlocks hmn htab hE hN hV
  have hts := hE.hts (args := ([.ref (ad 0 0), .int x, .int y, .ref (ad 45 0)] : List Value).toArray)
  have hK := hE.2.1
  have hbs := hE.2.2.1
  have hown : s.vm.findClass "RobotFaultsLaw" = some m.cls := hown
  obtain ⟨x1, l1, hL9, hx1, htab⟩ := List.map_eq_cons_iff.mp htab
  obtain ⟨x2, l2, rfl, hx2, htab⟩ := List.map_eq_cons_iff.mp htab
  have hl9 := List.map_eq_nil_iff.mp htab
  subst hl9
  have hl := lv_entry ([.ref (ad 0 0), .int x, .int y, .ref (ad 45 0)]) (n := 5) (Nat.le_of_ble_eq_true rfl)
  rw [lg_entry_eq]
  generalize (lg_sl ([.ref (ad 0 0), .int x, .int y, .ref (ad 45 0)]) ++ List.replicate (5 - (lg_sl ([.ref (ad 0 0), .int x, .int y, .ref (ad 45 0)])).length) Slot.unset).toArray = ls at hl ⊢
  have hl : lv_has ls 5 [(0, .ref (ad 0 0)), (1, .int x), (2, .int y), (3, .ref (ad 45 0))] := hl
  refine lv_aload_n hx hb d_Law_alarm_0 rfl (lv_at hl 3 rfl) ?_
  refine lv_iconst (v := 0) hx hb d_Law_alarm_1 (by decide) ?_
  refine lv_aload_n hx hb d_Law_alarm_2 rfl (lv_at hl 0 rfl) ?_
  refine lv_iload_n hx hb d_Law_alarm_3 rfl (lv_at hl 1 rfl) ?_
  refine lv_iload_n hx hb d_Law_alarm_4 rfl (lv_at hl 2 rfl) ?_
  refine os_call (c_RF_alarm l hlt D cA bs σ ad x y hRel.1 hRel.2.2.2.2.1) hE hV k_701 k_1 (os_inV (C := "RobotFaults") (n := 2) (bytes := prog_1_method_18_code) (maxL := 4) (ret := (some .int)) hx hb hown (hts _ k_698) (hts _ k_699) (hts _ k_700) (hts _ k_701) (by decide +kernel) rfl (os_recv hK hV rfl rfl (hRel.1.n 0 (by decide))) rfl d_Law_alarm_5) (hl.1.trans hml.symm) (Nat.le_of_ble_eq_true rfl) (Nat.le_of_ble_eq_true rfl) (Nat.le_of_ble_eq_true rfl) (Nat.le_of_ble_eq_true rfl) (Nat.le_of_ble_eq_true rfl) (fun v σ1 ad1 H locs hp hext hV => ?_) (fun E q ce σ1 ad1 H locs hp hext hV hce hcv hcl => ?_)
  · rcases (r_alarm hp).2 with ⟨v9, h9⟩ | ⟨E9, h9, -⟩
    · cases h9
      have hl45 := FM.l45 (r_alarm hp).1 h45.2
      obtain ⟨σ_1, rfl⟩ : ∃ z, z = σ1 := ⟨_, rfl⟩
      obtain ⟨ad_2, rfl⟩ : ∃ z, z = ad1 := ⟨_, rfl⟩
      have he_3 := hext
      have hl : lv_has ls 5 [(0, .ref (ad_2 0 0)), (1, .int x), (2, .int y), (3, .ref (ad_2 45 0))] := by rw [he_3.2.1 0 0 (hRel.1.n 0 (by decide)), he_3.2.1 45 0 h45.1]; exact hl
      refine W.eq (g2 := F0 m 8 ls [.int v9, .int 0, .ref (ad_2 45 0)]) (by rw [he_3.2.1 45 0 h45.1]; rfl) ?_
      have hr_4 : 0 < os_n σ_1 0 := Nat.lt_of_lt_of_le (hRel.1.n 0 (by decide)) (he_3.1 0)
      have hr_5 : 0 < os_n σ_1 45 := Nat.lt_of_lt_of_le h45.1 (he_3.1 45)
      refine lv_i2l (v := Int32.toInt64 v9) hx hb d_Law_alarm_8 rfl ?_
      refine os_lastN (v := v9) (K := 45) (i := 0) (t0 := 2) (n := 0) hx hb hK hV rfl rfl rfl hr_5 rfl (by rw [show os_l σ_1 45 0 = 1 from hl45]; decide) (by rw [show os_l σ_1 45 0 = 1 from hl45]; decide) d_Law_alarm_9 (fun H locs hV => ?_)
      refine lv_goto (tgt := 21) hx hb d_Law_alarm_10 (by decide) ?_
      refine lv_iconst (v := 0) hx hb d_Law_alarm_21 (by decide) ?_
      refine os_iret hx hb hr hlocks hV (Nat.le_of_ble_eq_true rfl) (Nat.le_of_ble_eq_true rfl) d_Law_alarm_22 ?_
      exact ⟨_, _, hp, Or.inl ⟨_, rfl, rfl, rfl⟩⟩
    · cases h9
  · rcases (r_alarm hp).2 with ⟨v9, h9⟩ | ⟨E9, h9, hE9⟩
    · cases h9
    · cases h9
      rcases hE9 with rfl | rfl
      · skip
        have hpass : ∀ z ∈ ([] : List ExceptionTableEntry), covers z 5 = false ∨ (z.catchType ≠ 0 ∧ ∃ nm : String, (Cond.classLink "RobotFaultsLaw" z.catchType nm).before ([.ref (ad 0 0), .int x, .int y, .ref (ad 45 0)] : List Value).toArray s = true ∧ va_Nc "java/util/NoSuchElementException" nm s) := by
          intro z hz
          exact absurd hz List.not_mem_nil
        refine os_catch (own := "RobotFaultsLaw") (name := "java/util/NoSuchElementException") hown [] x1 [x2] hL9 hpass (os_cov hx1 (by decide) (by decide)) (by rw [os_ct hx1]; decide) (by rw [os_ct hx1]; exact hts _ k_231) (hts _ k_247) hce hcv hcl ?_
        rw [os_hpc hx1]
        refine lv_astore (lv' := [(4, .ref q), (0, .ref (ad 0 0)), (1, .int x), (2, .int y), (3, .ref (ad 45 0))]) hx hb d_Law_alarm_13 hl (by decide) rfl (fun ls hl => ?_)
        refine lv_iconst (v := 1) hx hb d_Law_alarm_15 (by decide) ?_
        refine os_iret hx hb hr hlocks hV (Nat.le_of_ble_eq_true rfl) (Nat.le_of_ble_eq_true rfl) d_Law_alarm_16 ?_
        exact ⟨_, _, hp, Or.inr ⟨_, 1, by simp, rfl, rfl, rfl⟩⟩
      · skip
        have hpass : ∀ z ∈ ([x1] : List ExceptionTableEntry), covers z 5 = false ∨ (z.catchType ≠ 0 ∧ ∃ nm : String, (Cond.classLink "RobotFaultsLaw" z.catchType nm).before ([.ref (ad 0 0), .int x, .int y, .ref (ad 45 0)] : List Value).toArray s = true ∧ va_Nc "java/lang/IllegalArgumentException" nm s) := by
          intro z hz
          simp only [List.mem_cons, List.not_mem_nil, or_false] at hz
          rcases hz with rfl
          · exact Or.inr ⟨by rw [os_ct hx1]; decide, "java/util/NoSuchElementException", by rw [os_ct hx1]; exact hts _ k_231, hN ("java/lang/IllegalArgumentException", "java/util/NoSuchElementException") (by decide)⟩
        refine os_catch (own := "RobotFaultsLaw") (name := "java/lang/IllegalArgumentException") hown [x1] x2 [] hL9 hpass (os_cov hx2 (by decide) (by decide)) (by rw [os_ct hx2]; decide) (by rw [os_ct hx2]; exact hts _ k_232) (hts _ k_263) hce hcv hcl ?_
        rw [os_hpc hx2]
        refine lv_astore (lv' := [(4, .ref q), (0, .ref (ad 0 0)), (1, .int x), (2, .int y), (3, .ref (ad 45 0))]) hx hb d_Law_alarm_17 hl (by decide) rfl (fun ls hl => ?_)
        refine lv_iconst (v := 2) hx hb d_Law_alarm_19 (by decide) ?_
        refine os_iret hx hb hr hlocks hV (Nat.le_of_ble_eq_true rfl) (Nat.le_of_ble_eq_true rfl) d_Law_alarm_20 ?_
        exact ⟨_, _, hp, Or.inr ⟨_, 2, by simp, rfl, rfl, rfl⟩⟩
set_option maxHeartbeats 4000000 in
set_option maxRecDepth 100000 in
theorem c_Law_known (l : Launch) (hlt : l.stackTraces = false) (D : va_G) (cA : Nat → ClassId) (bs : Nat) (σ : os_S) (ad : Nat → Nat → Nat) (x y : Int32) (z t nP : Nat) (τ0 : os_S) (hRel : Rel z t nP σ τ0) (h45 : 0 < os_n σ 45 ∧ os_l σ 45 0 = 1) : os_MetH l y_Law_known method_20_code 5 (some .int) [(0, 10, 13, 19), (0, 10, 17, 21)] { frames := 8, cells := 2, slots := 12, locals := 141 } D cA bs [.ref (ad 0 0), .int x, .int y, .ref (ad 45 0)] σ ad (hI [("java/util/NoSuchElementException", 1), ("java/lang/IllegalArgumentException", 2)] (q_known σ ad x y)) := by
  refine os_ofWH (by decide) ?_
  intro p e s m below meth c hx hb hr hml hown hlocks hmn htab hE hN hV
  have hts := hE.hts (args := ([.ref (ad 0 0), .int x, .int y, .ref (ad 45 0)] : List Value).toArray)
  have hK := hE.2.1
  have hbs := hE.2.2.1
  have hown : s.vm.findClass "RobotFaultsLaw" = some m.cls := hown
  obtain ⟨x1, l1, hL9, hx1, htab⟩ := List.map_eq_cons_iff.mp htab
  obtain ⟨x2, l2, rfl, hx2, htab⟩ := List.map_eq_cons_iff.mp htab
  have hl9 := List.map_eq_nil_iff.mp htab
  subst hl9
  have hl := lv_entry ([.ref (ad 0 0), .int x, .int y, .ref (ad 45 0)]) (n := 5) (Nat.le_of_ble_eq_true rfl)
  rw [lg_entry_eq]
  generalize (lg_sl ([.ref (ad 0 0), .int x, .int y, .ref (ad 45 0)]) ++ List.replicate (5 - (lg_sl ([.ref (ad 0 0), .int x, .int y, .ref (ad 45 0)])).length) Slot.unset).toArray = ls at hl ⊢
  have hl : lv_has ls 5 [(0, .ref (ad 0 0)), (1, .int x), (2, .int y), (3, .ref (ad 45 0))] := hl
  refine lv_aload_n hx hb d_Law_known_0 rfl (lv_at hl 3 rfl) ?_
  refine lv_iconst (v := 0) hx hb d_Law_known_1 (by decide) ?_
  refine lv_aload_n hx hb d_Law_known_2 rfl (lv_at hl 0 rfl) ?_
  refine lv_iload_n hx hb d_Law_known_3 rfl (lv_at hl 1 rfl) ?_
  refine lv_iload_n hx hb d_Law_known_4 rfl (lv_at hl 2 rfl) ?_
  refine os_call (c_RF_known l hlt D cA bs σ ad x y hRel.1 hRel.2.2.2.1 (fun i hi => (hRel.F hi).2.2.2.2.2.2.2.2.2.2.2.2.2.2.1)) hE hV k_709 k_1 (os_inV (C := "RobotFaults") (n := 2) (bytes := prog_1_method_19_code) (maxL := 4) (ret := (some .int)) hx hb hown (hts _ k_706) (hts _ k_707) (hts _ k_708) (hts _ k_709) (by decide +kernel) rfl (os_recv hK hV rfl rfl (hRel.1.n 0 (by decide))) rfl d_Law_known_5) (hl.1.trans hml.symm) (Nat.le_of_ble_eq_true rfl) (Nat.le_of_ble_eq_true rfl) (Nat.le_of_ble_eq_true rfl) (Nat.le_of_ble_eq_true rfl) (Nat.le_of_ble_eq_true rfl) (fun v σ1 ad1 H locs hp hext hV => ?_) (fun E q ce σ1 ad1 H locs hp hext hV hce hcv hcl => ?_)
  · rcases (r_known hp).2 with ⟨v9, h9⟩ | ⟨E9, h9, -⟩
    · cases h9
      have hl45 := FM.l45 (r_known hp).1 h45.2
      obtain ⟨σ_1, rfl⟩ : ∃ z, z = σ1 := ⟨_, rfl⟩
      obtain ⟨ad_2, rfl⟩ : ∃ z, z = ad1 := ⟨_, rfl⟩
      have he_3 := hext
      have hl : lv_has ls 5 [(0, .ref (ad_2 0 0)), (1, .int x), (2, .int y), (3, .ref (ad_2 45 0))] := by rw [he_3.2.1 0 0 (hRel.1.n 0 (by decide)), he_3.2.1 45 0 h45.1]; exact hl
      refine W.eq (g2 := F0 m 8 ls [.int v9, .int 0, .ref (ad_2 45 0)]) (by rw [he_3.2.1 45 0 h45.1]; rfl) ?_
      have hr_4 : 0 < os_n σ_1 0 := Nat.lt_of_lt_of_le (hRel.1.n 0 (by decide)) (he_3.1 0)
      have hr_5 : 0 < os_n σ_1 45 := Nat.lt_of_lt_of_le h45.1 (he_3.1 45)
      refine lv_i2l (v := Int32.toInt64 v9) hx hb d_Law_known_8 rfl ?_
      refine os_lastN (v := v9) (K := 45) (i := 0) (t0 := 2) (n := 0) hx hb hK hV rfl rfl rfl hr_5 rfl (by rw [show os_l σ_1 45 0 = 1 from hl45]; decide) (by rw [show os_l σ_1 45 0 = 1 from hl45]; decide) d_Law_known_9 (fun H locs hV => ?_)
      refine lv_goto (tgt := 21) hx hb d_Law_known_10 (by decide) ?_
      refine lv_iconst (v := 0) hx hb d_Law_known_21 (by decide) ?_
      refine os_iret hx hb hr hlocks hV (Nat.le_of_ble_eq_true rfl) (Nat.le_of_ble_eq_true rfl) d_Law_known_22 ?_
      exact ⟨_, _, hp, Or.inl ⟨_, rfl, rfl, rfl⟩⟩
    · cases h9
  · rcases (r_known hp).2 with ⟨v9, h9⟩ | ⟨E9, h9, hE9⟩
    · cases h9
    · cases h9
      rcases hE9 with rfl | rfl
      · skip
        have hpass : ∀ z ∈ ([] : List ExceptionTableEntry), covers z 5 = false ∨ (z.catchType ≠ 0 ∧ ∃ nm : String, (Cond.classLink "RobotFaultsLaw" z.catchType nm).before ([.ref (ad 0 0), .int x, .int y, .ref (ad 45 0)] : List Value).toArray s = true ∧ va_Nc "java/util/NoSuchElementException" nm s) := by
          intro z hz
          exact absurd hz List.not_mem_nil
        refine os_catch (own := "RobotFaultsLaw") (name := "java/util/NoSuchElementException") hown [] x1 [x2] hL9 hpass (os_cov hx1 (by decide) (by decide)) (by rw [os_ct hx1]; decide) (by rw [os_ct hx1]; exact hts _ k_231) (hts _ k_247) hce hcv hcl ?_
        rw [os_hpc hx1]
        refine lv_astore (lv' := [(4, .ref q), (0, .ref (ad 0 0)), (1, .int x), (2, .int y), (3, .ref (ad 45 0))]) hx hb d_Law_known_13 hl (by decide) rfl (fun ls hl => ?_)
        refine lv_iconst (v := 1) hx hb d_Law_known_15 (by decide) ?_
        refine os_iret hx hb hr hlocks hV (Nat.le_of_ble_eq_true rfl) (Nat.le_of_ble_eq_true rfl) d_Law_known_16 ?_
        exact ⟨_, _, hp, Or.inr ⟨_, 1, by simp, rfl, rfl, rfl⟩⟩
      · skip
        have hpass : ∀ z ∈ ([x1] : List ExceptionTableEntry), covers z 5 = false ∨ (z.catchType ≠ 0 ∧ ∃ nm : String, (Cond.classLink "RobotFaultsLaw" z.catchType nm).before ([.ref (ad 0 0), .int x, .int y, .ref (ad 45 0)] : List Value).toArray s = true ∧ va_Nc "java/lang/IllegalArgumentException" nm s) := by
          intro z hz
          simp only [List.mem_cons, List.not_mem_nil, or_false] at hz
          rcases hz with rfl
          · exact Or.inr ⟨by rw [os_ct hx1]; decide, "java/util/NoSuchElementException", by rw [os_ct hx1]; exact hts _ k_231, hN ("java/lang/IllegalArgumentException", "java/util/NoSuchElementException") (by decide)⟩
        refine os_catch (own := "RobotFaultsLaw") (name := "java/lang/IllegalArgumentException") hown [x1] x2 [] hL9 hpass (os_cov hx2 (by decide) (by decide)) (by rw [os_ct hx2]; decide) (by rw [os_ct hx2]; exact hts _ k_232) (hts _ k_263) hce hcv hcl ?_
        rw [os_hpc hx2]
        refine lv_astore (lv' := [(4, .ref q), (0, .ref (ad 0 0)), (1, .int x), (2, .int y), (3, .ref (ad 45 0))]) hx hb d_Law_known_17 hl (by decide) rfl (fun ls hl => ?_)
        refine lv_iconst (v := 2) hx hb d_Law_known_19 (by decide) ?_
        refine os_iret hx hb hr hlocks hV (Nat.le_of_ble_eq_true rfl) (Nat.le_of_ble_eq_true rfl) d_Law_known_20 ?_
        exact ⟨_, _, hp, Or.inr ⟨_, 2, by simp, rfl, rfl, rfl⟩⟩
set_option maxHeartbeats 4000000 in
set_option maxRecDepth 100000 in
theorem c_Law_told (l : Launch) (hlt : l.stackTraces = false) (D : va_G) (cA : Nat → ClassId) (bs : Nat) (σ : os_S) (ad : Nat → Nat → Nat) (x y : Int32) (z t nP : Nat) (τ0 : os_S) (hRel : Rel z t nP σ τ0) (h45 : 0 < os_n σ 45 ∧ os_l σ 45 0 = 1) : os_MetH l y_Law_told method_21_code 5 (some .int) [(0, 10, 13, 19), (0, 10, 17, 21)] { frames := 8, cells := 2, slots := 12, locals := 141 } D cA bs [.ref (ad 0 0), .int x, .int y, .ref (ad 45 0)] σ ad (hI [("java/util/NoSuchElementException", 1), ("java/lang/IllegalArgumentException", 2)] (q_told σ ad x y)) := by
  refine os_ofWH (by decide) ?_
  intro p e s m below meth c hx hb hr hml hown hlocks hmn htab hE hN hV
  have hts := hE.hts (args := ([.ref (ad 0 0), .int x, .int y, .ref (ad 45 0)] : List Value).toArray)
  have hK := hE.2.1
  have hbs := hE.2.2.1
  have hown : s.vm.findClass "RobotFaultsLaw" = some m.cls := hown
  obtain ⟨x1, l1, hL9, hx1, htab⟩ := List.map_eq_cons_iff.mp htab
  obtain ⟨x2, l2, rfl, hx2, htab⟩ := List.map_eq_cons_iff.mp htab
  have hl9 := List.map_eq_nil_iff.mp htab
  subst hl9
  have hl := lv_entry ([.ref (ad 0 0), .int x, .int y, .ref (ad 45 0)]) (n := 5) (Nat.le_of_ble_eq_true rfl)
  rw [lg_entry_eq]
  generalize (lg_sl ([.ref (ad 0 0), .int x, .int y, .ref (ad 45 0)]) ++ List.replicate (5 - (lg_sl ([.ref (ad 0 0), .int x, .int y, .ref (ad 45 0)])).length) Slot.unset).toArray = ls at hl ⊢
  have hl : lv_has ls 5 [(0, .ref (ad 0 0)), (1, .int x), (2, .int y), (3, .ref (ad 45 0))] := hl
  refine lv_aload_n hx hb d_Law_told_0 rfl (lv_at hl 3 rfl) ?_
  refine lv_iconst (v := 0) hx hb d_Law_told_1 (by decide) ?_
  refine lv_aload_n hx hb d_Law_told_2 rfl (lv_at hl 0 rfl) ?_
  refine lv_iload_n hx hb d_Law_told_3 rfl (lv_at hl 1 rfl) ?_
  refine lv_iload_n hx hb d_Law_told_4 rfl (lv_at hl 2 rfl) ?_
  refine os_call (c_RF_told l hlt D cA bs σ ad x y hRel.1 hRel.2.2.1 hRel.2.2.2.1 (fun i hi => (hRel.R hi).2.2.2.2.2.2.2.1)) hE hV k_717 k_1 (os_inV (C := "RobotFaults") (n := 2) (bytes := prog_1_method_20_code) (maxL := 4) (ret := (some .int)) hx hb hown (hts _ k_714) (hts _ k_715) (hts _ k_716) (hts _ k_717) (by decide +kernel) rfl (os_recv hK hV rfl rfl (hRel.1.n 0 (by decide))) rfl d_Law_told_5) (hl.1.trans hml.symm) (Nat.le_of_ble_eq_true rfl) (Nat.le_of_ble_eq_true rfl) (Nat.le_of_ble_eq_true rfl) (Nat.le_of_ble_eq_true rfl) (Nat.le_of_ble_eq_true rfl) (fun v σ1 ad1 H locs hp hext hV => ?_) (fun E q ce σ1 ad1 H locs hp hext hV hce hcv hcl => ?_)
  · rcases (r_told hp).2 with ⟨v9, h9⟩ | ⟨E9, h9, -⟩
    · cases h9
      have hl45 := FM.l45 (r_told hp).1 h45.2
      obtain ⟨σ_1, rfl⟩ : ∃ z, z = σ1 := ⟨_, rfl⟩
      obtain ⟨ad_2, rfl⟩ : ∃ z, z = ad1 := ⟨_, rfl⟩
      have he_3 := hext
      have hl : lv_has ls 5 [(0, .ref (ad_2 0 0)), (1, .int x), (2, .int y), (3, .ref (ad_2 45 0))] := by rw [he_3.2.1 0 0 (hRel.1.n 0 (by decide)), he_3.2.1 45 0 h45.1]; exact hl
      refine W.eq (g2 := F0 m 8 ls [.int v9, .int 0, .ref (ad_2 45 0)]) (by rw [he_3.2.1 45 0 h45.1]; rfl) ?_
      have hr_4 : 0 < os_n σ_1 0 := Nat.lt_of_lt_of_le (hRel.1.n 0 (by decide)) (he_3.1 0)
      have hr_5 : 0 < os_n σ_1 45 := Nat.lt_of_lt_of_le h45.1 (he_3.1 45)
      refine lv_i2l (v := Int32.toInt64 v9) hx hb d_Law_told_8 rfl ?_
      refine os_lastN (v := v9) (K := 45) (i := 0) (t0 := 2) (n := 0) hx hb hK hV rfl rfl rfl hr_5 rfl (by rw [show os_l σ_1 45 0 = 1 from hl45]; decide) (by rw [show os_l σ_1 45 0 = 1 from hl45]; decide) d_Law_told_9 (fun H locs hV => ?_)
      refine lv_goto (tgt := 21) hx hb d_Law_told_10 (by decide) ?_
      refine lv_iconst (v := 0) hx hb d_Law_told_21 (by decide) ?_
      refine os_iret hx hb hr hlocks hV (Nat.le_of_ble_eq_true rfl) (Nat.le_of_ble_eq_true rfl) d_Law_told_22 ?_
      exact ⟨_, _, hp, Or.inl ⟨_, rfl, rfl, rfl⟩⟩
    · cases h9
  · rcases (r_told hp).2 with ⟨v9, h9⟩ | ⟨E9, h9, hE9⟩
    · cases h9
    · cases h9
      rcases hE9 with rfl | rfl
      · skip
        have hpass : ∀ z ∈ ([] : List ExceptionTableEntry), covers z 5 = false ∨ (z.catchType ≠ 0 ∧ ∃ nm : String, (Cond.classLink "RobotFaultsLaw" z.catchType nm).before ([.ref (ad 0 0), .int x, .int y, .ref (ad 45 0)] : List Value).toArray s = true ∧ va_Nc "java/util/NoSuchElementException" nm s) := by
          intro z hz
          exact absurd hz List.not_mem_nil
        refine os_catch (own := "RobotFaultsLaw") (name := "java/util/NoSuchElementException") hown [] x1 [x2] hL9 hpass (os_cov hx1 (by decide) (by decide)) (by rw [os_ct hx1]; decide) (by rw [os_ct hx1]; exact hts _ k_231) (hts _ k_247) hce hcv hcl ?_
        rw [os_hpc hx1]
        refine lv_astore (lv' := [(4, .ref q), (0, .ref (ad 0 0)), (1, .int x), (2, .int y), (3, .ref (ad 45 0))]) hx hb d_Law_told_13 hl (by decide) rfl (fun ls hl => ?_)
        refine lv_iconst (v := 1) hx hb d_Law_told_15 (by decide) ?_
        refine os_iret hx hb hr hlocks hV (Nat.le_of_ble_eq_true rfl) (Nat.le_of_ble_eq_true rfl) d_Law_told_16 ?_
        exact ⟨_, _, hp, Or.inr ⟨_, 1, by simp, rfl, rfl, rfl⟩⟩
      · skip
        have hpass : ∀ z ∈ ([x1] : List ExceptionTableEntry), covers z 5 = false ∨ (z.catchType ≠ 0 ∧ ∃ nm : String, (Cond.classLink "RobotFaultsLaw" z.catchType nm).before ([.ref (ad 0 0), .int x, .int y, .ref (ad 45 0)] : List Value).toArray s = true ∧ va_Nc "java/lang/IllegalArgumentException" nm s) := by
          intro z hz
          simp only [List.mem_cons, List.not_mem_nil, or_false] at hz
          rcases hz with rfl
          · exact Or.inr ⟨by rw [os_ct hx1]; decide, "java/util/NoSuchElementException", by rw [os_ct hx1]; exact hts _ k_231, hN ("java/lang/IllegalArgumentException", "java/util/NoSuchElementException") (by decide)⟩
        refine os_catch (own := "RobotFaultsLaw") (name := "java/lang/IllegalArgumentException") hown [x1] x2 [] hL9 hpass (os_cov hx2 (by decide) (by decide)) (by rw [os_ct hx2]; decide) (by rw [os_ct hx2]; exact hts _ k_232) (hts _ k_263) hce hcv hcl ?_
        rw [os_hpc hx2]
        refine lv_astore (lv' := [(4, .ref q), (0, .ref (ad 0 0)), (1, .int x), (2, .int y), (3, .ref (ad 45 0))]) hx hb d_Law_told_17 hl (by decide) rfl (fun ls hl => ?_)
        refine lv_iconst (v := 2) hx hb d_Law_told_19 (by decide) ?_
        refine os_iret hx hb hr hlocks hV (Nat.le_of_ble_eq_true rfl) (Nat.le_of_ble_eq_true rfl) d_Law_told_20 ?_
        exact ⟨_, _, hp, Or.inr ⟨_, 2, by simp, rfl, rfl, rfl⟩⟩
