/-! MORE PUBLIC METHODS: count, resume, test, step, first; the ways of the lost -/
/-- count(what) -/
def q_count (σ : os_S) (ad : Nat → Nat → Nat) (y : Int32) : os_O → os_S → (Nat → Nat → Nat) → Prop := fun r σ' ad' => ad = ad' ∧ σ = σ' ∧ (((∀ k, k < 9 → ¬ y = nI k) ∧ r = .inl (some (.int (-1)))) ∨ (y = 0 ∧ r = .inl (some (.int (os_g σ 1 1 0)))) ∨ (y = 1 ∧ r = .inl (some (.int (os_g σ 0 6 0)))) ∨ (y = 2 ∧ r = .inl (some (.int (os_g σ 0 7 0)))) ∨ (y = 3 ∧ r = .inl (some (.int (ocF σ 40)))) ∨ (y = 4 ∧ r = .inl (some (.int (os_g σ 0 8 0)))) ∨ (y = 5 ∧ r = .inl (some (.int (ucF σ 40)))) ∨ (y = 6 ∧ r = .inl (some (.int (os_g σ 0 10 0)))) ∨ (y = 7 ∧ r = .inl (some (.int (osF σ (os_g σ 0 10 0) 40)))) ∨ (y = 8 ∧ r = .inl (some (.int (os_g σ 0 9 0)))))
set_option maxHeartbeats 4000000 in
set_option maxRecDepth 100000 in
theorem c_RF_count (l : Launch) (hlt : l.stackTraces = false) (D : va_G) (cA : Nat → ClassId) (bs : Nat) (σ : os_S) (ad : Nat → Nat → Nat) (y : Int32) (hA : rfA σ) (hF : rfF σ) (hL : rfL σ) : os_Met l y_RF_count prog_1_method_22_code 2 (some .int) { frames := 3, cells := 0, slots := 0, locals := 70 } D cA bs [.ref (ad 0 0), .int y] σ ad (q_count σ ad y) := by
  refine os_ofW (by decide) ?_
  intro p e s m below meth c hx hb hr hml hown hlocks hmn hout hE hV
  have hts := hE.hts (args := ([.ref (ad 0 0), .int y] : List Value).toArray)
  have hK := hE.2.1
  have hbs := hE.2.2.1
  have hown : s.vm.findClass "RobotFaults" = some m.cls := hown
  have hl := lv_entry ([.ref (ad 0 0), .int y]) (n := 2) (Nat.le_of_ble_eq_true rfl)
  rw [lg_entry_eq]
  generalize (lg_sl ([.ref (ad 0 0), .int y]) ++ List.replicate (2 - (lg_sl ([.ref (ad 0 0), .int y])).length) Slot.unset).toArray = ls at hl ⊢
  have hl : lv_has ls 2 [(0, .ref (ad 0 0)), (1, .int y)] := hl
  refine lv_iload_n hx hb d_RF_count_0 rfl (lv_at hl 1 rfl) ?_
  by_cases h_1 : y = 0
  · skip
    refine lv_tableIn (off := 51) (tgt := 52) hx hb d_RF_count_1 (by rw [h_1]; decide) (by rw [h_1]; decide) (by rw [h_1]; rfl) (by decide) ?_
    refine lv_aload_n hx hb d_RF_count_52 rfl (lv_at hl 0 rfl) ?_
    refine os_get (C := "RobotFaults") (T := F_RF) (N := 11) (ci := 0) (K := 0) (j := 0) (i := 0) (v := .ref (ad 1 0)) hx hb hts i_RF hown hK hV rfl rfl (by decide) (hA.n 0 (by decide)) (hts _ k_68) (congrArg (fun z => va_rf (Option.map (ad 1) z)) (hA.r 0 (by decide))) d_RF_count_53 ?_
    refine os_call (c_Track_size l hlt D cA bs σ ad hA) hE hV k_121 k_2 (os_inV (C := "RobotFaults$Track") (n := 0) (bytes := prog_7_method_2_code) (maxL := 1) (ret := (some .int)) hx hb hown (hts _ k_118) (hts _ k_119) (hts _ k_120) (hts _ k_121) (by decide +kernel) rfl (os_recv hK hV rfl rfl (hA.n 1 (by decide))) rfl d_RF_count_56) (hl.1.trans hml.symm) (Nat.le_of_ble_eq_true rfl) (Nat.le_of_ble_eq_true rfl) (Nat.le_of_ble_eq_true rfl) (Nat.le_of_ble_eq_true rfl) (Nat.le_of_ble_eq_true rfl) (fun v σ1 ad1 H locs hp hext hV => ?_) (fun E q ce σ1 ad1 H locs hp hext hV hce hcv hcl => ?_)
    · obtain ⟨rfl, rfl, hp⟩ := hp
      cases hp
      refine W.eq (g2 := F0 m 59 ls [.int (os_g σ 1 1 0)]) rfl ?_
      refine os_iret hx hb hr hlocks hV (Nat.le_of_ble_eq_true rfl) (Nat.le_of_ble_eq_true rfl) d_RF_count_59 ?_
      exact ⟨rfl, rfl, Or.inr (Or.inl (⟨h_1, rfl⟩))⟩
    · exact absurd hp.2.2 (fun h => by cases h)
  by_cases h_2 : y = 1
  · skip
    refine lv_tableIn (off := 59) (tgt := 60) hx hb d_RF_count_1 (by rw [h_2]; decide) (by rw [h_2]; decide) (by rw [h_2]; rfl) (by decide) ?_
    refine lv_aload_n hx hb d_RF_count_60 rfl (lv_at hl 0 rfl) ?_
    refine os_get (C := "RobotFaults") (T := F_RF) (N := 11) (ci := 0) (K := 0) (j := 6) (i := 0) (v := .int (os_g σ 0 6 0)) hx hb hts i_RF hown hK hV rfl rfl (by decide) (hA.n 0 (by decide)) (hts _ k_74) rfl d_RF_count_61 ?_
    refine os_iret hx hb hr hlocks hV (Nat.le_of_ble_eq_true rfl) (Nat.le_of_ble_eq_true rfl) d_RF_count_64 ?_
    exact ⟨rfl, rfl, Or.inr (Or.inr (Or.inl (⟨h_2, rfl⟩)))⟩
  by_cases h_3 : y = 2
  · skip
    refine lv_tableIn (off := 64) (tgt := 65) hx hb d_RF_count_1 (by rw [h_3]; decide) (by rw [h_3]; decide) (by rw [h_3]; rfl) (by decide) ?_
    refine lv_aload_n hx hb d_RF_count_65 rfl (lv_at hl 0 rfl) ?_
    refine os_get (C := "RobotFaults") (T := F_RF) (N := 11) (ci := 0) (K := 0) (j := 7) (i := 0) (v := .int (os_g σ 0 7 0)) hx hb hts i_RF hown hK hV rfl rfl (by decide) (hA.n 0 (by decide)) (hts _ k_75) rfl d_RF_count_66 ?_
    refine os_iret hx hb hr hlocks hV (Nat.le_of_ble_eq_true rfl) (Nat.le_of_ble_eq_true rfl) d_RF_count_69 ?_
    exact ⟨rfl, rfl, Or.inr (Or.inr (Or.inr (Or.inl (⟨h_3, rfl⟩))))⟩
  by_cases h_4 : y = 3
  · skip
    refine lv_tableIn (off := 69) (tgt := 70) hx hb d_RF_count_1 (by rw [h_4]; decide) (by rw [h_4]; decide) (by rw [h_4]; rfl) (by decide) ?_
    refine lv_aload_n hx hb d_RF_count_70 rfl (lv_at hl 0 rfl) ?_
    refine os_call (c_RF_openFaultCount l hlt D cA bs σ ad hA hF) hE hV k_125 k_1 (os_inV (C := "RobotFaults") (n := 0) (bytes := prog_1_method_44_code) (maxL := 6) (ret := (some .int)) hx hb hown (hts _ k_122) (hts _ k_124) (hts _ k_s0) (hts _ k_125) (by decide +kernel) rfl (os_recv hK hV rfl rfl (hA.n 0 (by decide))) rfl d_RF_count_71) (hl.1.trans hml.symm) (Nat.le_of_ble_eq_true rfl) (Nat.le_of_ble_eq_true rfl) (Nat.le_of_ble_eq_true rfl) (Nat.le_of_ble_eq_true rfl) (Nat.le_of_ble_eq_true rfl) (fun v σ1 ad1 H locs hp hext hV => ?_) (fun E q ce σ1 ad1 H locs hp hext hV hce hcv hcl => ?_)
    · obtain ⟨rfl, rfl, hp⟩ := hp
      cases hp
      refine W.eq (g2 := F0 m 74 ls [.int (ocF σ 40)]) rfl ?_
      refine os_iret hx hb hr hlocks hV (Nat.le_of_ble_eq_true rfl) (Nat.le_of_ble_eq_true rfl) d_RF_count_74 ?_
      exact ⟨rfl, rfl, Or.inr (Or.inr (Or.inr (Or.inr (Or.inl (⟨h_4, rfl⟩)))))⟩
    · exact absurd hp.2.2 (fun h => by cases h)
  by_cases h_5 : y = 4
  · skip
    refine lv_tableIn (off := 74) (tgt := 75) hx hb d_RF_count_1 (by rw [h_5]; decide) (by rw [h_5]; decide) (by rw [h_5]; rfl) (by decide) ?_
    refine lv_aload_n hx hb d_RF_count_75 rfl (lv_at hl 0 rfl) ?_
    refine os_get (C := "RobotFaults") (T := F_RF) (N := 11) (ci := 0) (K := 0) (j := 8) (i := 0) (v := .int (os_g σ 0 8 0)) hx hb hts i_RF hown hK hV rfl rfl (by decide) (hA.n 0 (by decide)) (hts _ k_76) rfl d_RF_count_76 ?_
    refine os_iret hx hb hr hlocks hV (Nat.le_of_ble_eq_true rfl) (Nat.le_of_ble_eq_true rfl) d_RF_count_79 ?_
    exact ⟨rfl, rfl, Or.inr (Or.inr (Or.inr (Or.inr (Or.inr (Or.inl (⟨h_5, rfl⟩))))))⟩
  by_cases h_6 : y = 5
  · skip
    refine lv_tableIn (off := 79) (tgt := 80) hx hb d_RF_count_1 (by rw [h_6]; decide) (by rw [h_6]; decide) (by rw [h_6]; rfl) (by decide) ?_
    refine lv_aload_n hx hb d_RF_count_80 rfl (lv_at hl 0 rfl) ?_
    refine os_call (c_RF_unheardAlarmCount l hlt D cA bs σ ad hA hL) hE hV k_133 k_1 (os_inV (C := "RobotFaults") (n := 0) (bytes := prog_1_method_45_code) (maxL := 6) (ret := (some .int)) hx hb hown (hts _ k_130) (hts _ k_132) (hts _ k_s1) (hts _ k_133) (by decide +kernel) rfl (os_recv hK hV rfl rfl (hA.n 0 (by decide))) rfl d_RF_count_81) (hl.1.trans hml.symm) (Nat.le_of_ble_eq_true rfl) (Nat.le_of_ble_eq_true rfl) (Nat.le_of_ble_eq_true rfl) (Nat.le_of_ble_eq_true rfl) (Nat.le_of_ble_eq_true rfl) (fun v σ1 ad1 H locs hp hext hV => ?_) (fun E q ce σ1 ad1 H locs hp hext hV hce hcv hcl => ?_)
    · obtain ⟨rfl, rfl, hp⟩ := hp
      cases hp
      refine W.eq (g2 := F0 m 84 ls [.int (ucF σ 40)]) rfl ?_
      refine os_iret hx hb hr hlocks hV (Nat.le_of_ble_eq_true rfl) (Nat.le_of_ble_eq_true rfl) d_RF_count_84 ?_
      exact ⟨rfl, rfl, Or.inr (Or.inr (Or.inr (Or.inr (Or.inr (Or.inr (Or.inl (⟨h_6, rfl⟩)))))))⟩
    · exact absurd hp.2.2 (fun h => by cases h)
  by_cases h_7 : y = 6
  · skip
    refine lv_tableIn (off := 84) (tgt := 85) hx hb d_RF_count_1 (by rw [h_7]; decide) (by rw [h_7]; decide) (by rw [h_7]; rfl) (by decide) ?_
    refine lv_aload_n hx hb d_RF_count_85 rfl (lv_at hl 0 rfl) ?_
    refine os_get (C := "RobotFaults") (T := F_RF) (N := 11) (ci := 0) (K := 0) (j := 10) (i := 0) (v := .int (os_g σ 0 10 0)) hx hb hts i_RF hown hK hV rfl rfl (by decide) (hA.n 0 (by decide)) (hts _ k_78) rfl d_RF_count_86 ?_
    refine os_iret hx hb hr hlocks hV (Nat.le_of_ble_eq_true rfl) (Nat.le_of_ble_eq_true rfl) d_RF_count_89 ?_
    exact ⟨rfl, rfl, Or.inr (Or.inr (Or.inr (Or.inr (Or.inr (Or.inr (Or.inr (Or.inl (⟨h_7, rfl⟩))))))))⟩
  by_cases h_8 : y = 7
  · skip
    refine lv_tableIn (off := 89) (tgt := 90) hx hb d_RF_count_1 (by rw [h_8]; decide) (by rw [h_8]; decide) (by rw [h_8]; rfl) (by decide) ?_
    refine lv_aload_n hx hb d_RF_count_90 rfl (lv_at hl 0 rfl) ?_
    refine os_call (c_RF_openSeconds l hlt D cA bs σ ad hA hF) hE hV k_137 k_1 (os_inV (C := "RobotFaults") (n := 0) (bytes := prog_1_method_46_code) (maxL := 6) (ret := (some .int)) hx hb hown (hts _ k_134) (hts _ k_136) (hts _ k_s2) (hts _ k_137) (by decide +kernel) rfl (os_recv hK hV rfl rfl (hA.n 0 (by decide))) rfl d_RF_count_91) (hl.1.trans hml.symm) (Nat.le_of_ble_eq_true rfl) (Nat.le_of_ble_eq_true rfl) (Nat.le_of_ble_eq_true rfl) (Nat.le_of_ble_eq_true rfl) (Nat.le_of_ble_eq_true rfl) (fun v σ1 ad1 H locs hp hext hV => ?_) (fun E q ce σ1 ad1 H locs hp hext hV hce hcv hcl => ?_)
    · obtain ⟨rfl, rfl, hp⟩ := hp
      cases hp
      refine W.eq (g2 := F0 m 94 ls [.int (osF σ (os_g σ 0 10 0) 40)]) rfl ?_
      refine os_iret hx hb hr hlocks hV (Nat.le_of_ble_eq_true rfl) (Nat.le_of_ble_eq_true rfl) d_RF_count_94 ?_
      exact ⟨rfl, rfl, Or.inr (Or.inr (Or.inr (Or.inr (Or.inr (Or.inr (Or.inr (Or.inr (Or.inl (⟨h_8, rfl⟩)))))))))⟩
    · exact absurd hp.2.2 (fun h => by cases h)
  by_cases h_9 : y = 8
  · skip
    refine lv_tableIn (off := 94) (tgt := 95) hx hb d_RF_count_1 (by rw [h_9]; decide) (by rw [h_9]; decide) (by rw [h_9]; rfl) (by decide) ?_
    refine lv_aload_n hx hb d_RF_count_95 rfl (lv_at hl 0 rfl) ?_
    refine os_get (C := "RobotFaults") (T := F_RF) (N := 11) (ci := 0) (K := 0) (j := 9) (i := 0) (v := .int (os_g σ 0 9 0)) hx hb hts i_RF hown hK hV rfl rfl (by decide) (hA.n 0 (by decide)) (hts _ k_77) rfl d_RF_count_96 ?_
    refine os_iret hx hb hr hlocks hV (Nat.le_of_ble_eq_true rfl) (Nat.le_of_ble_eq_true rfl) d_RF_count_99 ?_
    exact ⟨rfl, rfl, Or.inr (Or.inr (Or.inr (Or.inr (Or.inr (Or.inr (Or.inr (Or.inr (Or.inr (⟨h_9, rfl⟩)))))))))⟩
  refine lv_tableOut (tgt := 100) hx hb d_RF_count_1 (tsOut (n := 9) (fun k hk => by rcases (show k = 0 ∨ k = 1 ∨ k = 2 ∨ k = 3 ∨ k = 4 ∨ k = 5 ∨ k = 6 ∨ k = 7 ∨ k = 8 by omega) with rfl | rfl | rfl | rfl | rfl | rfl | rfl | rfl | rfl <;> assumption)) (by decide) ?_
  refine lv_iconst (v := (-1)) hx hb d_RF_count_100 (by decide) ?_
  refine os_iret hx hb hr hlocks hV (Nat.le_of_ble_eq_true rfl) (Nat.le_of_ble_eq_true rfl) d_RF_count_101 ?_
  exact ⟨rfl, rfl, Or.inl ⟨fun k hk => by rcases (show k = 0 ∨ k = 1 ∨ k = 2 ∨ k = 3 ∨ k = 4 ∨ k = 5 ∨ k = 6 ∨ k = 7 ∨ k = 8 by omega) with rfl | rfl | rfl | rfl | rfl | rfl | rfl | rfl | rfl <;> assumption, rfl⟩⟩
def q_resume (σ : os_S) (ad : Nat → Nat → Nat) (x : Int32) : os_O → os_S → (Nat → Nat → Nat) → Prop := fun r σ' ad' => ad = ad' ∧ ((noR σ x ∧ σ = σ' ∧ r = .inr "java/util/NoSuchElementException") ∨
  ∃ i, isR σ x i ∧ ((os_g σ 9 2 i = 0 ∧ σ = σ' ∧ r = .inr "java/lang/IllegalStateException") ∨ (¬ os_g σ 9 2 i = 0 ∧ ((¬ okF σ i 40 = 0 ∧ σ = σ' ∧ r = .inl (some (.int (-1)))) ∨ (okF σ i 40 = 0 ∧ os_g σ 9 2 i = 2 ∧ σ = σ' ∧ r = .inl (some (.int (-2)))) ∨
    (okF σ i 40 = 0 ∧ ¬ os_g σ 9 2 i = 2 ∧ ¬ os_g σ 9 4 i = 0 ∧ σ = σ' ∧ r = .inl (some (.int (-3)))) ∨ (okF σ i 40 = 0 ∧ ¬ os_g σ 9 2 i = 2 ∧ os_g σ 9 4 i = 0 ∧ os_sg σ 9 2 i 0 = σ' ∧ r = .inl (some (.int 1)))))))
set_option maxHeartbeats 4000000 in
set_option maxRecDepth 100000 in
theorem c_RF_resume (l : Launch) (hlt : l.stackTraces = false) (D : va_G) (cA : Nat → ClassId) (bs : Nat) (σ : os_S) (ad : Nat → Nat → Nat) (x : Int32) (hA : rfA σ) (hR : rfS σ 4 9 8 6) (hF : rfF σ) : os_Met l y_RF_resume prog_1_method_11_code 3 (some .int) { frames := 7, cells := 2, slots := 12, locals := 118 } D cA bs [.ref (ad 0 0), .int x] σ ad (q_resume σ ad x) := by
  refine os_ofW (by decide) ?_
  intro p e s m below meth c hx hb hr hml hown hlocks hmn hout hE hV
  have hts := hE.hts (args := ([.ref (ad 0 0), .int x] : List Value).toArray)
  have hK := hE.2.1
  have hbs := hE.2.2.1
  have hown : s.vm.findClass "RobotFaults" = some m.cls := hown
  have hl := lv_entry ([.ref (ad 0 0), .int x]) (n := 3) (Nat.le_of_ble_eq_true rfl)
  rw [lg_entry_eq]
  generalize (lg_sl ([.ref (ad 0 0), .int x]) ++ List.replicate (3 - (lg_sl ([.ref (ad 0 0), .int x])).length) Slot.unset).toArray = ls at hl ⊢
  have hl : lv_has ls 3 [(0, .ref (ad 0 0)), (1, .int x)] := hl
  refine lv_aload_n hx hb d_RF_resume_0 rfl (lv_at hl 0 rfl) ?_
  refine lv_iload_n hx hb d_RF_resume_1 rfl (lv_at hl 1 rfl) ?_
  refine os_call (c_RF_robotAt l hlt D cA bs σ ad x hA hR) hE hV k_349 k_1 (os_inV (C := "RobotFaults") (n := 1) (bytes := prog_1_method_24_code) (maxL := 3) (ret := (some (.object "RobotFaults$Robot"))) hx hb hown (hts _ k_346) (hts _ k_348) (hts _ k_s5) (hts _ k_349) (by decide +kernel) rfl (os_recv hK hV rfl rfl (hA.n 0 (by decide))) rfl d_RF_resume_2) (hl.1.trans hml.symm) (Nat.le_of_ble_eq_true rfl) (Nat.le_of_ble_eq_true rfl) (Nat.le_of_ble_eq_true rfl) (Nat.le_of_ble_eq_true rfl) (Nat.le_of_ble_eq_true rfl) (fun v σ1 ad1 H locs hp hext hV => ?_) (fun E q ce σ1 ad1 H locs hp hext hV hce hcv hcl => ?_)
  · obtain ⟨rfl, rfl, ⟨i_1, hi_2, hx_3, hp⟩ | ⟨hx_3, hp⟩⟩ := hp <;> cases hp
    refine W.eq (g2 := F0 m 5 ls [.ref (ad 9 i_1)]) rfl ?_
    refine lv_astore_n (lv' := [(2, .ref (ad 9 i_1)), (0, .ref (ad 0 0)), (1, .int x)]) hx hb d_RF_resume_5 rfl hl (by decide) rfl (fun ls hl => ?_)
    refine lv_aload_n hx hb d_RF_resume_6 rfl (lv_at hl 0 rfl) ?_
    refine os_getN (C := "RobotFaults$Robot") (T := F_Robot) (N := 6) (ci := 3) (K := 9) (j := 2) (i := i_1) (v := .int (os_g σ 9 2 i_1)) hx hb hts i_Robot hown hK hV rfl rfl (by decide) hi_2 (hts _ k_300) rfl d_RF_resume_7 ?_
    refine lv_if_ne (tgt := 23) hx hb d_RF_resume_10 (by decide) (fun c_4 => ?_) (fun c_4 => ?_)
    · skip
      refine lv_aload_n hx hb d_RF_resume_23 rfl (lv_at hl 1 rfl) ?_
      refine lv_aload_n hx hb d_RF_resume_24 rfl (lv_at hl 0 rfl) ?_
      refine os_call (c_RF_openKinds l hlt D cA bs σ ad i_1 hA hF hi_2) hE hV k_557 k_1 (os_inV (C := "RobotFaults") (n := 1) (bytes := prog_1_method_38_code) (maxL := 7) (ret := (some .int)) hx hb hown (hts _ k_554) (hts _ k_556) (hts _ k_s13) (hts _ k_557) (by decide +kernel) rfl (os_recv hK hV rfl rfl (hA.n 0 (by decide))) rfl d_RF_resume_25) (hl.1.trans hml.symm) (Nat.le_of_ble_eq_true rfl) (Nat.le_of_ble_eq_true rfl) (Nat.le_of_ble_eq_true rfl) (Nat.le_of_ble_eq_true rfl) (Nat.le_of_ble_eq_true rfl) (fun v σ1 ad1 H locs hp hext hV => ?_) (fun E q ce σ1 ad1 H locs hp hext hV hce hcv hcl => ?_)
      · obtain ⟨rfl, rfl, hp⟩ := hp
        cases hp
        refine W.eq (g2 := F0 m 28 ls [.int (okF σ i_1 40)]) rfl ?_
        refine lv_if_eq (tgt := 33) hx hb d_RF_resume_28 (by decide) (fun c_5 => ?_) (fun c_5 => ?_)
        · skip
          refine lv_aload_n hx hb d_RF_resume_33 rfl (lv_at hl 0 rfl) ?_
          refine os_getN (C := "RobotFaults$Robot") (T := F_Robot) (N := 6) (ci := 3) (K := 9) (j := 2) (i := i_1) (v := .int (os_g σ 9 2 i_1)) hx hb hts i_Robot hown hK hV rfl rfl (by decide) hi_2 (hts _ k_300) rfl d_RF_resume_34 ?_
          refine lv_iconst (v := 2) hx hb d_RF_resume_37 (by decide) ?_
          refine lv_icmp_ne (tgt := 44) hx hb d_RF_resume_38 (by decide) (fun c_6 => ?_) (fun c_6 => ?_)
          · skip
            refine lv_aload_n hx hb d_RF_resume_44 rfl (lv_at hl 0 rfl) ?_
            refine os_getN (C := "RobotFaults$Robot") (T := F_Robot) (N := 6) (ci := 3) (K := 9) (j := 4) (i := i_1) (v := .int (os_g σ 9 4 i_1)) hx hb hts i_Robot hown hK hV rfl rfl (by decide) hi_2 (hts _ k_305) rfl d_RF_resume_45 ?_
            refine lv_if_eq (tgt := 54) hx hb d_RF_resume_48 (by decide) (fun c_7 => ?_) (fun c_7 => ?_)
            · skip
              refine lv_aload_n hx hb d_RF_resume_54 rfl (lv_at hl 0 rfl) ?_
              refine lv_iconst (v := 0) hx hb d_RF_resume_55 (by decide) ?_
              refine os_putIN (C := "RobotFaults$Robot") (T := F_Robot) (N := 6) (ci := 3) (K := 9) (j := 2) (i := i_1) (v := 0) (ty := .int) hx hb hts i_Robot t_Robot t_Robot_ok n_Robot hown hK hV rfl rfl (by decide) hi_2 (hts _ k_300) rfl rfl rfl (by decide +kernel) rfl rfl d_RF_resume_56 (fun H locs hV => ?_)
              refine lv_iconst (v := 1) hx hb d_RF_resume_59 (by decide) ?_
              refine os_iret hx hb hr hlocks hV (Nat.le_of_ble_eq_true rfl) (Nat.le_of_ble_eq_true rfl) d_RF_resume_60 ?_
              exact ⟨rfl, Or.inr ⟨i_1, ⟨hi_2, hx_3⟩, Or.inr ⟨c_4, Or.inr (Or.inr (Or.inr (⟨c_5, c_6, c_7, rfl, rfl⟩)))⟩⟩⟩
            · skip
              refine lv_bipush (v := (-3)) hx hb d_RF_resume_51 (by decide) ?_
              refine os_iret hx hb hr hlocks hV (Nat.le_of_ble_eq_true rfl) (Nat.le_of_ble_eq_true rfl) d_RF_resume_53 ?_
              exact ⟨rfl, Or.inr ⟨i_1, ⟨hi_2, hx_3⟩, Or.inr ⟨c_4, Or.inr (Or.inr (Or.inl (⟨c_5, c_6, c_7, rfl, rfl⟩)))⟩⟩⟩
          · skip
            refine lv_bipush (v := (-2)) hx hb d_RF_resume_41 (by decide) ?_
            refine os_iret hx hb hr hlocks hV (Nat.le_of_ble_eq_true rfl) (Nat.le_of_ble_eq_true rfl) d_RF_resume_43 ?_
            exact ⟨rfl, Or.inr ⟨i_1, ⟨hi_2, hx_3⟩, Or.inr ⟨c_4, Or.inr (Or.inl (⟨c_5, c_6, rfl, rfl⟩))⟩⟩⟩
        · skip
          refine lv_iconst (v := (-1)) hx hb d_RF_resume_31 (by decide) ?_
          refine os_iret hx hb hr hlocks hV (Nat.le_of_ble_eq_true rfl) (Nat.le_of_ble_eq_true rfl) d_RF_resume_32 ?_
          exact ⟨rfl, Or.inr ⟨i_1, ⟨hi_2, hx_3⟩, Or.inr ⟨c_4, Or.inl (⟨c_5, rfl, rfl⟩)⟩⟩⟩
      · exact absurd hp.2.2 (fun h => by cases h)
    · skip
      refine os_throw (own := "RobotFaults") (cls := "java/lang/IllegalStateException") (text := "the robot is going") (names := ["java/lang/RuntimeException", "java/lang/Exception"]) hx hb hlt hown (by decide) (by decide) hE hV k_351 k_12 (by decide +kernel) th_IllegalStateException (hl.1.trans hml.symm) d_RF_resume_13 d_RF_resume_16 d_RF_resume_17 d_RF_resume_19 d_RF_resume_22 hout hlocks (Nat.le_of_ble_eq_true rfl) (Nat.le_of_ble_eq_true rfl) (Nat.le_of_ble_eq_true rfl) (Nat.le_of_ble_eq_true rfl) (Nat.le_of_ble_eq_true rfl) (Nat.le_of_ble_eq_true rfl) ?_
      exact ⟨rfl, Or.inr ⟨i_1, ⟨hi_2, hx_3⟩, Or.inl ⟨by simpa using c_4, rfl, rfl⟩⟩⟩
  · obtain ⟨rfl, rfl, ⟨i_1, hi_2, hx_3, hp⟩ | ⟨hx_3, hp⟩⟩ := hp <;> cases hp
    refine os_out hout hlocks hV hce hcv hcl (Nat.le_of_ble_eq_true rfl) (Nat.le_of_ble_eq_true rfl) ?_
    exact ⟨rfl, Or.inl ⟨hx_3, rfl, rfl⟩⟩
def q_test (σ : os_S) (ad : Nat → Nat → Nat) (x : Int32) (g : Bool) : os_O → os_S → (Nat → Nat → Nat) → Prop := fun r σ' ad' => ad = ad' ∧ ((noR σ x ∧ σ = σ' ∧ r = .inr "java/util/NoSuchElementException") ∨
  ∃ i, isR σ x i ∧ (((os_g σ 9 2 i = 0 ∨ os_g σ 9 2 i = 2 ∨ ¬ okF σ i 40 = 0) ∧ σ = σ' ∧ r = .inr "java/lang/IllegalStateException") ∨ (¬ os_g σ 9 2 i = 0 ∧ ¬ os_g σ 9 2 i = 2 ∧ okF σ i 40 = 0 ∧ os_sg σ 9 4 i (bz (!g)) = σ' ∧ r = .inl (some (.int (bz g))))))
set_option maxHeartbeats 4000000 in
set_option maxRecDepth 100000 in
theorem c_RF_test (l : Launch) (hlt : l.stackTraces = false) (D : va_G) (cA : Nat → ClassId) (bs : Nat) (σ : os_S) (ad : Nat → Nat → Nat) (x : Int32) (g : Bool) (hA : rfA σ) (hR : rfS σ 4 9 8 6) (hF : rfF σ) : os_Met l y_RF_test prog_1_method_10_code 4 (some .boolean) { frames := 7, cells := 3, slots := 18, locals := 118 } D cA bs [.ref (ad 0 0), .int x, .int (bz g)] σ ad (q_test σ ad x g) := by
  refine os_ofW (by decide) ?_
  intro p e s m below meth c hx hb hr hml hown hlocks hmn hout hE hV
  have hts := hE.hts (args := ([.ref (ad 0 0), .int x, .int (bz g)] : List Value).toArray)
  have hK := hE.2.1
  have hbs := hE.2.2.1
  have hown : s.vm.findClass "RobotFaults" = some m.cls := hown
  have hl := lv_entry ([.ref (ad 0 0), .int x, .int (bz g)]) (n := 4) (Nat.le_of_ble_eq_true rfl)
  rw [lg_entry_eq]
  generalize (lg_sl ([.ref (ad 0 0), .int x, .int (bz g)]) ++ List.replicate (4 - (lg_sl ([.ref (ad 0 0), .int x, .int (bz g)])).length) Slot.unset).toArray = ls at hl ⊢
  have hl : lv_has ls 4 [(0, .ref (ad 0 0)), (1, .int x), (2, .int (bz g))] := hl
  refine lv_aload_n hx hb d_RF_test_0 rfl (lv_at hl 0 rfl) ?_
  refine lv_iload_n hx hb d_RF_test_1 rfl (lv_at hl 1 rfl) ?_
  refine os_call (c_RF_robotAt l hlt D cA bs σ ad x hA hR) hE hV k_349 k_1 (os_inV (C := "RobotFaults") (n := 1) (bytes := prog_1_method_24_code) (maxL := 3) (ret := (some (.object "RobotFaults$Robot"))) hx hb hown (hts _ k_346) (hts _ k_348) (hts _ k_s5) (hts _ k_349) (by decide +kernel) rfl (os_recv hK hV rfl rfl (hA.n 0 (by decide))) rfl d_RF_test_2) (hl.1.trans hml.symm) (Nat.le_of_ble_eq_true rfl) (Nat.le_of_ble_eq_true rfl) (Nat.le_of_ble_eq_true rfl) (Nat.le_of_ble_eq_true rfl) (Nat.le_of_ble_eq_true rfl) (fun v σ1 ad1 H locs hp hext hV => ?_) (fun E q ce σ1 ad1 H locs hp hext hV hce hcv hcl => ?_)
  · obtain ⟨rfl, rfl, ⟨i_1, hi_2, hx_3, hp⟩ | ⟨hx_3, hp⟩⟩ := hp <;> cases hp
    refine W.eq (g2 := F0 m 5 ls [.ref (ad 9 i_1)]) rfl ?_
    refine lv_astore_n (lv' := [(3, .ref (ad 9 i_1)), (0, .ref (ad 0 0)), (1, .int x), (2, .int (bz g))]) hx hb d_RF_test_5 rfl hl (by decide) rfl (fun ls hl => ?_)
    refine lv_aload_n hx hb d_RF_test_6 rfl (lv_at hl 0 rfl) ?_
    refine os_getN (C := "RobotFaults$Robot") (T := F_Robot) (N := 6) (ci := 3) (K := 9) (j := 2) (i := i_1) (v := .int (os_g σ 9 2 i_1)) hx hb hts i_Robot hown hK hV rfl rfl (by decide) hi_2 (hts _ k_300) rfl d_RF_test_7 ?_
    refine lv_if_eq (tgt := 21) hx hb d_RF_test_10 (by decide) (fun c_4 => ?_) (fun c_4 => ?_)
    · skip
      refine os_throw (own := "RobotFaults") (cls := "java/lang/IllegalStateException") (text := "a robot that is going or lost is not tested") (names := ["java/lang/RuntimeException", "java/lang/Exception"]) hx hb hlt hown (by decide) (by decide) hE hV k_351 k_12 (by decide +kernel) th_IllegalStateException (hl.1.trans hml.symm) d_RF_test_21 d_RF_test_24 d_RF_test_25 d_RF_test_27 d_RF_test_30 hout hlocks (Nat.le_of_ble_eq_true rfl) (Nat.le_of_ble_eq_true rfl) (Nat.le_of_ble_eq_true rfl) (Nat.le_of_ble_eq_true rfl) (Nat.le_of_ble_eq_true rfl) (Nat.le_of_ble_eq_true rfl) ?_
      exact ⟨rfl, Or.inr ⟨i_1, ⟨hi_2, hx_3⟩, Or.inl ⟨Or.inl c_4, rfl, rfl⟩⟩⟩
    · skip
      refine lv_aload_n hx hb d_RF_test_13 rfl (lv_at hl 0 rfl) ?_
      refine os_getN (C := "RobotFaults$Robot") (T := F_Robot) (N := 6) (ci := 3) (K := 9) (j := 2) (i := i_1) (v := .int (os_g σ 9 2 i_1)) hx hb hts i_Robot hown hK hV rfl rfl (by decide) hi_2 (hts _ k_300) rfl d_RF_test_14 ?_
      refine lv_iconst (v := 2) hx hb d_RF_test_17 (by decide) ?_
      refine lv_icmp_ne (tgt := 31) hx hb d_RF_test_18 (by decide) (fun c_5 => ?_) (fun c_5 => ?_)
      · skip
        refine lv_aload_n hx hb d_RF_test_31 rfl (lv_at hl 1 rfl) ?_
        refine lv_aload_n hx hb d_RF_test_32 rfl (lv_at hl 0 rfl) ?_
        refine os_call (c_RF_openKinds l hlt D cA bs σ ad i_1 hA hF hi_2) hE hV k_557 k_1 (os_inV (C := "RobotFaults") (n := 1) (bytes := prog_1_method_38_code) (maxL := 7) (ret := (some .int)) hx hb hown (hts _ k_554) (hts _ k_556) (hts _ k_s13) (hts _ k_557) (by decide +kernel) rfl (os_recv hK hV rfl rfl (hA.n 0 (by decide))) rfl d_RF_test_33) (hl.1.trans hml.symm) (Nat.le_of_ble_eq_true rfl) (Nat.le_of_ble_eq_true rfl) (Nat.le_of_ble_eq_true rfl) (Nat.le_of_ble_eq_true rfl) (Nat.le_of_ble_eq_true rfl) (fun v σ1 ad1 H locs hp hext hV => ?_) (fun E q ce σ1 ad1 H locs hp hext hV hce hcv hcl => ?_)
        · obtain ⟨rfl, rfl, hp⟩ := hp
          cases hp
          refine W.eq (g2 := F0 m 36 ls [.int (okF σ i_1 40)]) rfl ?_
          refine lv_if_eq (tgt := 49) hx hb d_RF_test_36 (by decide) (fun c_6 => ?_) (fun c_6 => ?_)
          · skip
            refine lv_aload_n hx hb d_RF_test_49 rfl (lv_at hl 0 rfl) ?_
            refine lv_iload_n hx hb d_RF_test_50 rfl (lv_at hl 3 rfl) ?_
            refine lv_if_ne (tgt := 58) hx hb d_RF_test_51 (by decide) (fun c_7 => ?_) (fun c_7 => ?_)
            · skip
              refine lv_iconst (v := 0) hx hb d_RF_test_58 (by decide) ?_
              refine os_putIN (C := "RobotFaults$Robot") (T := F_Robot) (N := 6) (ci := 3) (K := 9) (j := 4) (i := i_1) (v := 0) (ty := .boolean) hx hb hts i_Robot t_Robot t_Robot_ok n_Robot hown hK hV rfl rfl (by decide) hi_2 (hts _ k_305) rfl rfl rfl (by decide +kernel) rfl rfl d_RF_test_59 (fun H locs hV => ?_)
              refine lv_iload_n hx hb d_RF_test_62 rfl (lv_at hl 3 rfl) ?_
              refine os_zret hx hb hr (bz_nar _) hlocks hV (Nat.le_of_ble_eq_true rfl) (Nat.le_of_ble_eq_true rfl) d_RF_test_63 ?_
              cases g with
              | true => exact ⟨rfl, Or.inr ⟨i_1, ⟨hi_2, hx_3⟩, Or.inr ⟨c_4, c_5, c_6, rfl, rfl⟩⟩⟩
              | false => exact absurd c_7 (by decide)
            · skip
              refine lv_iconst (v := 1) hx hb d_RF_test_54 (by decide) ?_
              refine lv_goto (tgt := 59) hx hb d_RF_test_55 (by decide) ?_
              refine os_putIN (C := "RobotFaults$Robot") (T := F_Robot) (N := 6) (ci := 3) (K := 9) (j := 4) (i := i_1) (v := 1) (ty := .boolean) hx hb hts i_Robot t_Robot t_Robot_ok n_Robot hown hK hV rfl rfl (by decide) hi_2 (hts _ k_305) rfl rfl rfl (by decide +kernel) rfl rfl d_RF_test_59 (fun H locs hV => ?_)
              refine lv_iload_n hx hb d_RF_test_62 rfl (lv_at hl 3 rfl) ?_
              refine os_zret hx hb hr (bz_nar _) hlocks hV (Nat.le_of_ble_eq_true rfl) (Nat.le_of_ble_eq_true rfl) d_RF_test_63 ?_
              cases g with
              | true => exact absurd c_7 (by decide)
              | false => exact ⟨rfl, Or.inr ⟨i_1, ⟨hi_2, hx_3⟩, Or.inr ⟨c_4, c_5, c_6, rfl, rfl⟩⟩⟩
          · skip
            refine os_throw (own := "RobotFaults") (cls := "java/lang/IllegalStateException") (text := "the robot has an open fault") (names := ["java/lang/RuntimeException", "java/lang/Exception"]) hx hb hlt hown (by decide) (by decide) hE hV k_351 k_12 (by decide +kernel) th_IllegalStateException (hl.1.trans hml.symm) d_RF_test_39 d_RF_test_42 d_RF_test_43 d_RF_test_45 d_RF_test_48 hout hlocks (Nat.le_of_ble_eq_true rfl) (Nat.le_of_ble_eq_true rfl) (Nat.le_of_ble_eq_true rfl) (Nat.le_of_ble_eq_true rfl) (Nat.le_of_ble_eq_true rfl) (Nat.le_of_ble_eq_true rfl) ?_
            exact ⟨rfl, Or.inr ⟨i_1, ⟨hi_2, hx_3⟩, Or.inl ⟨Or.inr (Or.inr c_6), rfl, rfl⟩⟩⟩
        · exact absurd hp.2.2 (fun h => by cases h)
      · skip
        refine os_throw (own := "RobotFaults") (cls := "java/lang/IllegalStateException") (text := "a robot that is going or lost is not tested") (names := ["java/lang/RuntimeException", "java/lang/Exception"]) hx hb hlt hown (by decide) (by decide) hE hV k_351 k_12 (by decide +kernel) th_IllegalStateException (hl.1.trans hml.symm) d_RF_test_21 d_RF_test_24 d_RF_test_25 d_RF_test_27 d_RF_test_30 hout hlocks (Nat.le_of_ble_eq_true rfl) (Nat.le_of_ble_eq_true rfl) (Nat.le_of_ble_eq_true rfl) (Nat.le_of_ble_eq_true rfl) (Nat.le_of_ble_eq_true rfl) (Nat.le_of_ble_eq_true rfl) ?_
        exact ⟨rfl, Or.inr ⟨i_1, ⟨hi_2, hx_3⟩, Or.inl ⟨Or.inr (Or.inl (by simpa using c_5)), rfl, rfl⟩⟩⟩
  · obtain ⟨rfl, rfl, ⟨i_1, hi_2, hx_3, hp⟩ | ⟨hx_3, hp⟩⟩ := hp <;> cases hp
    refine os_out hout hlocks hV hce hcv hcl (Nat.le_of_ble_eq_true rfl) (Nat.le_of_ble_eq_true rfl) ?_
    exact ⟨rfl, Or.inl ⟨hx_3, rfl, rfl⟩⟩
def q_step (σ : os_S) (ad : Nat → Nat → Nat) (x y : Int32) : os_O → os_S → (Nat → Nat → Nat) → Prop := fun r σ' ad' => ad = ad' ∧ ((noFt σ x ∧ σ = σ' ∧ r = .inr "java/util/NoSuchElementException") ∨
  ∃ i, isFt σ x i ∧ ((¬ (¬ y < 0 ∧ y < 8) ∧ σ = σ' ∧ r = .inr "java/lang/IllegalArgumentException") ∨ ((¬ y < 0 ∧ y < 8) ∧ ((¬ fop σ i = true ∧ σ = σ' ∧ r = .inr "java/lang/IllegalStateException") ∨ (fop σ i = true ∧ rf_holds (os_g σ 10 9 i) y = true ∧ σ = σ' ∧ r = .inl (some (.int 2))) ∨
    (fop σ i = true ∧ ¬ rf_holds (os_g σ 10 9 i) y = true ∧ fStep σ i y (os_g σ 0 10 0) = σ' ∧ r = .inl (some (.int (if fop (fStep σ i y (os_g σ 0 10 0)) i = true then 0 else 1))))))))
theorem fStep_n {σ : os_S} {i K : Nat} {x t : Int32} : os_n (fStep σ i x t) K = os_n σ K := by unfold fStep; split <;> rfl
set_option maxHeartbeats 4000000 in
set_option maxRecDepth 100000 in
theorem c_RF_step (l : Launch) (hlt : l.stackTraces = false) (D : va_G) (cA : Nat → ClassId) (bs : Nat) (σ : os_S) (ad : Nat → Nat → Nat) (x y : Int32) (hA : rfA σ) (hF : rfF σ) : os_Met l y_RF_step prog_1_method_9_code 4 (some .int) { frames := 7, cells := 3, slots := 18, locals := 118 } D cA bs [.ref (ad 0 0), .int x, .int y] σ ad (q_step σ ad x y) := by
  refine os_ofW (by decide) ?_
  intro p e s m below meth c hx hb hr hml hown hlocks hmn hout hE hV
  have hts := hE.hts (args := ([.ref (ad 0 0), .int x, .int y] : List Value).toArray)
  have hK := hE.2.1
  have hbs := hE.2.2.1
  have hown : s.vm.findClass "RobotFaults" = some m.cls := hown
  have hl := lv_entry ([.ref (ad 0 0), .int x, .int y]) (n := 4) (Nat.le_of_ble_eq_true rfl)
  rw [lg_entry_eq]
  generalize (lg_sl ([.ref (ad 0 0), .int x, .int y]) ++ List.replicate (4 - (lg_sl ([.ref (ad 0 0), .int x, .int y])).length) Slot.unset).toArray = ls at hl ⊢
  have hl : lv_has ls 4 [(0, .ref (ad 0 0)), (1, .int x), (2, .int y)] := hl
  refine lv_aload_n hx hb d_RF_step_0 rfl (lv_at hl 0 rfl) ?_
  refine lv_iload_n hx hb d_RF_step_1 rfl (lv_at hl 1 rfl) ?_
  refine os_call (c_RF_faultAt l hlt D cA bs σ ad x hA hF.1) hE hV k_528 k_1 (os_inV (C := "RobotFaults") (n := 1) (bytes := prog_1_method_25_code) (maxL := 3) (ret := (some (.object "RobotFaults$Fault"))) hx hb hown (hts _ k_525) (hts _ k_527) (hts _ k_s12) (hts _ k_528) (by decide +kernel) rfl (os_recv hK hV rfl rfl (hA.n 0 (by decide))) rfl d_RF_step_2) (hl.1.trans hml.symm) (Nat.le_of_ble_eq_true rfl) (Nat.le_of_ble_eq_true rfl) (Nat.le_of_ble_eq_true rfl) (Nat.le_of_ble_eq_true rfl) (Nat.le_of_ble_eq_true rfl) (fun v σ1 ad1 H locs hp hext hV => ?_) (fun E q ce σ1 ad1 H locs hp hext hV hce hcv hcl => ?_)
  · obtain ⟨rfl, rfl, ⟨i_1, hi_2, hx_3, hp⟩ | ⟨hx_3, hp⟩⟩ := hp <;> cases hp
    refine W.eq (g2 := F0 m 5 ls [.ref (ad 10 i_1)]) rfl ?_
    refine lv_astore_n (lv' := [(3, .ref (ad 10 i_1)), (0, .ref (ad 0 0)), (1, .int x), (2, .int y)]) hx hb d_RF_step_5 rfl hl (by decide) rfl (fun ls hl => ?_)
    refine lv_iload_n hx hb d_RF_step_6 rfl (lv_at hl 3 rfl) ?_
    refine os_call (c_RF_needPerson l hlt D cA bs σ ad y) hE hV k_532 k_1 (os_inS (n := 1) (bytes := prog_1_method_28_code) (maxL := 1) (ret := none) hx hb hown (hts _ k_530) (hts _ k_531) (hts _ k_1) (hts _ k_532) (by decide +kernel) rfl rfl d_RF_step_7) (hl.1.trans hml.symm) (Nat.le_of_ble_eq_true rfl) (Nat.le_of_ble_eq_true rfl) (Nat.le_of_ble_eq_true rfl) (Nat.le_of_ble_eq_true rfl) (Nat.le_of_ble_eq_true rfl) (fun v σ1 ad1 H locs hp hext hV => ?_) (fun E q ce σ1 ad1 H locs hp hext hV hce hcv hcl => ?_)
    · obtain ⟨rfl, rfl, ⟨g_4, hp⟩ | ⟨g_4, hp⟩⟩ := hp <;> cases hp
      refine W.eq (g2 := F0 m 10 ls []) rfl ?_
      refine lv_aload_n hx hb d_RF_step_10 rfl (lv_at hl 0 rfl) ?_
      refine os_call (c_Fault_isOpen l hlt D cA bs σ ad i_1 hi_2) hE hV k_129 k_13 (os_inV (C := "RobotFaults$Fault") (n := 0) (bytes := prog_3_method_2_code) (maxL := 1) (ret := (some .boolean)) hx hb hown (hts _ k_126) (hts _ k_127) (hts _ k_128) (hts _ k_129) (by decide +kernel) rfl (os_recv hK hV rfl rfl hi_2) rfl d_RF_step_11) (hl.1.trans hml.symm) (Nat.le_of_ble_eq_true rfl) (Nat.le_of_ble_eq_true rfl) (Nat.le_of_ble_eq_true rfl) (Nat.le_of_ble_eq_true rfl) (Nat.le_of_ble_eq_true rfl) (fun v σ1 ad1 H locs hp hext hV => ?_) (fun E q ce σ1 ad1 H locs hp hext hV hce hcv hcl => ?_)
      · obtain ⟨rfl, rfl, hp⟩ := hp
        cases hp
        refine W.eq (g2 := F0 m 14 ls [.int (bz (decide (os_g σ 10 10 i_1 = -1)))]) rfl ?_
        refine lv_if_ne (tgt := 27) hx hb d_RF_step_14 (by decide) (fun c_5 => ?_) (fun c_5 => ?_)
        · skip
          refine lv_aload_n hx hb d_RF_step_27 rfl (lv_at hl 0 rfl) ?_
          refine os_getN (C := "RobotFaults$Fault") (T := F_Fault) (N := 11) (ci := 4) (K := 10) (j := 9) (i := i_1) (v := .int (os_g σ 10 9 i_1)) hx hb hts i_Fault hown hK hV rfl rfl (by decide) hi_2 (hts _ k_438) rfl d_RF_step_28 ?_
          refine lv_iload_n hx hb d_RF_step_31 rfl (lv_at hl 3 rfl) ?_
          refine os_call (c_RF_holds l hlt D cA bs σ ad (os_g σ 10 9 i_1) y) hE hV k_373 k_1 (os_inS (n := 2) (bytes := prog_1_method_30_code) (maxL := 2) (ret := (some .boolean)) hx hb hown (hts _ k_535) (hts _ k_372) (hts _ k_1) (hts _ k_373) (by decide +kernel) rfl rfl d_RF_step_32) (hl.1.trans hml.symm) (Nat.le_of_ble_eq_true rfl) (Nat.le_of_ble_eq_true rfl) (Nat.le_of_ble_eq_true rfl) (Nat.le_of_ble_eq_true rfl) (Nat.le_of_ble_eq_true rfl) (fun v σ1 ad1 H locs hp hext hV => ?_) (fun E q ce σ1 ad1 H locs hp hext hV hce hcv hcl => ?_)
          · obtain ⟨rfl, rfl, hp⟩ := hp
            cases hp
            refine W.eq (g2 := F0 m 35 ls [.int (bz (rf_holds (os_g σ 10 9 i_1) y))]) rfl ?_
            refine lv_if_eq (tgt := 40) hx hb d_RF_step_35 (by decide) (fun c_6 => ?_) (fun c_6 => ?_)
            · skip
              refine lv_aload_n hx hb d_RF_step_40 rfl (lv_at hl 0 rfl) ?_
              refine lv_iload_n hx hb d_RF_step_41 rfl (lv_at hl 3 rfl) ?_
              refine lv_aload_n hx hb d_RF_step_42 rfl (lv_at hl 1 rfl) ?_
              refine os_get (C := "RobotFaults") (T := F_RF) (N := 11) (ci := 0) (K := 0) (j := 10) (i := 0) (v := .int (os_g σ 0 10 0)) hx hb hts i_RF hown hK hV rfl rfl (by decide) (hA.n 0 (by decide)) (hts _ k_78) rfl d_RF_step_43 ?_
              refine os_call (c_Fault_addStep l hlt D cA bs σ ad i_1 y (os_g σ 0 10 0) hi_2) hE hV k_539 k_13 (os_inV (C := "RobotFaults$Fault") (n := 2) (bytes := prog_3_method_3_code) (maxL := 3) (ret := none) hx hb hown (hts _ k_536) (hts _ k_537) (hts _ k_538) (hts _ k_539) (by decide +kernel) rfl (os_recv hK hV rfl rfl hi_2) rfl d_RF_step_46) (hl.1.trans hml.symm) (Nat.le_of_ble_eq_true rfl) (Nat.le_of_ble_eq_true rfl) (Nat.le_of_ble_eq_true rfl) (Nat.le_of_ble_eq_true rfl) (Nat.le_of_ble_eq_true rfl) (fun v σ1 ad1 H locs hp hext hV => ?_) (fun E q ce σ1 ad1 H locs hp hext hV hce hcv hcl => ?_)
              · obtain ⟨rfl, rfl, hp⟩ := hp
                cases hp
                refine W.eq (g2 := F0 m 49 ls []) rfl ?_
                have hr_7 : i_1 < os_n (fStep σ i_1 y (os_g σ 0 10 0)) 10 := by rw [fStep_n]; exact hi_2
                have hr_8 : 0 < os_n (fStep σ i_1 y (os_g σ 0 10 0)) 0 := by rw [fStep_n]; exact (hA.n 0 (by decide))
                refine lv_aload_n hx hb d_RF_step_49 rfl (lv_at hl 0 rfl) ?_
                refine os_call (c_Fault_isOpen l hlt D cA bs (fStep σ i_1 y (os_g σ 0 10 0)) ad i_1 hr_7) hE hV k_129 k_13 (os_inV (C := "RobotFaults$Fault") (n := 0) (bytes := prog_3_method_2_code) (maxL := 1) (ret := (some .boolean)) hx hb hown (hts _ k_126) (hts _ k_127) (hts _ k_128) (hts _ k_129) (by decide +kernel) rfl (os_recv hK hV rfl rfl hr_7) rfl d_RF_step_50) (hl.1.trans hml.symm) (Nat.le_of_ble_eq_true rfl) (Nat.le_of_ble_eq_true rfl) (Nat.le_of_ble_eq_true rfl) (Nat.le_of_ble_eq_true rfl) (Nat.le_of_ble_eq_true rfl) (fun v σ1 ad1 H locs hp hext hV => ?_) (fun E q ce σ1 ad1 H locs hp hext hV hce hcv hcl => ?_)
                · obtain ⟨rfl, rfl, hp⟩ := hp
                  cases hp
                  refine W.eq (g2 := F0 m 53 ls [.int (bz (decide (os_g (fStep σ i_1 y (os_g σ 0 10 0)) 10 10 i_1 = -1)))]) rfl ?_
                  refine lv_if_eq (tgt := 60) hx hb d_RF_step_53 (by decide) (fun c_9 => ?_) (fun c_9 => ?_)
                  · skip
                    refine lv_iconst (v := 1) hx hb d_RF_step_60 (by decide) ?_
                    refine os_iret hx hb hr hlocks hV (Nat.le_of_ble_eq_true rfl) (Nat.le_of_ble_eq_true rfl) d_RF_step_61 ?_
                    exact ⟨rfl, Or.inr ⟨i_1, ⟨hi_2, hx_3⟩, Or.inr ⟨g_4, Or.inr (Or.inr ⟨bz_1 c_5, bz_t c_6, rfl, by rw [if_neg (show ¬ fop (fStep σ i_1 y (os_g σ 0 10 0)) i_1 = true from bz_t c_9)]⟩)⟩⟩⟩
                  · skip
                    refine lv_iconst (v := 0) hx hb d_RF_step_56 (by decide) ?_
                    refine lv_goto (tgt := 61) hx hb d_RF_step_57 (by decide) ?_
                    refine os_iret hx hb hr hlocks hV (Nat.le_of_ble_eq_true rfl) (Nat.le_of_ble_eq_true rfl) d_RF_step_61 ?_
                    exact ⟨rfl, Or.inr ⟨i_1, ⟨hi_2, hx_3⟩, Or.inr ⟨g_4, Or.inr (Or.inr ⟨bz_1 c_5, bz_t c_6, rfl, by rw [if_pos (show fop (fStep σ i_1 y (os_g σ 0 10 0)) i_1 = true from bz_1 c_9)]⟩)⟩⟩⟩
                · exact absurd hp.2.2 (fun h => by cases h)
              · exact absurd hp.2.2 (fun h => by cases h)
            · skip
              refine lv_iconst (v := 2) hx hb d_RF_step_38 (by decide) ?_
              refine os_iret hx hb hr hlocks hV (Nat.le_of_ble_eq_true rfl) (Nat.le_of_ble_eq_true rfl) d_RF_step_39 ?_
              exact ⟨rfl, Or.inr ⟨i_1, ⟨hi_2, hx_3⟩, Or.inr ⟨g_4, Or.inr (Or.inl ⟨bz_1 c_5, bz_1 c_6, rfl, rfl⟩)⟩⟩⟩
          · exact absurd hp.2.2 (fun h => by cases h)
        · skip
          refine os_throw (own := "RobotFaults") (cls := "java/lang/IllegalStateException") (text := "the fault is reset") (names := ["java/lang/RuntimeException", "java/lang/Exception"]) hx hb hlt hown (by decide) (by decide) hE hV k_351 k_12 (by decide +kernel) th_IllegalStateException (hl.1.trans hml.symm) d_RF_step_17 d_RF_step_20 d_RF_step_21 d_RF_step_23 d_RF_step_26 hout hlocks (Nat.le_of_ble_eq_true rfl) (Nat.le_of_ble_eq_true rfl) (Nat.le_of_ble_eq_true rfl) (Nat.le_of_ble_eq_true rfl) (Nat.le_of_ble_eq_true rfl) (Nat.le_of_ble_eq_true rfl) ?_
          exact ⟨rfl, Or.inr ⟨i_1, ⟨hi_2, hx_3⟩, Or.inr ⟨g_4, Or.inl ⟨bz_t (by unfold fop; simpa using c_5), rfl, rfl⟩⟩⟩⟩
      · exact absurd hp.2.2 (fun h => by cases h)
    · obtain ⟨rfl, rfl, ⟨g_4, hp⟩ | ⟨g_4, hp⟩⟩ := hp <;> cases hp
      refine os_out hout hlocks hV hce hcv hcl (Nat.le_of_ble_eq_true rfl) (Nat.le_of_ble_eq_true rfl) ?_
      exact ⟨rfl, Or.inr ⟨i_1, ⟨hi_2, hx_3⟩, Or.inl ⟨g_4, rfl, rfl⟩⟩⟩
  · obtain ⟨rfl, rfl, ⟨i_1, hi_2, hx_3, hp⟩ | ⟨hx_3, hp⟩⟩ := hp <;> cases hp
    refine os_out hout hlocks hV hce hcv hcl (Nat.le_of_ble_eq_true rfl) (Nat.le_of_ble_eq_true rfl) ?_
    exact ⟨rfl, Or.inl ⟨hx_3, rfl, rfl⟩⟩
