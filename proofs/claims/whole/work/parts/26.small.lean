/-! SMALL METHODS of alarms, robots, rules, faults; constructors -/
set_option maxHeartbeats 4000000 in
set_option maxRecDepth 100000 in
theorem c_Alarm_canRise (l : Launch) (hlt : l.stackTraces = false) (D : va_G) (cA : Nat → ClassId) (bs : Nat) (σ : os_S) (ad : Nat → Nat → Nat) (i : Nat) (hL : rfL σ) (hi : i < os_n σ 11) : os_Met l y_Alarm_canRise prog_2_method_4_code 1 (some .boolean) { frames := 1, cells := 0, slots := 0, locals := 20 } D cA bs [.ref (ad 11 i)] σ ad (pv σ ad (some (.int (bz (decide (os_g σ 11 6 i = -1) && fop σ (aL σ i) && decide (os_g σ 11 4 i < 3)))))) := by
  refine os_ofW (by decide) ?_
  intro p e s m below meth c hx hb hr hml hown hlocks hmn hout hE hV
  have hts := hE.hts (args := ([.ref (ad 11 i)] : List Value).toArray)
  have hK := hE.2.1
  have hbs := hE.2.2.1
  have hown : s.vm.findClass "RobotFaults$Alarm" = some m.cls := hown
  have hl := lv_entry ([.ref (ad 11 i)]) (n := 1) (Nat.le_of_ble_eq_true rfl)
  rw [lg_entry_eq]
  generalize (lg_sl ([.ref (ad 11 i)]) ++ List.replicate (1 - (lg_sl ([.ref (ad 11 i)])).length) Slot.unset).toArray = ls at hl ⊢
  have hl : lv_has ls 1 [(0, .ref (ad 11 i))] := hl
  refine lv_aload_n hx hb d_Alarm_canRise_0 rfl (lv_at hl 0 rfl) ?_
  refine os_call (c_Alarm_isAcknowledged l hlt D cA bs σ ad i hi) hE hV k_109 k_14 (os_inV (C := "RobotFaults$Alarm") (n := 0) (bytes := prog_2_method_2_code) (maxL := 1) (ret := (some .boolean)) hx hb hown (hts _ k_660) (hts _ k_107) (hts _ k_108) (hts _ k_109) (by decide +kernel) rfl (os_recv hK hV rfl rfl hi) rfl d_Alarm_canRise_1) (hl.1.trans hml.symm) (Nat.le_of_ble_eq_true rfl) (Nat.le_of_ble_eq_true rfl) (Nat.le_of_ble_eq_true rfl) (Nat.le_of_ble_eq_true rfl) (Nat.le_of_ble_eq_true rfl) (fun v σ1 ad1 H locs hp hext hV => ?_) (fun E q ce σ1 ad1 H locs hp hext hV hce hcv hcl => ?_)
  · obtain ⟨rfl, rfl, hp⟩ := hp
    cases hp
    refine W.eq (g2 := F0 m 4 ls [.int (bz (decide (¬ os_g σ 11 6 i = -1)))]) rfl ?_
    refine lv_if_ne (tgt := 29) hx hb d_Alarm_canRise_4 (by decide) (fun c_1 => ?_) (fun c_1 => ?_)
    · skip
      refine lv_iconst (v := 0) hx hb d_Alarm_canRise_29 (by decide) ?_
      refine os_zret hx hb hr rfl hlocks hV (Nat.le_of_ble_eq_true rfl) (Nat.le_of_ble_eq_true rfl) d_Alarm_canRise_30 ?_
      exact ⟨rfl, rfl, by simp_all [bz, fop]⟩
    · skip
      refine lv_aload_n hx hb d_Alarm_canRise_7 rfl (lv_at hl 0 rfl) ?_
      refine os_get (C := "RobotFaults$Alarm") (T := F_Alarm) (N := 8) (ci := 5) (K := 11) (j := 7) (i := i) (v := .ref (ad 10 (aL σ i))) hx hb hts i_Alarm hown hK hV rfl rfl (by decide) hi (hts _ k_495) (congrArg (fun z => va_rf (Option.map (ad 10) z)) (hL.2.2 i hi)) d_Alarm_canRise_8 ?_
      refine os_call (c_Fault_isOpen l hlt D cA bs σ ad (aL σ i) (hV.1.2.2.1 11 i hi 7 10 _ rfl (hL.2.2 i hi))) hE hV k_129 k_13 (os_inV (C := "RobotFaults$Fault") (n := 0) (bytes := prog_3_method_2_code) (maxL := 1) (ret := (some .boolean)) hx hb hown (hts _ k_661) (hts _ k_127) (hts _ k_128) (hts _ k_129) (by decide +kernel) rfl (os_recv hK hV rfl rfl (hV.1.2.2.1 11 i hi 7 10 _ rfl (hL.2.2 i hi))) rfl d_Alarm_canRise_11) (hl.1.trans hml.symm) (Nat.le_of_ble_eq_true rfl) (Nat.le_of_ble_eq_true rfl) (Nat.le_of_ble_eq_true rfl) (Nat.le_of_ble_eq_true rfl) (Nat.le_of_ble_eq_true rfl) (fun v σ1 ad1 H locs hp hext hV => ?_) (fun E q ce σ1 ad1 H locs hp hext hV hce hcv hcl => ?_)
      · obtain ⟨rfl, rfl, hp⟩ := hp
        cases hp
        refine W.eq (g2 := F0 m 14 ls [.int (bz (decide (os_g σ 10 10 (aL σ i) = -1)))]) rfl ?_
        refine lv_if_eq (tgt := 29) hx hb d_Alarm_canRise_14 (by decide) (fun c_2 => ?_) (fun c_2 => ?_)
        · skip
          refine lv_iconst (v := 0) hx hb d_Alarm_canRise_29 (by decide) ?_
          refine os_zret hx hb hr rfl hlocks hV (Nat.le_of_ble_eq_true rfl) (Nat.le_of_ble_eq_true rfl) d_Alarm_canRise_30 ?_
          exact ⟨rfl, rfl, by simp_all [bz, fop]⟩
        · skip
          refine lv_aload_n hx hb d_Alarm_canRise_17 rfl (lv_at hl 0 rfl) ?_
          refine os_get (C := "RobotFaults$Alarm") (T := F_Alarm) (N := 8) (ci := 5) (K := 11) (j := 4) (i := i) (v := .int (os_g σ 11 4 i)) hx hb hts i_Alarm hown hK hV rfl rfl (by decide) hi (hts _ k_489) rfl d_Alarm_canRise_18 ?_
          refine lv_iconst (v := 3) hx hb d_Alarm_canRise_21 (by decide) ?_
          refine lv_icmp_ge (tgt := 29) hx hb d_Alarm_canRise_22 (by decide) (fun c_3 => ?_) (fun c_3 => ?_)
          · skip
            refine lv_iconst (v := 0) hx hb d_Alarm_canRise_29 (by decide) ?_
            refine os_zret hx hb hr rfl hlocks hV (Nat.le_of_ble_eq_true rfl) (Nat.le_of_ble_eq_true rfl) d_Alarm_canRise_30 ?_
            exact ⟨rfl, rfl, by simp_all [bz, fop]⟩
          · skip
            refine lv_iconst (v := 1) hx hb d_Alarm_canRise_25 (by decide) ?_
            refine lv_goto (tgt := 30) hx hb d_Alarm_canRise_26 (by decide) ?_
            refine os_zret hx hb hr rfl hlocks hV (Nat.le_of_ble_eq_true rfl) (Nat.le_of_ble_eq_true rfl) d_Alarm_canRise_30 ?_
            exact ⟨rfl, rfl, by simp_all [bz, fop]⟩
      · exact absurd hp.2.2 (fun h => by cases h)
  · exact absurd hp.2.2 (fun h => by cases h)
set_option maxHeartbeats 4000000 in
set_option maxRecDepth 100000 in
theorem c_Alarm_isRiseSecond (l : Launch) (hlt : l.stackTraces = false) (D : va_G) (cA : Nat → ClassId) (bs : Nat) (σ : os_S) (ad : Nat → Nat → Nat) (i : Nat) (t : Int32) (hL : rfL σ) (hi : i < os_n σ 11) : os_Met l y_Alarm_isRiseSecond prog_2_method_5_code 2 (some .boolean) { frames := 0, cells := 0, slots := 0, locals := 0 } D cA bs [.ref (ad 11 i), .int t] σ ad (pv σ ad (some (.int (bz (decide (¬ t ≤ os_g σ 10 3 (aL σ i)) && decide ((t - os_g σ 10 3 (aL σ i)) - (t - os_g σ 10 3 (aL σ i)) / 30 * 30 = 0)))))) := by
  refine os_ofW (by decide) ?_
  intro p e s m below meth c hx hb hr hml hown hlocks hmn hout hE hV
  have hts := hE.hts (args := ([.ref (ad 11 i), .int t] : List Value).toArray)
  have hK := hE.2.1
  have hbs := hE.2.2.1
  have hown : s.vm.findClass "RobotFaults$Alarm" = some m.cls := hown
  have hl := lv_entry ([.ref (ad 11 i), .int t]) (n := 2) (Nat.le_of_ble_eq_true rfl)
  rw [lg_entry_eq]
  generalize (lg_sl ([.ref (ad 11 i), .int t]) ++ List.replicate (2 - (lg_sl ([.ref (ad 11 i), .int t])).length) Slot.unset).toArray = ls at hl ⊢
  have hl : lv_has ls 2 [(0, .ref (ad 11 i)), (1, .int t)] := hl
  refine lv_iload_n hx hb d_Alarm_isRiseSecond_0 rfl (lv_at hl 1 rfl) ?_
  refine lv_aload_n hx hb d_Alarm_isRiseSecond_1 rfl (lv_at hl 0 rfl) ?_
  refine os_get (C := "RobotFaults$Alarm") (T := F_Alarm) (N := 8) (ci := 5) (K := 11) (j := 7) (i := i) (v := .ref (ad 10 (aL σ i))) hx hb hts i_Alarm hown hK hV rfl rfl (by decide) hi (hts _ k_495) (congrArg (fun z => va_rf (Option.map (ad 10) z)) (hL.2.2 i hi)) d_Alarm_isRiseSecond_2 ?_
  refine os_getN (C := "RobotFaults$Fault") (T := F_Fault) (N := 11) (ci := 4) (K := 10) (j := 3) (i := (aL σ i)) (v := .int (os_g σ 10 3 (aL σ i))) hx hb hts i_Fault hown hK hV rfl rfl (by decide) (hV.1.2.2.1 11 i hi 7 10 _ rfl (hL.2.2 i hi)) (hts _ k_426) rfl d_Alarm_isRiseSecond_5 ?_
  refine lv_icmp_le (tgt := 30) hx hb d_Alarm_isRiseSecond_8 (by decide) (fun c_1 => ?_) (fun c_1 => ?_)
  · skip
    refine lv_iconst (v := 0) hx hb d_Alarm_isRiseSecond_30 (by decide) ?_
    refine os_zret hx hb hr rfl hlocks hV (Nat.le_of_ble_eq_true rfl) (Nat.le_of_ble_eq_true rfl) d_Alarm_isRiseSecond_31 ?_
    exact ⟨rfl, rfl, by simp_all [bz, fop]⟩
  · skip
    refine lv_iload_n hx hb d_Alarm_isRiseSecond_11 rfl (lv_at hl 1 rfl) ?_
    refine lv_aload_n hx hb d_Alarm_isRiseSecond_12 rfl (lv_at hl 0 rfl) ?_
    refine os_get (C := "RobotFaults$Alarm") (T := F_Alarm) (N := 8) (ci := 5) (K := 11) (j := 7) (i := i) (v := .ref (ad 10 (aL σ i))) hx hb hts i_Alarm hown hK hV rfl rfl (by decide) hi (hts _ k_495) (congrArg (fun z => va_rf (Option.map (ad 10) z)) (hL.2.2 i hi)) d_Alarm_isRiseSecond_13 ?_
    refine os_getN (C := "RobotFaults$Fault") (T := F_Fault) (N := 11) (ci := 4) (K := 10) (j := 3) (i := (aL σ i)) (v := .int (os_g σ 10 3 (aL σ i))) hx hb hts i_Fault hown hK hV rfl rfl (by decide) (hV.1.2.2.1 11 i hi 7 10 _ rfl (hL.2.2 i hi)) (hts _ k_426) rfl d_Alarm_isRiseSecond_16 ?_
    refine lv_isub hx hb d_Alarm_isRiseSecond_19 ?_
    refine lv_bipush (v := 30) hx hb d_Alarm_isRiseSecond_20 (by decide) ?_
    refine lv_irem hx hb d_Alarm_isRiseSecond_22 (by decide) ?_
    refine lv_if_ne (tgt := 30) hx hb d_Alarm_isRiseSecond_23 (by decide) (fun c_2 => ?_) (fun c_2 => ?_)
    · skip
      refine lv_iconst (v := 0) hx hb d_Alarm_isRiseSecond_30 (by decide) ?_
      refine os_zret hx hb hr rfl hlocks hV (Nat.le_of_ble_eq_true rfl) (Nat.le_of_ble_eq_true rfl) d_Alarm_isRiseSecond_31 ?_
      exact ⟨rfl, rfl, by simp_all [bz, fop]⟩
    · skip
      refine lv_iconst (v := 1) hx hb d_Alarm_isRiseSecond_26 (by decide) ?_
      refine lv_goto (tgt := 31) hx hb d_Alarm_isRiseSecond_27 (by decide) ?_
      refine os_zret hx hb hr rfl hlocks hV (Nat.le_of_ble_eq_true rfl) (Nat.le_of_ble_eq_true rfl) d_Alarm_isRiseSecond_31 ?_
      exact ⟨rfl, rfl, by simp_all [bz, fop]⟩
set_option maxHeartbeats 4000000 in
set_option maxRecDepth 100000 in
theorem c_Alarm_nextRise (l : Launch) (hlt : l.stackTraces = false) (D : va_G) (cA : Nat → ClassId) (bs : Nat) (σ : os_S) (ad : Nat → Nat → Nat) (i : Nat) (t : Int32) (hL : rfL σ) (hi : i < os_n σ 11) : os_Met l y_Alarm_nextRise prog_2_method_6_code 3 (some .int) { frames := 0, cells := 0, slots := 0, locals := 0 } D cA bs [.ref (ad 11 i), .int t] σ ad (fun r σ' ad' => σ = σ' ∧ ad = ad' ∧ r = .inl (some (.int ((os_g σ 10 3 (aL σ i)) + ((((t - (os_g σ 10 3 (aL σ i))) / 30) + 1) * 30))))) := by
  refine os_ofW (by decide) ?_
  intro p e s m below meth c hx hb hr hml hown hlocks hmn hout hE hV
  have hts := hE.hts (args := ([.ref (ad 11 i), .int t] : List Value).toArray)
  have hK := hE.2.1
  have hbs := hE.2.2.1
  have hown : s.vm.findClass "RobotFaults$Alarm" = some m.cls := hown
  have hl := lv_entry ([.ref (ad 11 i), .int t]) (n := 3) (Nat.le_of_ble_eq_true rfl)
  rw [lg_entry_eq]
  generalize (lg_sl ([.ref (ad 11 i), .int t]) ++ List.replicate (3 - (lg_sl ([.ref (ad 11 i), .int t])).length) Slot.unset).toArray = ls at hl ⊢
  have hl : lv_has ls 3 [(0, .ref (ad 11 i)), (1, .int t)] := hl
  refine lv_iload_n hx hb d_Alarm_nextRise_0 rfl (lv_at hl 1 rfl) ?_
  refine lv_aload_n hx hb d_Alarm_nextRise_1 rfl (lv_at hl 0 rfl) ?_
  refine os_get (C := "RobotFaults$Alarm") (T := F_Alarm) (N := 8) (ci := 5) (K := 11) (j := 7) (i := i) (v := .ref (ad 10 (aL σ i))) hx hb hts i_Alarm hown hK hV rfl rfl (by decide) hi (hts _ k_495) (congrArg (fun z => va_rf (Option.map (ad 10) z)) (hL.2.2 i hi)) d_Alarm_nextRise_2 ?_
  refine os_getN (C := "RobotFaults$Fault") (T := F_Fault) (N := 11) (ci := 4) (K := 10) (j := 3) (i := (aL σ i)) (v := .int (os_g σ 10 3 (aL σ i))) hx hb hts i_Fault hown hK hV rfl rfl (by decide) (hV.1.2.2.1 11 i hi 7 10 _ rfl (hL.2.2 i hi)) (hts _ k_426) rfl d_Alarm_nextRise_5 ?_
  refine lv_isub hx hb d_Alarm_nextRise_8 ?_
  refine lv_bipush (v := 30) hx hb d_Alarm_nextRise_9 (by decide) ?_
  refine lv_idiv hx hb d_Alarm_nextRise_11 (by decide) ?_
  refine lv_iconst (v := 1) hx hb d_Alarm_nextRise_12 (by decide) ?_
  refine lv_iadd hx hb d_Alarm_nextRise_13 ?_
  refine lv_istore_n (lv' := [(2, .int (((t - (os_g σ 10 3 (aL σ i))) / 30) + 1)), (0, .ref (ad 11 i)), (1, .int t)]) hx hb d_Alarm_nextRise_14 rfl hl (by decide) rfl (fun ls hl => ?_)
  refine lv_aload_n hx hb d_Alarm_nextRise_15 rfl (lv_at hl 1 rfl) ?_
  refine os_get (C := "RobotFaults$Alarm") (T := F_Alarm) (N := 8) (ci := 5) (K := 11) (j := 7) (i := i) (v := .ref (ad 10 (aL σ i))) hx hb hts i_Alarm hown hK hV rfl rfl (by decide) hi (hts _ k_495) (congrArg (fun z => va_rf (Option.map (ad 10) z)) (hL.2.2 i hi)) d_Alarm_nextRise_16 ?_
  refine os_getN (C := "RobotFaults$Fault") (T := F_Fault) (N := 11) (ci := 4) (K := 10) (j := 3) (i := (aL σ i)) (v := .int (os_g σ 10 3 (aL σ i))) hx hb hts i_Fault hown hK hV rfl rfl (by decide) (hV.1.2.2.1 11 i hi 7 10 _ rfl (hL.2.2 i hi)) (hts _ k_426) rfl d_Alarm_nextRise_19 ?_
  refine lv_iload_n hx hb d_Alarm_nextRise_22 rfl (lv_at hl 0 rfl) ?_
  refine lv_bipush (v := 30) hx hb d_Alarm_nextRise_23 (by decide) ?_
  refine lv_imul hx hb d_Alarm_nextRise_25 ?_
  refine lv_iadd hx hb d_Alarm_nextRise_26 ?_
  refine os_iret hx hb hr hlocks hV (Nat.le_of_ble_eq_true rfl) (Nat.le_of_ble_eq_true rfl) d_Alarm_nextRise_27 ?_
  exact ⟨rfl, rfl, rfl⟩
set_option maxHeartbeats 4000000 in
set_option maxRecDepth 100000 in
theorem c_Alarm_comesBefore (l : Launch) (hlt : l.stackTraces = false) (D : va_G) (cA : Nat → ClassId) (bs : Nat) (σ : os_S) (ad : Nat → Nat → Nat) (i k : Nat) (hi : i < os_n σ 11) (hk : k < os_n σ 11) : os_Met l y_Alarm_comesBefore prog_2_method_7_code 2 (some .boolean) { frames := 0, cells := 0, slots := 0, locals := 0 } D cA bs [.ref (ad 11 i), .ref (ad 11 k)] σ ad (pv σ ad (some (.int (bz (if os_g σ 11 4 i = os_g σ 11 4 k then decide (os_g σ 11 3 i < os_g σ 11 3 k) else decide (os_g σ 11 4 k < os_g σ 11 4 i)))))) := by
  refine os_ofW (by decide) ?_
  intro p e s m below meth c hx hb hr hml hown hlocks hmn hout hE hV
  have hts := hE.hts (args := ([.ref (ad 11 i), .ref (ad 11 k)] : List Value).toArray)
  have hK := hE.2.1
  have hbs := hE.2.2.1
  have hown : s.vm.findClass "RobotFaults$Alarm" = some m.cls := hown
  have hl := lv_entry ([.ref (ad 11 i), .ref (ad 11 k)]) (n := 2) (Nat.le_of_ble_eq_true rfl)
  rw [lg_entry_eq]
  generalize (lg_sl ([.ref (ad 11 i), .ref (ad 11 k)]) ++ List.replicate (2 - (lg_sl ([.ref (ad 11 i), .ref (ad 11 k)])).length) Slot.unset).toArray = ls at hl ⊢
  have hl : lv_has ls 2 [(0, .ref (ad 11 i)), (1, .ref (ad 11 k))] := hl
  refine lv_aload_n hx hb d_Alarm_comesBefore_0 rfl (lv_at hl 0 rfl) ?_
  refine os_get (C := "RobotFaults$Alarm") (T := F_Alarm) (N := 8) (ci := 5) (K := 11) (j := 4) (i := i) (v := .int (os_g σ 11 4 i)) hx hb hts i_Alarm hown hK hV rfl rfl (by decide) hi (hts _ k_489) rfl d_Alarm_comesBefore_1 ?_
  refine lv_aload_n hx hb d_Alarm_comesBefore_4 rfl (lv_at hl 1 rfl) ?_
  refine os_get (C := "RobotFaults$Alarm") (T := F_Alarm) (N := 8) (ci := 5) (K := 11) (j := 4) (i := k) (v := .int (os_g σ 11 4 k)) hx hb hts i_Alarm hown hK hV rfl rfl (by decide) hk (hts _ k_489) rfl d_Alarm_comesBefore_5 ?_
  refine lv_icmp_eq (tgt := 30) hx hb d_Alarm_comesBefore_8 (by decide) (fun c_1 => ?_) (fun c_1 => ?_)
  · skip
    refine lv_aload_n hx hb d_Alarm_comesBefore_30 rfl (lv_at hl 0 rfl) ?_
    refine os_get (C := "RobotFaults$Alarm") (T := F_Alarm) (N := 8) (ci := 5) (K := 11) (j := 3) (i := i) (v := .int (os_g σ 11 3 i)) hx hb hts i_Alarm hown hK hV rfl rfl (by decide) hi (hts _ k_487) rfl d_Alarm_comesBefore_31 ?_
    refine lv_aload_n hx hb d_Alarm_comesBefore_34 rfl (lv_at hl 1 rfl) ?_
    refine os_get (C := "RobotFaults$Alarm") (T := F_Alarm) (N := 8) (ci := 5) (K := 11) (j := 3) (i := k) (v := .int (os_g σ 11 3 k)) hx hb hts i_Alarm hown hK hV rfl rfl (by decide) hk (hts _ k_487) rfl d_Alarm_comesBefore_35 ?_
    refine lv_icmp_ge (tgt := 45) hx hb d_Alarm_comesBefore_38 (by decide) (fun c_2 => ?_) (fun c_2 => ?_)
    · skip
      refine lv_iconst (v := 0) hx hb d_Alarm_comesBefore_45 (by decide) ?_
      refine os_zret hx hb hr rfl hlocks hV (Nat.le_of_ble_eq_true rfl) (Nat.le_of_ble_eq_true rfl) d_Alarm_comesBefore_46 ?_
      exact ⟨rfl, rfl, by simp_all [bz, fop]⟩
    · skip
      refine lv_iconst (v := 1) hx hb d_Alarm_comesBefore_41 (by decide) ?_
      refine lv_goto (tgt := 46) hx hb d_Alarm_comesBefore_42 (by decide) ?_
      refine os_zret hx hb hr rfl hlocks hV (Nat.le_of_ble_eq_true rfl) (Nat.le_of_ble_eq_true rfl) d_Alarm_comesBefore_46 ?_
      exact ⟨rfl, rfl, by simp_all [bz, fop]⟩
  · skip
    refine lv_aload_n hx hb d_Alarm_comesBefore_11 rfl (lv_at hl 0 rfl) ?_
    refine os_get (C := "RobotFaults$Alarm") (T := F_Alarm) (N := 8) (ci := 5) (K := 11) (j := 4) (i := i) (v := .int (os_g σ 11 4 i)) hx hb hts i_Alarm hown hK hV rfl rfl (by decide) hi (hts _ k_489) rfl d_Alarm_comesBefore_12 ?_
    refine lv_aload_n hx hb d_Alarm_comesBefore_15 rfl (lv_at hl 1 rfl) ?_
    refine os_get (C := "RobotFaults$Alarm") (T := F_Alarm) (N := 8) (ci := 5) (K := 11) (j := 4) (i := k) (v := .int (os_g σ 11 4 k)) hx hb hts i_Alarm hown hK hV rfl rfl (by decide) hk (hts _ k_489) rfl d_Alarm_comesBefore_16 ?_
    refine lv_icmp_le (tgt := 26) hx hb d_Alarm_comesBefore_19 (by decide) (fun c_3 => ?_) (fun c_3 => ?_)
    · skip
      refine lv_iconst (v := 0) hx hb d_Alarm_comesBefore_26 (by decide) ?_
      refine lv_goto (tgt := 46) hx hb d_Alarm_comesBefore_27 (by decide) ?_
      refine os_zret hx hb hr rfl hlocks hV (Nat.le_of_ble_eq_true rfl) (Nat.le_of_ble_eq_true rfl) d_Alarm_comesBefore_46 ?_
      exact ⟨rfl, rfl, by simp_all [bz, fop]⟩
    · skip
      refine lv_iconst (v := 1) hx hb d_Alarm_comesBefore_22 (by decide) ?_
      refine lv_goto (tgt := 46) hx hb d_Alarm_comesBefore_23 (by decide) ?_
      refine os_zret hx hb hr rfl hlocks hV (Nat.le_of_ble_eq_true rfl) (Nat.le_of_ble_eq_true rfl) d_Alarm_comesBefore_46 ?_
      exact ⟨rfl, rfl, by simp_all [bz, fop]⟩
set_option maxHeartbeats 4000000 in
set_option maxRecDepth 100000 in
theorem c_Alarm_join (l : Launch) (hlt : l.stackTraces = false) (D : va_G) (cA : Nat → ClassId) (bs : Nat) (σ : os_S) (ad : Nat → Nat → Nat) (i f : Nat) (hi : i < os_n σ 11) (hf : f < os_n σ 10) : os_Met l y_Alarm_join prog_2_method_3_code 2 none { frames := 0, cells := 0, slots := 0, locals := 0 } D cA bs [.ref (ad 11 i), .ref (ad 10 f)] σ ad (fun r σ' ad' => os_sg (os_sg (os_sr σ 11 7 i (some f)) 11 5 i ((os_g σ 11 5 i) + 1)) 11 6 i (-1) = σ' ∧ ad = ad' ∧ r = .inl none) := by
  refine os_ofW (by decide) ?_
  intro p e s m below meth c hx hb hr hml hown hlocks hmn hout hE hV
  have hts := hE.hts (args := ([.ref (ad 11 i), .ref (ad 10 f)] : List Value).toArray)
  have hK := hE.2.1
  have hbs := hE.2.2.1
  have hown : s.vm.findClass "RobotFaults$Alarm" = some m.cls := hown
  have hl := lv_entry ([.ref (ad 11 i), .ref (ad 10 f)]) (n := 2) (Nat.le_of_ble_eq_true rfl)
  rw [lg_entry_eq]
  generalize (lg_sl ([.ref (ad 11 i), .ref (ad 10 f)]) ++ List.replicate (2 - (lg_sl ([.ref (ad 11 i), .ref (ad 10 f)])).length) Slot.unset).toArray = ls at hl ⊢
  have hl : lv_has ls 2 [(0, .ref (ad 11 i)), (1, .ref (ad 10 f))] := hl
  refine lv_aload_n hx hb d_Alarm_join_0 rfl (lv_at hl 0 rfl) ?_
  refine lv_aload_n hx hb d_Alarm_join_1 rfl (lv_at hl 1 rfl) ?_
  refine os_putR (C := "RobotFaults$Alarm") (T := F_Alarm) (N := 8) (ci := 5) (K := 11) (j := 7) (i := i) (kt := 10) (v := (some f)) (ty := .object "RobotFaults$Fault") hx hb hts i_Alarm t_Alarm t_Alarm_ok n_Alarm hown hK hV rfl rfl (by decide) hi (hts _ k_495) rfl rfl rfl (fun t h => by cases h; exact hf) (by decide +kernel) ⟨rfl, rfl⟩ d_Alarm_join_2 (fun H locs hV => ?_)
  refine lv_aload_n hx hb d_Alarm_join_5 rfl (lv_at hl 0 rfl) ?_
  refine lv_dup hx hb d_Alarm_join_6 rfl ?_
  refine os_get (C := "RobotFaults$Alarm") (T := F_Alarm) (N := 8) (ci := 5) (K := 11) (j := 5) (i := i) (v := .int (os_g σ 11 5 i)) hx hb hts i_Alarm hown hK hV rfl rfl (by decide) hi (hts _ k_491) rfl d_Alarm_join_7 ?_
  refine lv_iconst (v := 1) hx hb d_Alarm_join_10 (by decide) ?_
  refine lv_iadd hx hb d_Alarm_join_11 ?_
  refine os_putI (C := "RobotFaults$Alarm") (T := F_Alarm) (N := 8) (ci := 5) (K := 11) (j := 5) (i := i) (v := (os_g σ 11 5 i) + 1) (ty := .int) hx hb hts i_Alarm t_Alarm t_Alarm_ok n_Alarm hown hK hV rfl rfl (by decide) hi (hts _ k_491) rfl rfl rfl (by decide +kernel) rfl rfl d_Alarm_join_12 (fun H locs hV => ?_)
  refine lv_aload_n hx hb d_Alarm_join_15 rfl (lv_at hl 0 rfl) ?_
  refine lv_iconst (v := (-1)) hx hb d_Alarm_join_16 (by decide) ?_
  refine os_putI (C := "RobotFaults$Alarm") (T := F_Alarm) (N := 8) (ci := 5) (K := 11) (j := 6) (i := i) (v := (-1)) (ty := .int) hx hb hts i_Alarm t_Alarm t_Alarm_ok n_Alarm hown hK hV rfl rfl (by decide) hi (hts _ k_493) rfl rfl rfl (by decide +kernel) rfl rfl d_Alarm_join_17 (fun H locs hV => ?_)
  refine os_vret hx hb hr hlocks hV (Nat.le_of_ble_eq_true rfl) (Nat.le_of_ble_eq_true rfl) d_Alarm_join_20 ?_
  exact ⟨rfl, rfl, rfl⟩
set_option maxHeartbeats 4000000 in
set_option maxRecDepth 100000 in
theorem c_Alarm_init (l : Launch) (hlt : l.stackTraces = false) (D : va_G) (cA : Nat → ClassId) (bs : Nat) (σ : os_S) (ad : Nat → Nat → Nat) (i f r9 : Nat) (x y : Int32) (hi : i < os_n σ 11) (hf : f < os_n σ 10) (hr9 : r9 < os_n σ 9) (hfr : os_r σ 10 1 f = some r9) : os_Met l y_Alarm_init prog_2_method_1_code 4 none { frames := 1, cells := 0, slots := 0, locals := 12 } D cA bs [.ref (ad 11 i), .int x, .ref (ad 10 f), .int y] σ ad (fun r σ' ad' => os_sr (os_sg (os_sg (os_sr (os_sg (os_sg (os_sg (os_sg σ 11 4 i 0) 11 5 i 1) 11 6 i (-1)) 11 0 i x) 11 1 i (some r9)) 11 2 i (os_g σ 10 2 f)) 11 3 i y) 11 7 i (some f) = σ' ∧ ad = ad' ∧ r = .inl none) := by
  refine os_ofW (by decide) ?_
  intro p e s m below meth c hx hb hr hml hown hlocks hmn hout hE hV
  have hts := hE.hts (args := ([.ref (ad 11 i), .int x, .ref (ad 10 f), .int y] : List Value).toArray)
  have hK := hE.2.1
  have hbs := hE.2.2.1
  have hown : s.vm.findClass "RobotFaults$Alarm" = some m.cls := hown
  have hl := lv_entry ([.ref (ad 11 i), .int x, .ref (ad 10 f), .int y]) (n := 4) (Nat.le_of_ble_eq_true rfl)
  rw [lg_entry_eq]
  generalize (lg_sl ([.ref (ad 11 i), .int x, .ref (ad 10 f), .int y]) ++ List.replicate (4 - (lg_sl ([.ref (ad 11 i), .int x, .ref (ad 10 f), .int y])).length) Slot.unset).toArray = ls at hl ⊢
  have hl : lv_has ls 4 [(0, .ref (ad 11 i)), (1, .int x), (2, .ref (ad 10 f)), (3, .int y)] := hl
  refine lv_aload_n hx hb d_Alarm_init_0 rfl (lv_at hl 0 rfl) ?_
  refine W.objInit hx hb hown (hts _ k_480) (hts _ k_24) (hts _ k_25) rfl (hl.1.trans hml.symm) rfl d_Alarm_init_1 (Nat.le_of_ble_eq_true rfl) (Nat.le_of_ble_eq_true rfl) ?_
  refine W.eq (g2 := F0 m 4 ls []) rfl ?_
  refine lv_aload_n hx hb d_Alarm_init_4 rfl (lv_at hl 0 rfl) ?_
  refine lv_iconst (v := 0) hx hb d_Alarm_init_5 (by decide) ?_
  refine os_putI (C := "RobotFaults$Alarm") (T := F_Alarm) (N := 8) (ci := 5) (K := 11) (j := 4) (i := i) (v := 0) (ty := .int) hx hb hts i_Alarm t_Alarm t_Alarm_ok n_Alarm hown hK hV rfl rfl (by decide) hi (hts _ k_489) rfl rfl rfl (by decide +kernel) rfl rfl d_Alarm_init_6 (fun H locs hV => ?_)
  refine lv_aload_n hx hb d_Alarm_init_9 rfl (lv_at hl 0 rfl) ?_
  refine lv_iconst (v := 1) hx hb d_Alarm_init_10 (by decide) ?_
  refine os_putI (C := "RobotFaults$Alarm") (T := F_Alarm) (N := 8) (ci := 5) (K := 11) (j := 5) (i := i) (v := 1) (ty := .int) hx hb hts i_Alarm t_Alarm t_Alarm_ok n_Alarm hown hK hV rfl rfl (by decide) hi (hts _ k_491) rfl rfl rfl (by decide +kernel) rfl rfl d_Alarm_init_11 (fun H locs hV => ?_)
  refine lv_aload_n hx hb d_Alarm_init_14 rfl (lv_at hl 0 rfl) ?_
  refine lv_iconst (v := (-1)) hx hb d_Alarm_init_15 (by decide) ?_
  refine os_putI (C := "RobotFaults$Alarm") (T := F_Alarm) (N := 8) (ci := 5) (K := 11) (j := 6) (i := i) (v := (-1)) (ty := .int) hx hb hts i_Alarm t_Alarm t_Alarm_ok n_Alarm hown hK hV rfl rfl (by decide) hi (hts _ k_493) rfl rfl rfl (by decide +kernel) rfl rfl d_Alarm_init_16 (fun H locs hV => ?_)
  refine lv_aload_n hx hb d_Alarm_init_19 rfl (lv_at hl 0 rfl) ?_
  refine lv_iload_n hx hb d_Alarm_init_20 rfl (lv_at hl 1 rfl) ?_
  refine os_putIF (C := "RobotFaults$Alarm") (T := F_Alarm) (N := 8) (ci := 5) (K := 11) (j := 0) (i := i) (v := x) (ty := .int) hx hb hts i_Alarm t_Alarm t_Alarm_ok n_Alarm hown hK hV rfl rfl (by decide) hi (hts _ k_481) rfl hmn rfl rfl rfl (by decide +kernel) rfl rfl d_Alarm_init_21 (fun H locs hV => ?_)
  refine lv_aload_n hx hb d_Alarm_init_24 rfl (lv_at hl 0 rfl) ?_
  refine lv_aload_n hx hb d_Alarm_init_25 rfl (lv_at hl 2 rfl) ?_
  refine os_getN (C := "RobotFaults$Fault") (T := F_Fault) (N := 11) (ci := 4) (K := 10) (j := 1) (i := f) (v := .ref (ad 9 r9)) hx hb hts i_Fault hown hK hV rfl rfl (by decide) hf (hts _ k_420) (congrArg (fun z => va_rf (Option.map (ad 9) z)) hfr) d_Alarm_init_26 ?_
  refine os_putRF (C := "RobotFaults$Alarm") (T := F_Alarm) (N := 8) (ci := 5) (K := 11) (j := 1) (i := i) (kt := 9) (v := (some r9)) (ty := .object "RobotFaults$Robot") hx hb hts i_Alarm t_Alarm t_Alarm_ok n_Alarm hown hK hV rfl rfl (by decide) hi (hts _ k_483) rfl hmn rfl rfl rfl (fun t h => by cases h; exact hr9) (by decide +kernel) ⟨rfl, rfl⟩ d_Alarm_init_29 (fun H locs hV => ?_)
  refine lv_aload_n hx hb d_Alarm_init_32 rfl (lv_at hl 0 rfl) ?_
  refine lv_aload_n hx hb d_Alarm_init_33 rfl (lv_at hl 2 rfl) ?_
  refine os_getN (C := "RobotFaults$Fault") (T := F_Fault) (N := 11) (ci := 4) (K := 10) (j := 2) (i := f) (v := .int (os_g σ 10 2 f)) hx hb hts i_Fault hown hK hV rfl rfl (by decide) hf (hts _ k_423) rfl d_Alarm_init_34 ?_
  refine os_putIF (C := "RobotFaults$Alarm") (T := F_Alarm) (N := 8) (ci := 5) (K := 11) (j := 2) (i := i) (v := os_g σ 10 2 f) (ty := .int) hx hb hts i_Alarm t_Alarm t_Alarm_ok n_Alarm hown hK hV rfl rfl (by decide) hi (hts _ k_485) rfl hmn rfl rfl rfl (by decide +kernel) rfl rfl d_Alarm_init_37 (fun H locs hV => ?_)
  refine lv_aload_n hx hb d_Alarm_init_40 rfl (lv_at hl 0 rfl) ?_
  refine lv_iload_n hx hb d_Alarm_init_41 rfl (lv_at hl 3 rfl) ?_
  refine os_putIF (C := "RobotFaults$Alarm") (T := F_Alarm) (N := 8) (ci := 5) (K := 11) (j := 3) (i := i) (v := y) (ty := .int) hx hb hts i_Alarm t_Alarm t_Alarm_ok n_Alarm hown hK hV rfl rfl (by decide) hi (hts _ k_487) rfl hmn rfl rfl rfl (by decide +kernel) rfl rfl d_Alarm_init_42 (fun H locs hV => ?_)
  refine lv_aload_n hx hb d_Alarm_init_45 rfl (lv_at hl 0 rfl) ?_
  refine lv_aload_n hx hb d_Alarm_init_46 rfl (lv_at hl 2 rfl) ?_
  refine os_putR (C := "RobotFaults$Alarm") (T := F_Alarm) (N := 8) (ci := 5) (K := 11) (j := 7) (i := i) (kt := 10) (v := (some f)) (ty := .object "RobotFaults$Fault") hx hb hts i_Alarm t_Alarm t_Alarm_ok n_Alarm hown hK hV rfl rfl (by decide) hi (hts _ k_495) rfl rfl rfl (fun t h => by cases h; exact hf) (by decide +kernel) ⟨rfl, rfl⟩ d_Alarm_init_47 (fun H locs hV => ?_)
  refine os_vret hx hb hr hlocks hV (Nat.le_of_ble_eq_true rfl) (Nat.le_of_ble_eq_true rfl) d_Alarm_init_50 ?_
  exact ⟨rfl, rfl, rfl⟩
set_option maxHeartbeats 4000000 in
set_option maxRecDepth 100000 in
theorem c_Robot_init (l : Launch) (hlt : l.stackTraces = false) (D : va_G) (cA : Nat → ClassId) (bs : Nat) (σ : os_S) (ad : Nat → Nat → Nat) (i : Nat) (x y : Int32) (hi : i < os_n σ 9) : os_Met l y_Robot_init prog_5_method_1_code 3 none { frames := 1, cells := 0, slots := 0, locals := 12 } D cA bs [.ref (ad 9 i), .int x, .int y] σ ad (fun r σ' ad' => os_sg (os_sg (os_sg (os_sg (os_sg (os_sg σ 9 2 i 0) 9 3 i (-1)) 9 4 i 0) 9 5 i 0) 9 0 i x) 9 1 i y = σ' ∧ ad = ad' ∧ r = .inl none) := by
  refine os_ofW (by decide) ?_
  intro p e s m below meth c hx hb hr hml hown hlocks hmn hout hE hV
  have hts := hE.hts (args := ([.ref (ad 9 i), .int x, .int y] : List Value).toArray)
  have hK := hE.2.1
  have hbs := hE.2.2.1
  have hown : s.vm.findClass "RobotFaults$Robot" = some m.cls := hown
  have hl := lv_entry ([.ref (ad 9 i), .int x, .int y]) (n := 3) (Nat.le_of_ble_eq_true rfl)
  rw [lg_entry_eq]
  generalize (lg_sl ([.ref (ad 9 i), .int x, .int y]) ++ List.replicate (3 - (lg_sl ([.ref (ad 9 i), .int x, .int y])).length) Slot.unset).toArray = ls at hl ⊢
  have hl : lv_has ls 3 [(0, .ref (ad 9 i)), (1, .int x), (2, .int y)] := hl
  refine lv_aload_n hx hb d_Robot_init_0 rfl (lv_at hl 0 rfl) ?_
  refine W.objInit hx hb hown (hts _ k_293) (hts _ k_24) (hts _ k_25) rfl (hl.1.trans hml.symm) rfl d_Robot_init_1 (Nat.le_of_ble_eq_true rfl) (Nat.le_of_ble_eq_true rfl) ?_
  refine W.eq (g2 := F0 m 4 ls []) rfl ?_
  refine lv_aload_n hx hb d_Robot_init_4 rfl (lv_at hl 0 rfl) ?_
  refine lv_iconst (v := 0) hx hb d_Robot_init_5 (by decide) ?_
  refine os_putI (C := "RobotFaults$Robot") (T := F_Robot) (N := 6) (ci := 3) (K := 9) (j := 2) (i := i) (v := 0) (ty := .int) hx hb hts i_Robot t_Robot t_Robot_ok n_Robot hown hK hV rfl rfl (by decide) hi (hts _ k_299) rfl rfl rfl (by decide +kernel) rfl rfl d_Robot_init_6 (fun H locs hV => ?_)
  refine lv_aload_n hx hb d_Robot_init_9 rfl (lv_at hl 0 rfl) ?_
  refine lv_iconst (v := (-1)) hx hb d_Robot_init_10 (by decide) ?_
  refine os_putI (C := "RobotFaults$Robot") (T := F_Robot) (N := 6) (ci := 3) (K := 9) (j := 3) (i := i) (v := (-1)) (ty := .int) hx hb hts i_Robot t_Robot t_Robot_ok n_Robot hown hK hV rfl rfl (by decide) hi (hts _ k_301) rfl rfl rfl (by decide +kernel) rfl rfl d_Robot_init_11 (fun H locs hV => ?_)
  refine lv_aload_n hx hb d_Robot_init_14 rfl (lv_at hl 0 rfl) ?_
  refine lv_iconst (v := 0) hx hb d_Robot_init_15 (by decide) ?_
  refine os_putI (C := "RobotFaults$Robot") (T := F_Robot) (N := 6) (ci := 3) (K := 9) (j := 4) (i := i) (v := 0) (ty := .boolean) hx hb hts i_Robot t_Robot t_Robot_ok n_Robot hown hK hV rfl rfl (by decide) hi (hts _ k_304) rfl rfl rfl (by decide +kernel) rfl rfl d_Robot_init_16 (fun H locs hV => ?_)
  refine lv_aload_n hx hb d_Robot_init_19 rfl (lv_at hl 0 rfl) ?_
  refine lv_iconst (v := 0) hx hb d_Robot_init_20 (by decide) ?_
  refine os_putI (C := "RobotFaults$Robot") (T := F_Robot) (N := 6) (ci := 3) (K := 9) (j := 5) (i := i) (v := 0) (ty := .int) hx hb hts i_Robot t_Robot t_Robot_ok n_Robot hown hK hV rfl rfl (by decide) hi (hts _ k_306) rfl rfl rfl (by decide +kernel) rfl rfl d_Robot_init_21 (fun H locs hV => ?_)
  refine lv_aload_n hx hb d_Robot_init_24 rfl (lv_at hl 0 rfl) ?_
  refine lv_iload_n hx hb d_Robot_init_25 rfl (lv_at hl 1 rfl) ?_
  refine os_putIF (C := "RobotFaults$Robot") (T := F_Robot) (N := 6) (ci := 3) (K := 9) (j := 0) (i := i) (v := x) (ty := .int) hx hb hts i_Robot t_Robot t_Robot_ok n_Robot hown hK hV rfl rfl (by decide) hi (hts _ k_294) rfl hmn rfl rfl rfl (by decide +kernel) rfl rfl d_Robot_init_26 (fun H locs hV => ?_)
  refine lv_aload_n hx hb d_Robot_init_29 rfl (lv_at hl 0 rfl) ?_
  refine lv_iload_n hx hb d_Robot_init_30 rfl (lv_at hl 2 rfl) ?_
  refine os_putI (C := "RobotFaults$Robot") (T := F_Robot) (N := 6) (ci := 3) (K := 9) (j := 1) (i := i) (v := y) (ty := .int) hx hb hts i_Robot t_Robot t_Robot_ok n_Robot hown hK hV rfl rfl (by decide) hi (hts _ k_296) rfl rfl rfl (by decide +kernel) rfl rfl d_Robot_init_31 (fun H locs hV => ?_)
  refine os_vret hx hb hr hlocks hV (Nat.le_of_ble_eq_true rfl) (Nat.le_of_ble_eq_true rfl) d_Robot_init_34 ?_
  exact ⟨rfl, rfl, rfl⟩
set_option maxHeartbeats 4000000 in
set_option maxRecDepth 100000 in
theorem c_Rule_init (l : Launch) (hlt : l.stackTraces = false) (D : va_G) (cA : Nat → ClassId) (bs : Nat) (σ : os_S) (ad : Nat → Nat → Nat) (i : Nat) (hi : i < os_n σ 8) : os_Met l y_Rule_init prog_6_method_1_code 1 none { frames := 1, cells := 0, slots := 0, locals := 12 } D cA bs [.ref (ad 8 i)] σ ad (fun r σ' ad' => os_sg (os_sg (os_sg σ 8 0 i 1) 8 1 i 0) 8 2 i 3 = σ' ∧ ad = ad' ∧ r = .inl none) := by
  refine os_ofW (by decide) ?_
  intro p e s m below meth c hx hb hr hml hown hlocks hmn hout hE hV
  have hts := hE.hts (args := ([.ref (ad 8 i)] : List Value).toArray)
  have hK := hE.2.1
  have hbs := hE.2.2.1
  have hown : s.vm.findClass "RobotFaults$Rule" = some m.cls := hown
  have hl := lv_entry ([.ref (ad 8 i)]) (n := 1) (Nat.le_of_ble_eq_true rfl)
  rw [lg_entry_eq]
  generalize (lg_sl ([.ref (ad 8 i)]) ++ List.replicate (1 - (lg_sl ([.ref (ad 8 i)])).length) Slot.unset).toArray = ls at hl ⊢
  have hl : lv_has ls 1 [(0, .ref (ad 8 i))] := hl
  refine lv_aload_n hx hb d_Rule_init_0 rfl (lv_at hl 0 rfl) ?_
  refine W.objInit hx hb hown (hts _ k_54) (hts _ k_24) (hts _ k_25) rfl (hl.1.trans hml.symm) rfl d_Rule_init_1 (Nat.le_of_ble_eq_true rfl) (Nat.le_of_ble_eq_true rfl) ?_
  refine W.eq (g2 := F0 m 4 ls []) rfl ?_
  refine lv_aload_n hx hb d_Rule_init_4 rfl (lv_at hl 0 rfl) ?_
  refine lv_iconst (v := 1) hx hb d_Rule_init_5 (by decide) ?_
  refine os_putI (C := "RobotFaults$Rule") (T := F_Rule) (N := 3) (ci := 2) (K := 8) (j := 0) (i := i) (v := 1) (ty := .int) hx hb hts i_Rule t_Rule t_Rule_ok n_Rule hown hK hV rfl rfl (by decide) hi (hts _ k_55) rfl rfl rfl (by decide +kernel) rfl rfl d_Rule_init_6 (fun H locs hV => ?_)
  refine lv_aload_n hx hb d_Rule_init_9 rfl (lv_at hl 0 rfl) ?_
  refine lv_iconst (v := 0) hx hb d_Rule_init_10 (by decide) ?_
  refine os_putI (C := "RobotFaults$Rule") (T := F_Rule) (N := 3) (ci := 2) (K := 8) (j := 1) (i := i) (v := 0) (ty := .boolean) hx hb hts i_Rule t_Rule t_Rule_ok n_Rule hown hK hV rfl rfl (by decide) hi (hts _ k_57) rfl rfl rfl (by decide +kernel) rfl rfl d_Rule_init_11 (fun H locs hV => ?_)
  refine lv_aload_n hx hb d_Rule_init_14 rfl (lv_at hl 0 rfl) ?_
  refine lv_iconst (v := 3) hx hb d_Rule_init_15 (by decide) ?_
  refine os_putI (C := "RobotFaults$Rule") (T := F_Rule) (N := 3) (ci := 2) (K := 8) (j := 2) (i := i) (v := 3) (ty := .int) hx hb hts i_Rule t_Rule t_Rule_ok n_Rule hown hK hV rfl rfl (by decide) hi (hts _ k_59) rfl rfl rfl (by decide +kernel) rfl rfl d_Rule_init_16 (fun H locs hV => ?_)
  refine os_vret hx hb hr hlocks hV (Nat.le_of_ble_eq_true rfl) (Nat.le_of_ble_eq_true rfl) d_Rule_init_19 ?_
  exact ⟨rfl, rfl, rfl⟩
set_option maxHeartbeats 4000000 in
set_option maxRecDepth 100000 in
theorem c_Rule_set (l : Launch) (hlt : l.stackTraces = false) (D : va_G) (cA : Nat → ClassId) (bs : Nat) (σ : os_S) (ad : Nat → Nat → Nat) (i : Nat) (x y : Int32) (b : Bool) (hi : i < os_n σ 8) : os_Met l y_Rule_set prog_6_method_2_code 4 none { frames := 0, cells := 0, slots := 0, locals := 0 } D cA bs [.ref (ad 8 i), .int x, .int (bz b), .int y] σ ad (fun r σ' ad' => os_sg (os_sg (os_sg σ 8 0 i x) 8 1 i (bz b)) 8 2 i y = σ' ∧ ad = ad' ∧ r = .inl none) := by
  refine os_ofW (by decide) ?_
  intro p e s m below meth c hx hb hr hml hown hlocks hmn hout hE hV
  have hts := hE.hts (args := ([.ref (ad 8 i), .int x, .int (bz b), .int y] : List Value).toArray)
  have hK := hE.2.1
  have hbs := hE.2.2.1
  have hown : s.vm.findClass "RobotFaults$Rule" = some m.cls := hown
  have hl := lv_entry ([.ref (ad 8 i), .int x, .int (bz b), .int y]) (n := 4) (Nat.le_of_ble_eq_true rfl)
  rw [lg_entry_eq]
  generalize (lg_sl ([.ref (ad 8 i), .int x, .int (bz b), .int y]) ++ List.replicate (4 - (lg_sl ([.ref (ad 8 i), .int x, .int (bz b), .int y])).length) Slot.unset).toArray = ls at hl ⊢
  have hl : lv_has ls 4 [(0, .ref (ad 8 i)), (1, .int x), (2, .int (bz b)), (3, .int y)] := hl
  refine lv_aload_n hx hb d_Rule_set_0 rfl (lv_at hl 0 rfl) ?_
  refine lv_iload_n hx hb d_Rule_set_1 rfl (lv_at hl 1 rfl) ?_
  refine os_putI (C := "RobotFaults$Rule") (T := F_Rule) (N := 3) (ci := 2) (K := 8) (j := 0) (i := i) (v := x) (ty := .int) hx hb hts i_Rule t_Rule t_Rule_ok n_Rule hown hK hV rfl rfl (by decide) hi (hts _ k_55) rfl rfl rfl (by decide +kernel) rfl rfl d_Rule_set_2 (fun H locs hV => ?_)
  refine lv_aload_n hx hb d_Rule_set_5 rfl (lv_at hl 0 rfl) ?_
  refine lv_iload_n hx hb d_Rule_set_6 rfl (lv_at hl 2 rfl) ?_
  refine os_putI (C := "RobotFaults$Rule") (T := F_Rule) (N := 3) (ci := 2) (K := 8) (j := 1) (i := i) (v := bz b) (ty := .boolean) hx hb hts i_Rule t_Rule t_Rule_ok n_Rule hown hK hV rfl rfl (by decide) hi (hts _ k_57) rfl rfl rfl (by decide +kernel) (bz_nar _) (bz_fit _) d_Rule_set_7 (fun H locs hV => ?_)
  refine lv_aload_n hx hb d_Rule_set_10 rfl (lv_at hl 0 rfl) ?_
  refine lv_iload_n hx hb d_Rule_set_11 rfl (lv_at hl 3 rfl) ?_
  refine os_putI (C := "RobotFaults$Rule") (T := F_Rule) (N := 3) (ci := 2) (K := 8) (j := 2) (i := i) (v := y) (ty := .int) hx hb hts i_Rule t_Rule t_Rule_ok n_Rule hown hK hV rfl rfl (by decide) hi (hts _ k_59) rfl rfl rfl (by decide +kernel) rfl rfl d_Rule_set_12 (fun H locs hV => ?_)
  refine os_vret hx hb hr hlocks hV (Nat.le_of_ble_eq_true rfl) (Nat.le_of_ble_eq_true rfl) d_Rule_set_15 ?_
  exact ⟨rfl, rfl, rfl⟩
set_option maxHeartbeats 4000000 in
set_option maxRecDepth 100000 in
theorem c_Planted_init (l : Launch) (hlt : l.stackTraces = false) (D : va_G) (cA : Nat → ClassId) (bs : Nat) (σ : os_S) (ad : Nat → Nat → Nat) (i r9 : Nat) (x y : Int32) (hi : i < os_n σ 12) (hr9 : r9 < os_n σ 9) : os_Met l y_Planted_init prog_4_method_1_code 4 none { frames := 1, cells := 0, slots := 0, locals := 12 } D cA bs [.ref (ad 12 i), .ref (ad 9 r9), .int x, .int y] σ ad (fun r σ' ad' => os_sg (os_sg (os_sr σ 12 0 i (some r9)) 12 1 i x) 12 2 i y = σ' ∧ ad = ad' ∧ r = .inl none) := by
  refine os_ofW (by decide) ?_
  intro p e s m below meth c hx hb hr hml hown hlocks hmn hout hE hV
  have hts := hE.hts (args := ([.ref (ad 12 i), .ref (ad 9 r9), .int x, .int y] : List Value).toArray)
  have hK := hE.2.1
  have hbs := hE.2.2.1
  have hown : s.vm.findClass "RobotFaults$Planted" = some m.cls := hown
  have hl := lv_entry ([.ref (ad 12 i), .ref (ad 9 r9), .int x, .int y]) (n := 4) (Nat.le_of_ble_eq_true rfl)
  rw [lg_entry_eq]
  generalize (lg_sl ([.ref (ad 12 i), .ref (ad 9 r9), .int x, .int y]) ++ List.replicate (4 - (lg_sl ([.ref (ad 12 i), .ref (ad 9 r9), .int x, .int y])).length) Slot.unset).toArray = ls at hl ⊢
  have hl : lv_has ls 4 [(0, .ref (ad 12 i)), (1, .ref (ad 9 r9)), (2, .int x), (3, .int y)] := hl
  refine lv_aload_n hx hb d_Planted_init_0 rfl (lv_at hl 0 rfl) ?_
  refine W.objInit hx hb hown (hts _ k_625) (hts _ k_24) (hts _ k_25) rfl (hl.1.trans hml.symm) rfl d_Planted_init_1 (Nat.le_of_ble_eq_true rfl) (Nat.le_of_ble_eq_true rfl) ?_
  refine W.eq (g2 := F0 m 4 ls []) rfl ?_
  refine lv_aload_n hx hb d_Planted_init_4 rfl (lv_at hl 0 rfl) ?_
  refine lv_aload_n hx hb d_Planted_init_5 rfl (lv_at hl 1 rfl) ?_
  refine os_putRF (C := "RobotFaults$Planted") (T := F_Planted) (N := 3) (ci := 6) (K := 12) (j := 0) (i := i) (kt := 9) (v := (some r9)) (ty := .object "RobotFaults$Robot") hx hb hts i_Planted t_Planted t_Planted_ok n_Planted hown hK hV rfl rfl (by decide) hi (hts _ k_626) rfl hmn rfl rfl rfl (fun t h => by cases h; exact hr9) (by decide +kernel) ⟨rfl, rfl⟩ d_Planted_init_6 (fun H locs hV => ?_)
  refine lv_aload_n hx hb d_Planted_init_9 rfl (lv_at hl 0 rfl) ?_
  refine lv_iload_n hx hb d_Planted_init_10 rfl (lv_at hl 2 rfl) ?_
  refine os_putIF (C := "RobotFaults$Planted") (T := F_Planted) (N := 3) (ci := 6) (K := 12) (j := 1) (i := i) (v := x) (ty := .int) hx hb hts i_Planted t_Planted t_Planted_ok n_Planted hown hK hV rfl rfl (by decide) hi (hts _ k_628) rfl hmn rfl rfl rfl (by decide +kernel) rfl rfl d_Planted_init_11 (fun H locs hV => ?_)
  refine lv_aload_n hx hb d_Planted_init_14 rfl (lv_at hl 0 rfl) ?_
  refine lv_iload_n hx hb d_Planted_init_15 rfl (lv_at hl 3 rfl) ?_
  refine os_putIF (C := "RobotFaults$Planted") (T := F_Planted) (N := 3) (ci := 6) (K := 12) (j := 2) (i := i) (v := y) (ty := .int) hx hb hts i_Planted t_Planted t_Planted_ok n_Planted hown hK hV rfl rfl (by decide) hi (hts _ k_630) rfl hmn rfl rfl rfl (by decide +kernel) rfl rfl d_Planted_init_16 (fun H locs hV => ?_)
  refine os_vret hx hb hr hlocks hV (Nat.le_of_ble_eq_true rfl) (Nat.le_of_ble_eq_true rfl) d_Planted_init_19 ?_
  exact ⟨rfl, rfl, rfl⟩
/-- what a fault of a kind does to a robot -/
def rSuf (σ : os_S) (i : Nat) (k t : Int32) (b : Bool) : os_S :=
  let σ1 := if k = 1 then os_sg (os_sg σ 9 2 i 2) 9 5 i t else if os_g σ 9 2 i = 0 then os_sg σ 9 2 i 1 else σ
  let σ2 := if k = 2 then os_sg σ1 9 3 i (-1) else σ1
  if b = true then os_sg σ2 9 4 i 1 else σ2
set_option maxHeartbeats 4000000 in
set_option maxRecDepth 100000 in
theorem c_Robot_suffer (l : Launch) (hlt : l.stackTraces = false) (D : va_G) (cA : Nat → ClassId) (bs : Nat) (σ : os_S) (ad : Nat → Nat → Nat) (i : Nat) (k t : Int32) (b : Bool) (hi : i < os_n σ 9) : os_Met l y_Robot_suffer prog_5_method_2_code 4 none { frames := 0, cells := 0, slots := 0, locals := 0 } D cA bs [.ref (ad 9 i), .int k, .int t, .int (bz b)] σ ad (fun r σ' ad' => rSuf σ i k t b = σ' ∧ ad = ad' ∧ r = .inl none) := by
  refine os_ofW (by decide) ?_
  intro p e s m below meth c hx hb hr hml hown hlocks hmn hout hE hV
  have hts := hE.hts (args := ([.ref (ad 9 i), .int k, .int t, .int (bz b)] : List Value).toArray)
  have hK := hE.2.1
  have hbs := hE.2.2.1
  have hown : s.vm.findClass "RobotFaults$Robot" = some m.cls := hown
  have hl := lv_entry ([.ref (ad 9 i), .int k, .int t, .int (bz b)]) (n := 4) (Nat.le_of_ble_eq_true rfl)
  rw [lg_entry_eq]
  generalize (lg_sl ([.ref (ad 9 i), .int k, .int t, .int (bz b)]) ++ List.replicate (4 - (lg_sl ([.ref (ad 9 i), .int k, .int t, .int (bz b)])).length) Slot.unset).toArray = ls at hl ⊢
  have hl : lv_has ls 4 [(0, .ref (ad 9 i)), (1, .int k), (2, .int t), (3, .int (bz b))] := hl
  refine lv_iload_n hx hb d_Robot_suffer_0 rfl (lv_at hl 1 rfl) ?_
  refine lv_iconst (v := 1) hx hb d_Robot_suffer_1 (by decide) ?_
  refine lv_icmp_ne (tgt := 18) hx hb d_Robot_suffer_2 (by decide) (fun c_1 => ?_) (fun c_1 => ?_)
  · skip
    refine lv_aload_n hx hb d_Robot_suffer_18 rfl (lv_at hl 0 rfl) ?_
    refine os_get (C := "RobotFaults$Robot") (T := F_Robot) (N := 6) (ci := 3) (K := 9) (j := 2) (i := i) (v := .int (os_g σ 9 2 i)) hx hb hts i_Robot hown hK hV rfl rfl (by decide) hi (hts _ k_299) rfl d_Robot_suffer_19 ?_
    refine lv_if_ne (tgt := 30) hx hb d_Robot_suffer_22 (by decide) (fun c_2 => ?_) (fun c_2 => ?_)
    · skip
      refine lv_iload_n hx hb d_Robot_suffer_30 rfl (lv_at hl 1 rfl) ?_
      refine lv_iconst (v := 2) hx hb d_Robot_suffer_31 (by decide) ?_
      refine lv_icmp_ne (tgt := 40) hx hb d_Robot_suffer_32 (by decide) (fun c_3 => ?_) (fun c_3 => ?_)
      · skip
        refine lv_iload_n hx hb d_Robot_suffer_40 rfl (lv_at hl 3 rfl) ?_
        refine lv_if_eq (tgt := 49) hx hb d_Robot_suffer_41 (by decide) (fun c_4 => ?_) (fun c_4 => ?_)
        · skip
          refine os_vret hx hb hr hlocks hV (Nat.le_of_ble_eq_true rfl) (Nat.le_of_ble_eq_true rfl) d_Robot_suffer_49 ?_
          exact ⟨by first | (unfold rSuf; simp [c_1, c_2, c_3, bz_0 c_4]; done) | (exact absurd (c_1.symm.trans c_3) (by decide)), rfl, rfl⟩
        · skip
          refine lv_aload_n hx hb d_Robot_suffer_44 rfl (lv_at hl 0 rfl) ?_
          refine lv_iconst (v := 1) hx hb d_Robot_suffer_45 (by decide) ?_
          refine os_putI (C := "RobotFaults$Robot") (T := F_Robot) (N := 6) (ci := 3) (K := 9) (j := 4) (i := i) (v := 1) (ty := .boolean) hx hb hts i_Robot t_Robot t_Robot_ok n_Robot hown hK hV rfl rfl (by decide) hi (hts _ k_304) rfl rfl rfl (by decide +kernel) rfl rfl d_Robot_suffer_46 (fun H locs hV => ?_)
          refine os_vret hx hb hr hlocks hV (Nat.le_of_ble_eq_true rfl) (Nat.le_of_ble_eq_true rfl) d_Robot_suffer_49 ?_
          exact ⟨by first | (unfold rSuf; simp [c_1, c_2, c_3, bz_1 c_4]; done) | (exact absurd (c_1.symm.trans c_3) (by decide)), rfl, rfl⟩
      · skip
        refine lv_aload_n hx hb d_Robot_suffer_35 rfl (lv_at hl 0 rfl) ?_
        refine lv_iconst (v := (-1)) hx hb d_Robot_suffer_36 (by decide) ?_
        refine os_putI (C := "RobotFaults$Robot") (T := F_Robot) (N := 6) (ci := 3) (K := 9) (j := 3) (i := i) (v := (-1)) (ty := .int) hx hb hts i_Robot t_Robot t_Robot_ok n_Robot hown hK hV rfl rfl (by decide) hi (hts _ k_301) rfl rfl rfl (by decide +kernel) rfl rfl d_Robot_suffer_37 (fun H locs hV => ?_)
        refine lv_iload_n hx hb d_Robot_suffer_40 rfl (lv_at hl 3 rfl) ?_
        refine lv_if_eq (tgt := 49) hx hb d_Robot_suffer_41 (by decide) (fun c_5 => ?_) (fun c_5 => ?_)
        · skip
          refine os_vret hx hb hr hlocks hV (Nat.le_of_ble_eq_true rfl) (Nat.le_of_ble_eq_true rfl) d_Robot_suffer_49 ?_
          exact ⟨by first | (unfold rSuf; simp [c_1, c_2, c_3, bz_0 c_5]; done) | (exact absurd (c_1.symm.trans c_3) (by decide)), rfl, rfl⟩
        · skip
          refine lv_aload_n hx hb d_Robot_suffer_44 rfl (lv_at hl 0 rfl) ?_
          refine lv_iconst (v := 1) hx hb d_Robot_suffer_45 (by decide) ?_
          refine os_putI (C := "RobotFaults$Robot") (T := F_Robot) (N := 6) (ci := 3) (K := 9) (j := 4) (i := i) (v := 1) (ty := .boolean) hx hb hts i_Robot t_Robot t_Robot_ok n_Robot hown hK hV rfl rfl (by decide) hi (hts _ k_304) rfl rfl rfl (by decide +kernel) rfl rfl d_Robot_suffer_46 (fun H locs hV => ?_)
          refine os_vret hx hb hr hlocks hV (Nat.le_of_ble_eq_true rfl) (Nat.le_of_ble_eq_true rfl) d_Robot_suffer_49 ?_
          exact ⟨by first | (unfold rSuf; simp [c_1, c_2, c_3, bz_1 c_5]; done) | (exact absurd (c_1.symm.trans c_3) (by decide)), rfl, rfl⟩
    · skip
      refine lv_aload_n hx hb d_Robot_suffer_25 rfl (lv_at hl 0 rfl) ?_
      refine lv_iconst (v := 1) hx hb d_Robot_suffer_26 (by decide) ?_
      refine os_putI (C := "RobotFaults$Robot") (T := F_Robot) (N := 6) (ci := 3) (K := 9) (j := 2) (i := i) (v := 1) (ty := .int) hx hb hts i_Robot t_Robot t_Robot_ok n_Robot hown hK hV rfl rfl (by decide) hi (hts _ k_299) rfl rfl rfl (by decide +kernel) rfl rfl d_Robot_suffer_27 (fun H locs hV => ?_)
      refine lv_iload_n hx hb d_Robot_suffer_30 rfl (lv_at hl 1 rfl) ?_
      refine lv_iconst (v := 2) hx hb d_Robot_suffer_31 (by decide) ?_
      refine lv_icmp_ne (tgt := 40) hx hb d_Robot_suffer_32 (by decide) (fun c_6 => ?_) (fun c_6 => ?_)
      · skip
        refine lv_iload_n hx hb d_Robot_suffer_40 rfl (lv_at hl 3 rfl) ?_
        refine lv_if_eq (tgt := 49) hx hb d_Robot_suffer_41 (by decide) (fun c_7 => ?_) (fun c_7 => ?_)
        · skip
          refine os_vret hx hb hr hlocks hV (Nat.le_of_ble_eq_true rfl) (Nat.le_of_ble_eq_true rfl) d_Robot_suffer_49 ?_
          exact ⟨by first | (unfold rSuf; simp [c_1, c_2, c_6, bz_0 c_7]; done) | (exact absurd (c_1.symm.trans c_6) (by decide)), rfl, rfl⟩
        · skip
          refine lv_aload_n hx hb d_Robot_suffer_44 rfl (lv_at hl 0 rfl) ?_
          refine lv_iconst (v := 1) hx hb d_Robot_suffer_45 (by decide) ?_
          refine os_putI (C := "RobotFaults$Robot") (T := F_Robot) (N := 6) (ci := 3) (K := 9) (j := 4) (i := i) (v := 1) (ty := .boolean) hx hb hts i_Robot t_Robot t_Robot_ok n_Robot hown hK hV rfl rfl (by decide) hi (hts _ k_304) rfl rfl rfl (by decide +kernel) rfl rfl d_Robot_suffer_46 (fun H locs hV => ?_)
          refine os_vret hx hb hr hlocks hV (Nat.le_of_ble_eq_true rfl) (Nat.le_of_ble_eq_true rfl) d_Robot_suffer_49 ?_
          exact ⟨by first | (unfold rSuf; simp [c_1, c_2, c_6, bz_1 c_7]; done) | (exact absurd (c_1.symm.trans c_6) (by decide)), rfl, rfl⟩
      · skip
        refine lv_aload_n hx hb d_Robot_suffer_35 rfl (lv_at hl 0 rfl) ?_
        refine lv_iconst (v := (-1)) hx hb d_Robot_suffer_36 (by decide) ?_
        refine os_putI (C := "RobotFaults$Robot") (T := F_Robot) (N := 6) (ci := 3) (K := 9) (j := 3) (i := i) (v := (-1)) (ty := .int) hx hb hts i_Robot t_Robot t_Robot_ok n_Robot hown hK hV rfl rfl (by decide) hi (hts _ k_301) rfl rfl rfl (by decide +kernel) rfl rfl d_Robot_suffer_37 (fun H locs hV => ?_)
        refine lv_iload_n hx hb d_Robot_suffer_40 rfl (lv_at hl 3 rfl) ?_
        refine lv_if_eq (tgt := 49) hx hb d_Robot_suffer_41 (by decide) (fun c_8 => ?_) (fun c_8 => ?_)
        · skip
          refine os_vret hx hb hr hlocks hV (Nat.le_of_ble_eq_true rfl) (Nat.le_of_ble_eq_true rfl) d_Robot_suffer_49 ?_
          exact ⟨by first | (unfold rSuf; simp [c_1, c_2, c_6, bz_0 c_8]; done) | (exact absurd (c_1.symm.trans c_6) (by decide)), rfl, rfl⟩
        · skip
          refine lv_aload_n hx hb d_Robot_suffer_44 rfl (lv_at hl 0 rfl) ?_
          refine lv_iconst (v := 1) hx hb d_Robot_suffer_45 (by decide) ?_
          refine os_putI (C := "RobotFaults$Robot") (T := F_Robot) (N := 6) (ci := 3) (K := 9) (j := 4) (i := i) (v := 1) (ty := .boolean) hx hb hts i_Robot t_Robot t_Robot_ok n_Robot hown hK hV rfl rfl (by decide) hi (hts _ k_304) rfl rfl rfl (by decide +kernel) rfl rfl d_Robot_suffer_46 (fun H locs hV => ?_)
          refine os_vret hx hb hr hlocks hV (Nat.le_of_ble_eq_true rfl) (Nat.le_of_ble_eq_true rfl) d_Robot_suffer_49 ?_
          exact ⟨by first | (unfold rSuf; simp [c_1, c_2, c_6, bz_1 c_8]; done) | (exact absurd (c_1.symm.trans c_6) (by decide)), rfl, rfl⟩
  · skip
    refine lv_aload_n hx hb d_Robot_suffer_5 rfl (lv_at hl 0 rfl) ?_
    refine lv_iconst (v := 2) hx hb d_Robot_suffer_6 (by decide) ?_
    refine os_putI (C := "RobotFaults$Robot") (T := F_Robot) (N := 6) (ci := 3) (K := 9) (j := 2) (i := i) (v := 2) (ty := .int) hx hb hts i_Robot t_Robot t_Robot_ok n_Robot hown hK hV rfl rfl (by decide) hi (hts _ k_299) rfl rfl rfl (by decide +kernel) rfl rfl d_Robot_suffer_7 (fun H locs hV => ?_)
    refine lv_aload_n hx hb d_Robot_suffer_10 rfl (lv_at hl 0 rfl) ?_
    refine lv_iload_n hx hb d_Robot_suffer_11 rfl (lv_at hl 2 rfl) ?_
    refine os_putI (C := "RobotFaults$Robot") (T := F_Robot) (N := 6) (ci := 3) (K := 9) (j := 5) (i := i) (v := t) (ty := .int) hx hb hts i_Robot t_Robot t_Robot_ok n_Robot hown hK hV rfl rfl (by decide) hi (hts _ k_306) rfl rfl rfl (by decide +kernel) rfl rfl d_Robot_suffer_12 (fun H locs hV => ?_)
    refine lv_goto (tgt := 30) hx hb d_Robot_suffer_15 (by decide) ?_
    refine lv_iload_n hx hb d_Robot_suffer_30 rfl (lv_at hl 1 rfl) ?_
    refine lv_iconst (v := 2) hx hb d_Robot_suffer_31 (by decide) ?_
    refine lv_icmp_ne (tgt := 40) hx hb d_Robot_suffer_32 (by decide) (fun c_9 => ?_) (fun c_9 => ?_)
    · skip
      refine lv_iload_n hx hb d_Robot_suffer_40 rfl (lv_at hl 3 rfl) ?_
      refine lv_if_eq (tgt := 49) hx hb d_Robot_suffer_41 (by decide) (fun c_10 => ?_) (fun c_10 => ?_)
      · skip
        refine os_vret hx hb hr hlocks hV (Nat.le_of_ble_eq_true rfl) (Nat.le_of_ble_eq_true rfl) d_Robot_suffer_49 ?_
        exact ⟨by first | (unfold rSuf; simp [c_1, c_9, bz_0 c_10]; done) | (exact absurd (c_1.symm.trans c_9) (by decide)), rfl, rfl⟩
      · skip
        refine lv_aload_n hx hb d_Robot_suffer_44 rfl (lv_at hl 0 rfl) ?_
        refine lv_iconst (v := 1) hx hb d_Robot_suffer_45 (by decide) ?_
        refine os_putI (C := "RobotFaults$Robot") (T := F_Robot) (N := 6) (ci := 3) (K := 9) (j := 4) (i := i) (v := 1) (ty := .boolean) hx hb hts i_Robot t_Robot t_Robot_ok n_Robot hown hK hV rfl rfl (by decide) hi (hts _ k_304) rfl rfl rfl (by decide +kernel) rfl rfl d_Robot_suffer_46 (fun H locs hV => ?_)
        refine os_vret hx hb hr hlocks hV (Nat.le_of_ble_eq_true rfl) (Nat.le_of_ble_eq_true rfl) d_Robot_suffer_49 ?_
        exact ⟨by first | (unfold rSuf; simp [c_1, c_9, bz_1 c_10]; done) | (exact absurd (c_1.symm.trans c_9) (by decide)), rfl, rfl⟩
    · skip
      refine lv_aload_n hx hb d_Robot_suffer_35 rfl (lv_at hl 0 rfl) ?_
      refine lv_iconst (v := (-1)) hx hb d_Robot_suffer_36 (by decide) ?_
      refine os_putI (C := "RobotFaults$Robot") (T := F_Robot) (N := 6) (ci := 3) (K := 9) (j := 3) (i := i) (v := (-1)) (ty := .int) hx hb hts i_Robot t_Robot t_Robot_ok n_Robot hown hK hV rfl rfl (by decide) hi (hts _ k_301) rfl rfl rfl (by decide +kernel) rfl rfl d_Robot_suffer_37 (fun H locs hV => ?_)
      refine lv_iload_n hx hb d_Robot_suffer_40 rfl (lv_at hl 3 rfl) ?_
      refine lv_if_eq (tgt := 49) hx hb d_Robot_suffer_41 (by decide) (fun c_11 => ?_) (fun c_11 => ?_)
      · skip
        refine os_vret hx hb hr hlocks hV (Nat.le_of_ble_eq_true rfl) (Nat.le_of_ble_eq_true rfl) d_Robot_suffer_49 ?_
        exact ⟨by first | (unfold rSuf; simp [c_1, c_9, bz_0 c_11]; done) | (exact absurd (c_1.symm.trans c_9) (by decide)), rfl, rfl⟩
      · skip
        refine lv_aload_n hx hb d_Robot_suffer_44 rfl (lv_at hl 0 rfl) ?_
        refine lv_iconst (v := 1) hx hb d_Robot_suffer_45 (by decide) ?_
        refine os_putI (C := "RobotFaults$Robot") (T := F_Robot) (N := 6) (ci := 3) (K := 9) (j := 4) (i := i) (v := 1) (ty := .boolean) hx hb hts i_Robot t_Robot t_Robot_ok n_Robot hown hK hV rfl rfl (by decide) hi (hts _ k_304) rfl rfl rfl (by decide +kernel) rfl rfl d_Robot_suffer_46 (fun H locs hV => ?_)
        refine os_vret hx hb hr hlocks hV (Nat.le_of_ble_eq_true rfl) (Nat.le_of_ble_eq_true rfl) d_Robot_suffer_49 ?_
        exact ⟨by first | (unfold rSuf; simp [c_1, c_9, bz_1 c_11]; done) | (exact absurd (c_1.symm.trans c_9) (by decide)), rfl, rfl⟩
set_option maxHeartbeats 4000000 in
set_option maxRecDepth 100000 in
theorem c_Integer_bitCount (l : Launch) (hlt : l.stackTraces = false) (D : va_G) (cA : Nat → ClassId) (bs : Nat) (σ : os_S) (ad : Nat → Nat → Nat) (x : Int32) : os_Met l y_Integer_bitCount prog_13_method_49_code 1 (some .int) { frames := 0, cells := 0, slots := 0, locals := 0 } D cA bs [.int x] σ ad (fun r σ' ad' => σ = σ' ∧ ad = ad' ∧ r = .inl (some (.int ((((((((x - (((x.toUInt32 >>> ((1 : Int32).toUInt32 &&& Int32.toUInt32 31)).toInt32) &&& 1431655765)) &&& 858993459) + ((((x - (((x.toUInt32 >>> ((1 : Int32).toUInt32 &&& Int32.toUInt32 31)).toInt32) &&& 1431655765)).toUInt32 >>> ((2 : Int32).toUInt32 &&& Int32.toUInt32 31)).toInt32) &&& 858993459)) + (((((x - (((x.toUInt32 >>> ((1 : Int32).toUInt32 &&& Int32.toUInt32 31)).toInt32) &&& 1431655765)) &&& 858993459) + ((((x - (((x.toUInt32 >>> ((1 : Int32).toUInt32 &&& Int32.toUInt32 31)).toInt32) &&& 1431655765)).toUInt32 >>> ((2 : Int32).toUInt32 &&& Int32.toUInt32 31)).toInt32) &&& 858993459)).toUInt32 >>> ((4 : Int32).toUInt32 &&& Int32.toUInt32 31)).toInt32)) &&& 252645135) + (((((((x - (((x.toUInt32 >>> ((1 : Int32).toUInt32 &&& Int32.toUInt32 31)).toInt32) &&& 1431655765)) &&& 858993459) + ((((x - (((x.toUInt32 >>> ((1 : Int32).toUInt32 &&& Int32.toUInt32 31)).toInt32) &&& 1431655765)).toUInt32 >>> ((2 : Int32).toUInt32 &&& Int32.toUInt32 31)).toInt32) &&& 858993459)) + (((((x - (((x.toUInt32 >>> ((1 : Int32).toUInt32 &&& Int32.toUInt32 31)).toInt32) &&& 1431655765)) &&& 858993459) + ((((x - (((x.toUInt32 >>> ((1 : Int32).toUInt32 &&& Int32.toUInt32 31)).toInt32) &&& 1431655765)).toUInt32 >>> ((2 : Int32).toUInt32 &&& Int32.toUInt32 31)).toInt32) &&& 858993459)).toUInt32 >>> ((4 : Int32).toUInt32 &&& Int32.toUInt32 31)).toInt32)) &&& 252645135).toUInt32 >>> ((8 : Int32).toUInt32 &&& Int32.toUInt32 31)).toInt32)) + ((((((((x - (((x.toUInt32 >>> ((1 : Int32).toUInt32 &&& Int32.toUInt32 31)).toInt32) &&& 1431655765)) &&& 858993459) + ((((x - (((x.toUInt32 >>> ((1 : Int32).toUInt32 &&& Int32.toUInt32 31)).toInt32) &&& 1431655765)).toUInt32 >>> ((2 : Int32).toUInt32 &&& Int32.toUInt32 31)).toInt32) &&& 858993459)) + (((((x - (((x.toUInt32 >>> ((1 : Int32).toUInt32 &&& Int32.toUInt32 31)).toInt32) &&& 1431655765)) &&& 858993459) + ((((x - (((x.toUInt32 >>> ((1 : Int32).toUInt32 &&& Int32.toUInt32 31)).toInt32) &&& 1431655765)).toUInt32 >>> ((2 : Int32).toUInt32 &&& Int32.toUInt32 31)).toInt32) &&& 858993459)).toUInt32 >>> ((4 : Int32).toUInt32 &&& Int32.toUInt32 31)).toInt32)) &&& 252645135) + (((((((x - (((x.toUInt32 >>> ((1 : Int32).toUInt32 &&& Int32.toUInt32 31)).toInt32) &&& 1431655765)) &&& 858993459) + ((((x - (((x.toUInt32 >>> ((1 : Int32).toUInt32 &&& Int32.toUInt32 31)).toInt32) &&& 1431655765)).toUInt32 >>> ((2 : Int32).toUInt32 &&& Int32.toUInt32 31)).toInt32) &&& 858993459)) + (((((x - (((x.toUInt32 >>> ((1 : Int32).toUInt32 &&& Int32.toUInt32 31)).toInt32) &&& 1431655765)) &&& 858993459) + ((((x - (((x.toUInt32 >>> ((1 : Int32).toUInt32 &&& Int32.toUInt32 31)).toInt32) &&& 1431655765)).toUInt32 >>> ((2 : Int32).toUInt32 &&& Int32.toUInt32 31)).toInt32) &&& 858993459)).toUInt32 >>> ((4 : Int32).toUInt32 &&& Int32.toUInt32 31)).toInt32)) &&& 252645135).toUInt32 >>> ((8 : Int32).toUInt32 &&& Int32.toUInt32 31)).toInt32)).toUInt32 >>> ((16 : Int32).toUInt32 &&& Int32.toUInt32 31)).toInt32)) &&& 63)))) := by
  refine os_ofW (by decide) ?_
  intro p e s m below meth c hx hb hr hml hown hlocks hmn hout hE hV
  have hts := hE.hts (args := ([.int x] : List Value).toArray)
  have hK := hE.2.1
  have hbs := hE.2.2.1
  have hown : s.vm.findClass "java/lang/Integer" = some m.cls := hown
  have hl := lv_entry ([.int x]) (n := 1) (Nat.le_of_ble_eq_true rfl)
  rw [lg_entry_eq]
  generalize (lg_sl ([.int x]) ++ List.replicate (1 - (lg_sl ([.int x])).length) Slot.unset).toArray = ls at hl ⊢
  have hl : lv_has ls 1 [(0, .int x)] := hl
  refine lv_iload_n hx hb d_Integer_bitCount_0 rfl (lv_at hl 0 rfl) ?_
  refine lv_iload_n hx hb d_Integer_bitCount_1 rfl (lv_at hl 0 rfl) ?_
  refine lv_iconst (v := 1) hx hb d_Integer_bitCount_2 (by decide) ?_
  refine lv_iushr (v := (x.toUInt32 >>> ((1 : Int32).toUInt32 &&& Int32.toUInt32 31)).toInt32) hx hb d_Integer_bitCount_3 rfl ?_
  refine lv_ldcw (v := 1431655765) hx hb hown (hts _ k_543) d_Integer_bitCount_4 ?_
  refine lv_iand hx hb d_Integer_bitCount_7 ?_
  refine lv_isub hx hb d_Integer_bitCount_8 ?_
  refine lv_istore_n (lv' := [(0, .int (x - (((x.toUInt32 >>> ((1 : Int32).toUInt32 &&& Int32.toUInt32 31)).toInt32) &&& 1431655765)))]) hx hb d_Integer_bitCount_9 rfl hl (by decide) rfl (fun ls hl => ?_)
  refine lv_iload_n hx hb d_Integer_bitCount_10 rfl (lv_at hl 0 rfl) ?_
  refine lv_ldcw (v := 858993459) hx hb hown (hts _ k_544) d_Integer_bitCount_11 ?_
  refine lv_iand hx hb d_Integer_bitCount_14 ?_
  refine lv_iload_n hx hb d_Integer_bitCount_15 rfl (lv_at hl 0 rfl) ?_
  refine lv_iconst (v := 2) hx hb d_Integer_bitCount_16 (by decide) ?_
  refine lv_iushr (v := ((x - (((x.toUInt32 >>> ((1 : Int32).toUInt32 &&& Int32.toUInt32 31)).toInt32) &&& 1431655765)).toUInt32 >>> ((2 : Int32).toUInt32 &&& Int32.toUInt32 31)).toInt32) hx hb d_Integer_bitCount_17 rfl ?_
  refine lv_ldcw (v := 858993459) hx hb hown (hts _ k_544) d_Integer_bitCount_18 ?_
  refine lv_iand hx hb d_Integer_bitCount_21 ?_
  refine lv_iadd hx hb d_Integer_bitCount_22 ?_
  refine lv_istore_n (lv' := [(0, .int (((x - (((x.toUInt32 >>> ((1 : Int32).toUInt32 &&& Int32.toUInt32 31)).toInt32) &&& 1431655765)) &&& 858993459) + ((((x - (((x.toUInt32 >>> ((1 : Int32).toUInt32 &&& Int32.toUInt32 31)).toInt32) &&& 1431655765)).toUInt32 >>> ((2 : Int32).toUInt32 &&& Int32.toUInt32 31)).toInt32) &&& 858993459)))]) hx hb d_Integer_bitCount_23 rfl hl (by decide) rfl (fun ls hl => ?_)
  refine lv_iload_n hx hb d_Integer_bitCount_24 rfl (lv_at hl 0 rfl) ?_
  refine lv_iload_n hx hb d_Integer_bitCount_25 rfl (lv_at hl 0 rfl) ?_
  refine lv_iconst (v := 4) hx hb d_Integer_bitCount_26 (by decide) ?_
  refine lv_iushr (v := ((((x - (((x.toUInt32 >>> ((1 : Int32).toUInt32 &&& Int32.toUInt32 31)).toInt32) &&& 1431655765)) &&& 858993459) + ((((x - (((x.toUInt32 >>> ((1 : Int32).toUInt32 &&& Int32.toUInt32 31)).toInt32) &&& 1431655765)).toUInt32 >>> ((2 : Int32).toUInt32 &&& Int32.toUInt32 31)).toInt32) &&& 858993459)).toUInt32 >>> ((4 : Int32).toUInt32 &&& Int32.toUInt32 31)).toInt32) hx hb d_Integer_bitCount_27 rfl ?_
  refine lv_iadd hx hb d_Integer_bitCount_28 ?_
  refine lv_ldcw (v := 252645135) hx hb hown (hts _ k_545) d_Integer_bitCount_29 ?_
  refine lv_iand hx hb d_Integer_bitCount_32 ?_
  refine lv_istore_n (lv' := [(0, .int (((((x - (((x.toUInt32 >>> ((1 : Int32).toUInt32 &&& Int32.toUInt32 31)).toInt32) &&& 1431655765)) &&& 858993459) + ((((x - (((x.toUInt32 >>> ((1 : Int32).toUInt32 &&& Int32.toUInt32 31)).toInt32) &&& 1431655765)).toUInt32 >>> ((2 : Int32).toUInt32 &&& Int32.toUInt32 31)).toInt32) &&& 858993459)) + (((((x - (((x.toUInt32 >>> ((1 : Int32).toUInt32 &&& Int32.toUInt32 31)).toInt32) &&& 1431655765)) &&& 858993459) + ((((x - (((x.toUInt32 >>> ((1 : Int32).toUInt32 &&& Int32.toUInt32 31)).toInt32) &&& 1431655765)).toUInt32 >>> ((2 : Int32).toUInt32 &&& Int32.toUInt32 31)).toInt32) &&& 858993459)).toUInt32 >>> ((4 : Int32).toUInt32 &&& Int32.toUInt32 31)).toInt32)) &&& 252645135))]) hx hb d_Integer_bitCount_33 rfl hl (by decide) rfl (fun ls hl => ?_)
  refine lv_iload_n hx hb d_Integer_bitCount_34 rfl (lv_at hl 0 rfl) ?_
  refine lv_iload_n hx hb d_Integer_bitCount_35 rfl (lv_at hl 0 rfl) ?_
  refine lv_bipush (v := 8) hx hb d_Integer_bitCount_36 (by decide) ?_
  refine lv_iushr (v := ((((((x - (((x.toUInt32 >>> ((1 : Int32).toUInt32 &&& Int32.toUInt32 31)).toInt32) &&& 1431655765)) &&& 858993459) + ((((x - (((x.toUInt32 >>> ((1 : Int32).toUInt32 &&& Int32.toUInt32 31)).toInt32) &&& 1431655765)).toUInt32 >>> ((2 : Int32).toUInt32 &&& Int32.toUInt32 31)).toInt32) &&& 858993459)) + (((((x - (((x.toUInt32 >>> ((1 : Int32).toUInt32 &&& Int32.toUInt32 31)).toInt32) &&& 1431655765)) &&& 858993459) + ((((x - (((x.toUInt32 >>> ((1 : Int32).toUInt32 &&& Int32.toUInt32 31)).toInt32) &&& 1431655765)).toUInt32 >>> ((2 : Int32).toUInt32 &&& Int32.toUInt32 31)).toInt32) &&& 858993459)).toUInt32 >>> ((4 : Int32).toUInt32 &&& Int32.toUInt32 31)).toInt32)) &&& 252645135).toUInt32 >>> ((8 : Int32).toUInt32 &&& Int32.toUInt32 31)).toInt32) hx hb d_Integer_bitCount_38 rfl ?_
  refine lv_iadd hx hb d_Integer_bitCount_39 ?_
  refine lv_istore_n (lv' := [(0, .int ((((((x - (((x.toUInt32 >>> ((1 : Int32).toUInt32 &&& Int32.toUInt32 31)).toInt32) &&& 1431655765)) &&& 858993459) + ((((x - (((x.toUInt32 >>> ((1 : Int32).toUInt32 &&& Int32.toUInt32 31)).toInt32) &&& 1431655765)).toUInt32 >>> ((2 : Int32).toUInt32 &&& Int32.toUInt32 31)).toInt32) &&& 858993459)) + (((((x - (((x.toUInt32 >>> ((1 : Int32).toUInt32 &&& Int32.toUInt32 31)).toInt32) &&& 1431655765)) &&& 858993459) + ((((x - (((x.toUInt32 >>> ((1 : Int32).toUInt32 &&& Int32.toUInt32 31)).toInt32) &&& 1431655765)).toUInt32 >>> ((2 : Int32).toUInt32 &&& Int32.toUInt32 31)).toInt32) &&& 858993459)).toUInt32 >>> ((4 : Int32).toUInt32 &&& Int32.toUInt32 31)).toInt32)) &&& 252645135) + (((((((x - (((x.toUInt32 >>> ((1 : Int32).toUInt32 &&& Int32.toUInt32 31)).toInt32) &&& 1431655765)) &&& 858993459) + ((((x - (((x.toUInt32 >>> ((1 : Int32).toUInt32 &&& Int32.toUInt32 31)).toInt32) &&& 1431655765)).toUInt32 >>> ((2 : Int32).toUInt32 &&& Int32.toUInt32 31)).toInt32) &&& 858993459)) + (((((x - (((x.toUInt32 >>> ((1 : Int32).toUInt32 &&& Int32.toUInt32 31)).toInt32) &&& 1431655765)) &&& 858993459) + ((((x - (((x.toUInt32 >>> ((1 : Int32).toUInt32 &&& Int32.toUInt32 31)).toInt32) &&& 1431655765)).toUInt32 >>> ((2 : Int32).toUInt32 &&& Int32.toUInt32 31)).toInt32) &&& 858993459)).toUInt32 >>> ((4 : Int32).toUInt32 &&& Int32.toUInt32 31)).toInt32)) &&& 252645135).toUInt32 >>> ((8 : Int32).toUInt32 &&& Int32.toUInt32 31)).toInt32)))]) hx hb d_Integer_bitCount_40 rfl hl (by decide) rfl (fun ls hl => ?_)
  refine lv_iload_n hx hb d_Integer_bitCount_41 rfl (lv_at hl 0 rfl) ?_
  refine lv_iload_n hx hb d_Integer_bitCount_42 rfl (lv_at hl 0 rfl) ?_
  refine lv_bipush (v := 16) hx hb d_Integer_bitCount_43 (by decide) ?_
  refine lv_iushr (v := (((((((x - (((x.toUInt32 >>> ((1 : Int32).toUInt32 &&& Int32.toUInt32 31)).toInt32) &&& 1431655765)) &&& 858993459) + ((((x - (((x.toUInt32 >>> ((1 : Int32).toUInt32 &&& Int32.toUInt32 31)).toInt32) &&& 1431655765)).toUInt32 >>> ((2 : Int32).toUInt32 &&& Int32.toUInt32 31)).toInt32) &&& 858993459)) + (((((x - (((x.toUInt32 >>> ((1 : Int32).toUInt32 &&& Int32.toUInt32 31)).toInt32) &&& 1431655765)) &&& 858993459) + ((((x - (((x.toUInt32 >>> ((1 : Int32).toUInt32 &&& Int32.toUInt32 31)).toInt32) &&& 1431655765)).toUInt32 >>> ((2 : Int32).toUInt32 &&& Int32.toUInt32 31)).toInt32) &&& 858993459)).toUInt32 >>> ((4 : Int32).toUInt32 &&& Int32.toUInt32 31)).toInt32)) &&& 252645135) + (((((((x - (((x.toUInt32 >>> ((1 : Int32).toUInt32 &&& Int32.toUInt32 31)).toInt32) &&& 1431655765)) &&& 858993459) + ((((x - (((x.toUInt32 >>> ((1 : Int32).toUInt32 &&& Int32.toUInt32 31)).toInt32) &&& 1431655765)).toUInt32 >>> ((2 : Int32).toUInt32 &&& Int32.toUInt32 31)).toInt32) &&& 858993459)) + (((((x - (((x.toUInt32 >>> ((1 : Int32).toUInt32 &&& Int32.toUInt32 31)).toInt32) &&& 1431655765)) &&& 858993459) + ((((x - (((x.toUInt32 >>> ((1 : Int32).toUInt32 &&& Int32.toUInt32 31)).toInt32) &&& 1431655765)).toUInt32 >>> ((2 : Int32).toUInt32 &&& Int32.toUInt32 31)).toInt32) &&& 858993459)).toUInt32 >>> ((4 : Int32).toUInt32 &&& Int32.toUInt32 31)).toInt32)) &&& 252645135).toUInt32 >>> ((8 : Int32).toUInt32 &&& Int32.toUInt32 31)).toInt32)).toUInt32 >>> ((16 : Int32).toUInt32 &&& Int32.toUInt32 31)).toInt32) hx hb d_Integer_bitCount_45 rfl ?_
  refine lv_iadd hx hb d_Integer_bitCount_46 ?_
  refine lv_istore_n (lv' := [(0, .int (((((((x - (((x.toUInt32 >>> ((1 : Int32).toUInt32 &&& Int32.toUInt32 31)).toInt32) &&& 1431655765)) &&& 858993459) + ((((x - (((x.toUInt32 >>> ((1 : Int32).toUInt32 &&& Int32.toUInt32 31)).toInt32) &&& 1431655765)).toUInt32 >>> ((2 : Int32).toUInt32 &&& Int32.toUInt32 31)).toInt32) &&& 858993459)) + (((((x - (((x.toUInt32 >>> ((1 : Int32).toUInt32 &&& Int32.toUInt32 31)).toInt32) &&& 1431655765)) &&& 858993459) + ((((x - (((x.toUInt32 >>> ((1 : Int32).toUInt32 &&& Int32.toUInt32 31)).toInt32) &&& 1431655765)).toUInt32 >>> ((2 : Int32).toUInt32 &&& Int32.toUInt32 31)).toInt32) &&& 858993459)).toUInt32 >>> ((4 : Int32).toUInt32 &&& Int32.toUInt32 31)).toInt32)) &&& 252645135) + (((((((x - (((x.toUInt32 >>> ((1 : Int32).toUInt32 &&& Int32.toUInt32 31)).toInt32) &&& 1431655765)) &&& 858993459) + ((((x - (((x.toUInt32 >>> ((1 : Int32).toUInt32 &&& Int32.toUInt32 31)).toInt32) &&& 1431655765)).toUInt32 >>> ((2 : Int32).toUInt32 &&& Int32.toUInt32 31)).toInt32) &&& 858993459)) + (((((x - (((x.toUInt32 >>> ((1 : Int32).toUInt32 &&& Int32.toUInt32 31)).toInt32) &&& 1431655765)) &&& 858993459) + ((((x - (((x.toUInt32 >>> ((1 : Int32).toUInt32 &&& Int32.toUInt32 31)).toInt32) &&& 1431655765)).toUInt32 >>> ((2 : Int32).toUInt32 &&& Int32.toUInt32 31)).toInt32) &&& 858993459)).toUInt32 >>> ((4 : Int32).toUInt32 &&& Int32.toUInt32 31)).toInt32)) &&& 252645135).toUInt32 >>> ((8 : Int32).toUInt32 &&& Int32.toUInt32 31)).toInt32)) + ((((((((x - (((x.toUInt32 >>> ((1 : Int32).toUInt32 &&& Int32.toUInt32 31)).toInt32) &&& 1431655765)) &&& 858993459) + ((((x - (((x.toUInt32 >>> ((1 : Int32).toUInt32 &&& Int32.toUInt32 31)).toInt32) &&& 1431655765)).toUInt32 >>> ((2 : Int32).toUInt32 &&& Int32.toUInt32 31)).toInt32) &&& 858993459)) + (((((x - (((x.toUInt32 >>> ((1 : Int32).toUInt32 &&& Int32.toUInt32 31)).toInt32) &&& 1431655765)) &&& 858993459) + ((((x - (((x.toUInt32 >>> ((1 : Int32).toUInt32 &&& Int32.toUInt32 31)).toInt32) &&& 1431655765)).toUInt32 >>> ((2 : Int32).toUInt32 &&& Int32.toUInt32 31)).toInt32) &&& 858993459)).toUInt32 >>> ((4 : Int32).toUInt32 &&& Int32.toUInt32 31)).toInt32)) &&& 252645135) + (((((((x - (((x.toUInt32 >>> ((1 : Int32).toUInt32 &&& Int32.toUInt32 31)).toInt32) &&& 1431655765)) &&& 858993459) + ((((x - (((x.toUInt32 >>> ((1 : Int32).toUInt32 &&& Int32.toUInt32 31)).toInt32) &&& 1431655765)).toUInt32 >>> ((2 : Int32).toUInt32 &&& Int32.toUInt32 31)).toInt32) &&& 858993459)) + (((((x - (((x.toUInt32 >>> ((1 : Int32).toUInt32 &&& Int32.toUInt32 31)).toInt32) &&& 1431655765)) &&& 858993459) + ((((x - (((x.toUInt32 >>> ((1 : Int32).toUInt32 &&& Int32.toUInt32 31)).toInt32) &&& 1431655765)).toUInt32 >>> ((2 : Int32).toUInt32 &&& Int32.toUInt32 31)).toInt32) &&& 858993459)).toUInt32 >>> ((4 : Int32).toUInt32 &&& Int32.toUInt32 31)).toInt32)) &&& 252645135).toUInt32 >>> ((8 : Int32).toUInt32 &&& Int32.toUInt32 31)).toInt32)).toUInt32 >>> ((16 : Int32).toUInt32 &&& Int32.toUInt32 31)).toInt32)))]) hx hb d_Integer_bitCount_47 rfl hl (by decide) rfl (fun ls hl => ?_)
  refine lv_iload_n hx hb d_Integer_bitCount_48 rfl (lv_at hl 0 rfl) ?_
  refine lv_bipush (v := 63) hx hb d_Integer_bitCount_49 (by decide) ?_
  refine lv_iand hx hb d_Integer_bitCount_51 ?_
  refine os_iret hx hb hr hlocks hV (Nat.le_of_ble_eq_true rfl) (Nat.le_of_ble_eq_true rfl) d_Integer_bitCount_52 ?_
  exact ⟨rfl, rfl, rfl⟩
/-- the bits of a number, as Integer.bitCount counts them -/
def bitC (x : Int32) : Int32 := (((((((x - (((x.toUInt32 >>> ((1 : Int32).toUInt32 &&& Int32.toUInt32 31)).toInt32) &&& 1431655765)) &&& 858993459) + ((((x - (((x.toUInt32 >>> ((1 : Int32).toUInt32 &&& Int32.toUInt32 31)).toInt32) &&& 1431655765)).toUInt32 >>> ((2 : Int32).toUInt32 &&& Int32.toUInt32 31)).toInt32) &&& 858993459)) + (((((x - (((x.toUInt32 >>> ((1 : Int32).toUInt32 &&& Int32.toUInt32 31)).toInt32) &&& 1431655765)) &&& 858993459) + ((((x - (((x.toUInt32 >>> ((1 : Int32).toUInt32 &&& Int32.toUInt32 31)).toInt32) &&& 1431655765)).toUInt32 >>> ((2 : Int32).toUInt32 &&& Int32.toUInt32 31)).toInt32) &&& 858993459)).toUInt32 >>> ((4 : Int32).toUInt32 &&& Int32.toUInt32 31)).toInt32)) &&& 252645135) + (((((((x - (((x.toUInt32 >>> ((1 : Int32).toUInt32 &&& Int32.toUInt32 31)).toInt32) &&& 1431655765)) &&& 858993459) + ((((x - (((x.toUInt32 >>> ((1 : Int32).toUInt32 &&& Int32.toUInt32 31)).toInt32) &&& 1431655765)).toUInt32 >>> ((2 : Int32).toUInt32 &&& Int32.toUInt32 31)).toInt32) &&& 858993459)) + (((((x - (((x.toUInt32 >>> ((1 : Int32).toUInt32 &&& Int32.toUInt32 31)).toInt32) &&& 1431655765)) &&& 858993459) + ((((x - (((x.toUInt32 >>> ((1 : Int32).toUInt32 &&& Int32.toUInt32 31)).toInt32) &&& 1431655765)).toUInt32 >>> ((2 : Int32).toUInt32 &&& Int32.toUInt32 31)).toInt32) &&& 858993459)).toUInt32 >>> ((4 : Int32).toUInt32 &&& Int32.toUInt32 31)).toInt32)) &&& 252645135).toUInt32 >>> ((8 : Int32).toUInt32 &&& Int32.toUInt32 31)).toInt32)) + ((((((((x - (((x.toUInt32 >>> ((1 : Int32).toUInt32 &&& Int32.toUInt32 31)).toInt32) &&& 1431655765)) &&& 858993459) + ((((x - (((x.toUInt32 >>> ((1 : Int32).toUInt32 &&& Int32.toUInt32 31)).toInt32) &&& 1431655765)).toUInt32 >>> ((2 : Int32).toUInt32 &&& Int32.toUInt32 31)).toInt32) &&& 858993459)) + (((((x - (((x.toUInt32 >>> ((1 : Int32).toUInt32 &&& Int32.toUInt32 31)).toInt32) &&& 1431655765)) &&& 858993459) + ((((x - (((x.toUInt32 >>> ((1 : Int32).toUInt32 &&& Int32.toUInt32 31)).toInt32) &&& 1431655765)).toUInt32 >>> ((2 : Int32).toUInt32 &&& Int32.toUInt32 31)).toInt32) &&& 858993459)).toUInt32 >>> ((4 : Int32).toUInt32 &&& Int32.toUInt32 31)).toInt32)) &&& 252645135) + (((((((x - (((x.toUInt32 >>> ((1 : Int32).toUInt32 &&& Int32.toUInt32 31)).toInt32) &&& 1431655765)) &&& 858993459) + ((((x - (((x.toUInt32 >>> ((1 : Int32).toUInt32 &&& Int32.toUInt32 31)).toInt32) &&& 1431655765)).toUInt32 >>> ((2 : Int32).toUInt32 &&& Int32.toUInt32 31)).toInt32) &&& 858993459)) + (((((x - (((x.toUInt32 >>> ((1 : Int32).toUInt32 &&& Int32.toUInt32 31)).toInt32) &&& 1431655765)) &&& 858993459) + ((((x - (((x.toUInt32 >>> ((1 : Int32).toUInt32 &&& Int32.toUInt32 31)).toInt32) &&& 1431655765)).toUInt32 >>> ((2 : Int32).toUInt32 &&& Int32.toUInt32 31)).toInt32) &&& 858993459)).toUInt32 >>> ((4 : Int32).toUInt32 &&& Int32.toUInt32 31)).toInt32)) &&& 252645135).toUInt32 >>> ((8 : Int32).toUInt32 &&& Int32.toUInt32 31)).toInt32)).toUInt32 >>> ((16 : Int32).toUInt32 &&& Int32.toUInt32 31)).toInt32)) &&& 63
set_option maxHeartbeats 4000000 in
set_option maxRecDepth 100000 in
theorem c_RF_hasRoomForFault (l : Launch) (hlt : l.stackTraces = false) (D : va_G) (cA : Nat → ClassId) (bs : Nat) (σ : os_S) (ad : Nat → Nat → Nat) (hA : rfA σ) : os_Met l y_RF_hasRoomForFault prog_1_method_32_code 1 (some .boolean) { frames := 0, cells := 0, slots := 0, locals := 0 } D cA bs [.ref (ad 0 0)] σ ad (pv σ ad (some (.int (bz (decide (¬ 40 ≤ os_g σ 0 7 0 ∧ ¬ 40 ≤ os_g σ 0 8 0)))))) := by
  refine os_ofW (by decide) ?_
  intro p e s m below meth c hx hb hr hml hown hlocks hmn hout hE hV
  have hts := hE.hts (args := ([.ref (ad 0 0)] : List Value).toArray)
  have hK := hE.2.1
  have hbs := hE.2.2.1
  have hown : s.vm.findClass "RobotFaults" = some m.cls := hown
  have hl := lv_entry ([.ref (ad 0 0)]) (n := 1) (Nat.le_of_ble_eq_true rfl)
  rw [lg_entry_eq]
  generalize (lg_sl ([.ref (ad 0 0)]) ++ List.replicate (1 - (lg_sl ([.ref (ad 0 0)])).length) Slot.unset).toArray = ls at hl ⊢
  have hl : lv_has ls 1 [(0, .ref (ad 0 0))] := hl
  refine lv_aload_n hx hb d_RF_hasRoomForFault_0 rfl (lv_at hl 0 rfl) ?_
  refine os_get (C := "RobotFaults") (T := F_RF) (N := 11) (ci := 0) (K := 0) (j := 7) (i := 0) (v := .int (os_g σ 0 7 0)) hx hb hts i_RF hown hK hV rfl rfl (by decide) (hA.n 0 (by decide)) (hts _ k_75) rfl d_RF_hasRoomForFault_1 ?_
  refine lv_aload_n hx hb d_RF_hasRoomForFault_4 rfl (lv_at hl 0 rfl) ?_
  refine os_get (C := "RobotFaults") (T := F_RF) (N := 11) (ci := 0) (K := 0) (j := 3) (i := 0) (v := .ref (ad 5 0)) hx hb hts i_RF hown hK hV rfl rfl (by decide) (hA.n 0 (by decide)) (hts _ k_71) (congrArg (fun z => va_rf (Option.map (ad 5) z)) (hA.r 3 (by decide))) d_RF_hasRoomForFault_5 ?_
  refine os_alen (K := 5) (i := 0) (t0 := 5) (v := 40) hx hb hK hV rfl rfl (hA.n 5 (by decide)) (congrArg Int32.ofNat hA.l5) d_RF_hasRoomForFault_8 ?_
  refine lv_icmp_ge (tgt := 28) hx hb d_RF_hasRoomForFault_9 (by decide) (fun c_1 => ?_) (fun c_1 => ?_)
  · skip
    refine lv_iconst (v := 0) hx hb d_RF_hasRoomForFault_28 (by decide) ?_
    refine os_zret hx hb hr rfl hlocks hV (Nat.le_of_ble_eq_true rfl) (Nat.le_of_ble_eq_true rfl) d_RF_hasRoomForFault_29 ?_
    exact ⟨rfl, rfl, by simp [bz, c_1]⟩
  · skip
    refine lv_aload_n hx hb d_RF_hasRoomForFault_12 rfl (lv_at hl 0 rfl) ?_
    refine os_get (C := "RobotFaults") (T := F_RF) (N := 11) (ci := 0) (K := 0) (j := 8) (i := 0) (v := .int (os_g σ 0 8 0)) hx hb hts i_RF hown hK hV rfl rfl (by decide) (hA.n 0 (by decide)) (hts _ k_76) rfl d_RF_hasRoomForFault_13 ?_
    refine lv_aload_n hx hb d_RF_hasRoomForFault_16 rfl (lv_at hl 0 rfl) ?_
    refine os_get (C := "RobotFaults") (T := F_RF) (N := 11) (ci := 0) (K := 0) (j := 4) (i := 0) (v := .ref (ad 6 0)) hx hb hts i_RF hown hK hV rfl rfl (by decide) (hA.n 0 (by decide)) (hts _ k_72) (congrArg (fun z => va_rf (Option.map (ad 6) z)) (hA.r 4 (by decide))) d_RF_hasRoomForFault_17 ?_
    refine os_alen (K := 6) (i := 0) (t0 := 6) (v := 40) hx hb hK hV rfl rfl (hA.n 6 (by decide)) (congrArg Int32.ofNat hA.l6) d_RF_hasRoomForFault_20 ?_
    refine lv_icmp_ge (tgt := 28) hx hb d_RF_hasRoomForFault_21 (by decide) (fun c_2 => ?_) (fun c_2 => ?_)
    · skip
      refine lv_iconst (v := 0) hx hb d_RF_hasRoomForFault_28 (by decide) ?_
      refine os_zret hx hb hr rfl hlocks hV (Nat.le_of_ble_eq_true rfl) (Nat.le_of_ble_eq_true rfl) d_RF_hasRoomForFault_29 ?_
      exact ⟨rfl, rfl, by simp [bz, c_1, c_2]⟩
    · skip
      refine lv_iconst (v := 1) hx hb d_RF_hasRoomForFault_24 (by decide) ?_
      refine lv_goto (tgt := 29) hx hb d_RF_hasRoomForFault_25 (by decide) ?_
      refine os_zret hx hb hr rfl hlocks hV (Nat.le_of_ble_eq_true rfl) (Nat.le_of_ble_eq_true rfl) d_RF_hasRoomForFault_29 ?_
      exact ⟨rfl, rfl, by simp [bz, c_1, c_2]⟩
/-- a new fault's fields -/
def fNew (σ : os_S) (i r9 : Nat) (x k t y : Int32) (b : Bool) : os_S := os_sg (os_sg (os_sg (os_sg (os_sg (os_sg (os_sr (os_sg (os_sg (os_sg (os_sg σ 10 8 i (-1)) 10 9 i 0) 10 10 i (-1)) 10 0 i x) 10 1 i (some r9)) 10 2 i k) 10 3 i t) 10 4 i y) 10 5 i (bz b)) 10 6 i (os_g σ 9 1 r9)) 10 7 i (if k = 2 then os_g σ 9 3 r9 else -1)
set_option maxHeartbeats 4000000 in
set_option maxRecDepth 100000 in
theorem c_Fault_init (l : Launch) (hlt : l.stackTraces = false) (D : va_G) (cA : Nat → ClassId) (bs : Nat) (σ : os_S) (ad : Nat → Nat → Nat) (i r9 : Nat) (x k t y : Int32) (b : Bool) (hi : i < os_n σ 10) (hr9 : r9 < os_n σ 9) : os_Met l y_Fault_init prog_3_method_1_code 7 none { frames := 1, cells := 0, slots := 0, locals := 12 } D cA bs [.ref (ad 10 i), .int x, .ref (ad 9 r9), .int k, .int t, .int y, .int (bz b)] σ ad (fun r σ' ad' => fNew σ i r9 x k t y b = σ' ∧ ad = ad' ∧ r = .inl none) := by
  refine os_ofW (by decide) ?_
  intro p e s m below meth c hx hb hr hml hown hlocks hmn hout hE hV
  have hts := hE.hts (args := ([.ref (ad 10 i), .int x, .ref (ad 9 r9), .int k, .int t, .int y, .int (bz b)] : List Value).toArray)
  have hK := hE.2.1
  have hbs := hE.2.2.1
  have hown : s.vm.findClass "RobotFaults$Fault" = some m.cls := hown
  have hl := lv_entry ([.ref (ad 10 i), .int x, .ref (ad 9 r9), .int k, .int t, .int y, .int (bz b)]) (n := 7) (Nat.le_of_ble_eq_true rfl)
  rw [lg_entry_eq]
  generalize (lg_sl ([.ref (ad 10 i), .int x, .ref (ad 9 r9), .int k, .int t, .int y, .int (bz b)]) ++ List.replicate (7 - (lg_sl ([.ref (ad 10 i), .int x, .ref (ad 9 r9), .int k, .int t, .int y, .int (bz b)])).length) Slot.unset).toArray = ls at hl ⊢
  have hl : lv_has ls 7 [(0, .ref (ad 10 i)), (1, .int x), (2, .ref (ad 9 r9)), (3, .int k), (4, .int t), (5, .int y), (6, .int (bz b))] := hl
  refine lv_aload_n hx hb d_Fault_init_0 rfl (lv_at hl 0 rfl) ?_
  refine W.objInit hx hb hown (hts _ k_416) (hts _ k_24) (hts _ k_25) rfl (hl.1.trans hml.symm) rfl d_Fault_init_1 (Nat.le_of_ble_eq_true rfl) (Nat.le_of_ble_eq_true rfl) ?_
  refine W.eq (g2 := F0 m 4 ls []) rfl ?_
  refine lv_aload_n hx hb d_Fault_init_4 rfl (lv_at hl 0 rfl) ?_
  refine lv_iconst (v := (-1)) hx hb d_Fault_init_5 (by decide) ?_
  refine os_putI (C := "RobotFaults$Fault") (T := F_Fault) (N := 11) (ci := 4) (K := 10) (j := 8) (i := i) (v := (-1)) (ty := .int) hx hb hts i_Fault t_Fault t_Fault_ok n_Fault hown hK hV rfl rfl (by decide) hi (hts _ k_435) rfl rfl rfl (by decide +kernel) rfl rfl d_Fault_init_6 (fun H locs hV => ?_)
  refine lv_aload_n hx hb d_Fault_init_9 rfl (lv_at hl 0 rfl) ?_
  refine lv_iconst (v := 0) hx hb d_Fault_init_10 (by decide) ?_
  refine os_putI (C := "RobotFaults$Fault") (T := F_Fault) (N := 11) (ci := 4) (K := 10) (j := 9) (i := i) (v := 0) (ty := .int) hx hb hts i_Fault t_Fault t_Fault_ok n_Fault hown hK hV rfl rfl (by decide) hi (hts _ k_437) rfl rfl rfl (by decide +kernel) rfl rfl d_Fault_init_11 (fun H locs hV => ?_)
  refine lv_aload_n hx hb d_Fault_init_14 rfl (lv_at hl 0 rfl) ?_
  refine lv_iconst (v := (-1)) hx hb d_Fault_init_15 (by decide) ?_
  refine os_putI (C := "RobotFaults$Fault") (T := F_Fault) (N := 11) (ci := 4) (K := 10) (j := 10) (i := i) (v := (-1)) (ty := .int) hx hb hts i_Fault t_Fault t_Fault_ok n_Fault hown hK hV rfl rfl (by decide) hi (hts _ k_439) rfl rfl rfl (by decide +kernel) rfl rfl d_Fault_init_16 (fun H locs hV => ?_)
  refine lv_aload_n hx hb d_Fault_init_19 rfl (lv_at hl 0 rfl) ?_
  refine lv_iload_n hx hb d_Fault_init_20 rfl (lv_at hl 1 rfl) ?_
  refine os_putIF (C := "RobotFaults$Fault") (T := F_Fault) (N := 11) (ci := 4) (K := 10) (j := 0) (i := i) (v := x) (ty := .int) hx hb hts i_Fault t_Fault t_Fault_ok n_Fault hown hK hV rfl rfl (by decide) hi (hts _ k_417) rfl hmn rfl rfl rfl (by decide +kernel) rfl rfl d_Fault_init_21 (fun H locs hV => ?_)
  refine lv_aload_n hx hb d_Fault_init_24 rfl (lv_at hl 0 rfl) ?_
  refine lv_aload_n hx hb d_Fault_init_25 rfl (lv_at hl 2 rfl) ?_
  refine os_putRF (C := "RobotFaults$Fault") (T := F_Fault) (N := 11) (ci := 4) (K := 10) (j := 1) (i := i) (kt := 9) (v := (some r9)) (ty := .object "RobotFaults$Robot") hx hb hts i_Fault t_Fault t_Fault_ok n_Fault hown hK hV rfl rfl (by decide) hi (hts _ k_419) rfl hmn rfl rfl rfl (fun t h => by cases h; exact hr9) (by decide +kernel) ⟨rfl, rfl⟩ d_Fault_init_26 (fun H locs hV => ?_)
  refine lv_aload_n hx hb d_Fault_init_29 rfl (lv_at hl 0 rfl) ?_
  refine lv_iload_n hx hb d_Fault_init_30 rfl (lv_at hl 3 rfl) ?_
  refine os_putIF (C := "RobotFaults$Fault") (T := F_Fault) (N := 11) (ci := 4) (K := 10) (j := 2) (i := i) (v := k) (ty := .int) hx hb hts i_Fault t_Fault t_Fault_ok n_Fault hown hK hV rfl rfl (by decide) hi (hts _ k_422) rfl hmn rfl rfl rfl (by decide +kernel) rfl rfl d_Fault_init_31 (fun H locs hV => ?_)
  refine lv_aload_n hx hb d_Fault_init_34 rfl (lv_at hl 0 rfl) ?_
  refine lv_iload hx hb d_Fault_init_35 (lv_at hl 4 rfl) ?_
  refine os_putIF (C := "RobotFaults$Fault") (T := F_Fault) (N := 11) (ci := 4) (K := 10) (j := 3) (i := i) (v := t) (ty := .int) hx hb hts i_Fault t_Fault t_Fault_ok n_Fault hown hK hV rfl rfl (by decide) hi (hts _ k_425) rfl hmn rfl rfl rfl (by decide +kernel) rfl rfl d_Fault_init_37 (fun H locs hV => ?_)
  refine lv_aload_n hx hb d_Fault_init_40 rfl (lv_at hl 0 rfl) ?_
  refine lv_iload hx hb d_Fault_init_41 (lv_at hl 5 rfl) ?_
  refine os_putIF (C := "RobotFaults$Fault") (T := F_Fault) (N := 11) (ci := 4) (K := 10) (j := 4) (i := i) (v := y) (ty := .int) hx hb hts i_Fault t_Fault t_Fault_ok n_Fault hown hK hV rfl rfl (by decide) hi (hts _ k_428) rfl hmn rfl rfl rfl (by decide +kernel) rfl rfl d_Fault_init_43 (fun H locs hV => ?_)
  refine lv_aload_n hx hb d_Fault_init_46 rfl (lv_at hl 0 rfl) ?_
  refine lv_iload hx hb d_Fault_init_47 (lv_at hl 6 rfl) ?_
  refine os_putIF (C := "RobotFaults$Fault") (T := F_Fault) (N := 11) (ci := 4) (K := 10) (j := 5) (i := i) (v := bz b) (ty := .boolean) hx hb hts i_Fault t_Fault t_Fault_ok n_Fault hown hK hV rfl rfl (by decide) hi (hts _ k_429) rfl hmn rfl rfl rfl (by decide +kernel) (bz_nar _) (bz_fit _) d_Fault_init_49 (fun H locs hV => ?_)
  refine lv_aload_n hx hb d_Fault_init_52 rfl (lv_at hl 0 rfl) ?_
  refine lv_aload_n hx hb d_Fault_init_53 rfl (lv_at hl 2 rfl) ?_
  refine os_getN (C := "RobotFaults$Robot") (T := F_Robot) (N := 6) (ci := 3) (K := 9) (j := 1) (i := r9) (v := .int (os_g σ 9 1 r9)) hx hb hts i_Robot hown hK hV rfl rfl (by decide) hr9 (hts _ k_297) rfl d_Fault_init_54 ?_
  refine os_putIF (C := "RobotFaults$Fault") (T := F_Fault) (N := 11) (ci := 4) (K := 10) (j := 6) (i := i) (v := os_g σ 9 1 r9) (ty := .int) hx hb hts i_Fault t_Fault t_Fault_ok n_Fault hown hK hV rfl rfl (by decide) hi (hts _ k_431) rfl hmn rfl rfl rfl (by decide +kernel) rfl rfl d_Fault_init_57 (fun H locs hV => ?_)
  refine lv_aload_n hx hb d_Fault_init_60 rfl (lv_at hl 0 rfl) ?_
  refine lv_iload_n hx hb d_Fault_init_61 rfl (lv_at hl 3 rfl) ?_
  refine lv_iconst (v := 2) hx hb d_Fault_init_62 (by decide) ?_
  refine lv_icmp_ne (tgt := 73) hx hb d_Fault_init_63 (by decide) (fun c_1 => ?_) (fun c_1 => ?_)
  · skip
    refine lv_iconst (v := (-1)) hx hb d_Fault_init_73 (by decide) ?_
    refine os_putIF (C := "RobotFaults$Fault") (T := F_Fault) (N := 11) (ci := 4) (K := 10) (j := 7) (i := i) (v := (-1)) (ty := .int) hx hb hts i_Fault t_Fault t_Fault_ok n_Fault hown hK hV rfl rfl (by decide) hi (hts _ k_433) rfl hmn rfl rfl rfl (by decide +kernel) rfl rfl d_Fault_init_74 (fun H locs hV => ?_)
    refine os_vret hx hb hr hlocks hV (Nat.le_of_ble_eq_true rfl) (Nat.le_of_ble_eq_true rfl) d_Fault_init_77 ?_
    exact ⟨by simp [fNew, c_1], rfl, rfl⟩
  · skip
    refine lv_aload_n hx hb d_Fault_init_66 rfl (lv_at hl 2 rfl) ?_
    refine os_getN (C := "RobotFaults$Robot") (T := F_Robot) (N := 6) (ci := 3) (K := 9) (j := 3) (i := r9) (v := .int (os_g σ 9 3 r9)) hx hb hts i_Robot hown hK hV rfl rfl (by decide) hr9 (hts _ k_302) rfl d_Fault_init_67 ?_
    refine lv_goto (tgt := 74) hx hb d_Fault_init_70 (by decide) ?_
    refine os_putIF (C := "RobotFaults$Fault") (T := F_Fault) (N := 11) (ci := 4) (K := 10) (j := 7) (i := i) (v := os_g σ 9 3 r9) (ty := .int) hx hb hts i_Fault t_Fault t_Fault_ok n_Fault hown hK hV rfl rfl (by decide) hi (hts _ k_433) rfl hmn rfl rfl rfl (by decide +kernel) rfl rfl d_Fault_init_74 (fun H locs hV => ?_)
    refine os_vret hx hb hr hlocks hV (Nat.le_of_ble_eq_true rfl) (Nat.le_of_ble_eq_true rfl) d_Fault_init_77 ?_
    exact ⟨by simp [fNew, c_1], rfl, rfl⟩
/-- a person's step -/
def fStep (σ : os_S) (i : Nat) (x t : Int32) : os_S :=
  if bitC (os_g σ 10 9 i ||| ((1 : Int32) <<< (x &&& 31))) < os_g σ 10 4 i then os_sg σ 10 9 i (os_g σ 10 9 i ||| ((1 : Int32) <<< (x &&& 31))) else os_sg (os_sg σ 10 9 i (os_g σ 10 9 i ||| ((1 : Int32) <<< (x &&& 31)))) 10 10 i t
set_option maxHeartbeats 4000000 in
set_option maxRecDepth 100000 in
theorem c_Fault_addStep (l : Launch) (hlt : l.stackTraces = false) (D : va_G) (cA : Nat → ClassId) (bs : Nat) (σ : os_S) (ad : Nat → Nat → Nat) (i : Nat) (x t : Int32) (hi : i < os_n σ 10) : os_Met l y_Fault_addStep prog_3_method_3_code 3 none { frames := 1, cells := 0, slots := 0, locals := 20 } D cA bs [.ref (ad 10 i), .int x, .int t] σ ad (fun r σ' ad' => fStep σ i x t = σ' ∧ ad = ad' ∧ r = .inl none) := by
  refine os_ofW (by decide) ?_
  intro p e s m below meth c hx hb hr hml hown hlocks hmn hout hE hV
  have hts := hE.hts (args := ([.ref (ad 10 i), .int x, .int t] : List Value).toArray)
  have hK := hE.2.1
  have hbs := hE.2.2.1
  have hown : s.vm.findClass "RobotFaults$Fault" = some m.cls := hown
  have hl := lv_entry ([.ref (ad 10 i), .int x, .int t]) (n := 3) (Nat.le_of_ble_eq_true rfl)
  rw [lg_entry_eq]
  generalize (lg_sl ([.ref (ad 10 i), .int x, .int t]) ++ List.replicate (3 - (lg_sl ([.ref (ad 10 i), .int x, .int t])).length) Slot.unset).toArray = ls at hl ⊢
  have hl : lv_has ls 3 [(0, .ref (ad 10 i)), (1, .int x), (2, .int t)] := hl
  refine lv_aload_n hx hb d_Fault_addStep_0 rfl (lv_at hl 0 rfl) ?_
  refine lv_dup hx hb d_Fault_addStep_1 rfl ?_
  refine os_get (C := "RobotFaults$Fault") (T := F_Fault) (N := 11) (ci := 4) (K := 10) (j := 9) (i := i) (v := .int (os_g σ 10 9 i)) hx hb hts i_Fault hown hK hV rfl rfl (by decide) hi (hts _ k_437) rfl d_Fault_addStep_2 ?_
  refine lv_iconst (v := 1) hx hb d_Fault_addStep_5 (by decide) ?_
  refine lv_iload_n hx hb d_Fault_addStep_6 rfl (lv_at hl 1 rfl) ?_
  refine lv_ishl hx hb d_Fault_addStep_7 ?_
  refine lv_ior hx hb d_Fault_addStep_8 ?_
  refine os_putI (C := "RobotFaults$Fault") (T := F_Fault) (N := 11) (ci := 4) (K := 10) (j := 9) (i := i) (v := (os_g σ 10 9 i) ||| (1 <<< (x &&& 31))) (ty := .int) hx hb hts i_Fault t_Fault t_Fault_ok n_Fault hown hK hV rfl rfl (by decide) hi (hts _ k_437) rfl rfl rfl (by decide +kernel) rfl rfl d_Fault_addStep_9 (fun H locs hV => ?_)
  refine lv_aload_n hx hb d_Fault_addStep_12 rfl (lv_at hl 0 rfl) ?_
  refine os_get (C := "RobotFaults$Fault") (T := F_Fault) (N := 11) (ci := 4) (K := 10) (j := 9) (i := i) (v := .int ((os_g σ 10 9 i) ||| (1 <<< (x &&& 31)))) hx hb hts i_Fault hown hK hV rfl rfl (by decide) hi (hts _ k_437) (os_fv_sgs (σ := σ) (ad := ad) (K := 10) (j := 9) (i := i) (v := (os_g σ 10 9 i) ||| (1 <<< (x &&& 31))) rfl rfl) d_Fault_addStep_13 ?_
  refine os_call (c_Integer_bitCount l hlt D cA bs (os_sg σ 10 9 i ((os_g σ 10 9 i) ||| (1 <<< (x &&& 31)))) ad ((os_g σ 10 9 i) ||| (1 <<< (x &&& 31)))) hE hV k_542 k_15 (os_inS (n := 1) (bytes := prog_13_method_49_code) (maxL := 1) (ret := (some .int)) hx hb hown (hts _ k_540) (hts _ k_541) (hts _ k_15) (hts _ k_542) (by decide +kernel) rfl rfl d_Fault_addStep_16) (hl.1.trans hml.symm) (Nat.le_of_ble_eq_true rfl) (Nat.le_of_ble_eq_true rfl) (Nat.le_of_ble_eq_true rfl) (Nat.le_of_ble_eq_true rfl) (Nat.le_of_ble_eq_true rfl) (fun v σ1 ad1 H locs hp hext hV => ?_) (fun E q ce σ1 ad1 H locs hp hext hV hce hcv hcl => ?_)
  · obtain ⟨rfl, rfl, hp⟩ := hp
    cases hp
    refine W.eq (g2 := F0 m 19 ls [.int (bitC ((os_g σ 10 9 i) ||| (1 <<< (x &&& 31))))]) rfl ?_
    refine lv_aload_n hx hb d_Fault_addStep_19 rfl (lv_at hl 0 rfl) ?_
    refine os_get (C := "RobotFaults$Fault") (T := F_Fault) (N := 11) (ci := 4) (K := 10) (j := 4) (i := i) (v := .int (os_g σ 10 4 i)) hx hb hts i_Fault hown hK hV rfl rfl (by decide) hi (hts _ k_428) rfl d_Fault_addStep_20 ?_
    refine lv_icmp_lt (tgt := 31) hx hb d_Fault_addStep_23 (by decide) (fun c_1 => ?_) (fun c_1 => ?_)
    · skip
      refine os_vret hx hb hr hlocks hV (Nat.le_of_ble_eq_true rfl) (Nat.le_of_ble_eq_true rfl) d_Fault_addStep_31 ?_
      exact ⟨by unfold fStep; simp [c_1], rfl, rfl⟩
    · skip
      refine lv_aload_n hx hb d_Fault_addStep_26 rfl (lv_at hl 0 rfl) ?_
      refine lv_iload_n hx hb d_Fault_addStep_27 rfl (lv_at hl 2 rfl) ?_
      refine os_putI (C := "RobotFaults$Fault") (T := F_Fault) (N := 11) (ci := 4) (K := 10) (j := 10) (i := i) (v := t) (ty := .int) hx hb hts i_Fault t_Fault t_Fault_ok n_Fault hown hK hV rfl rfl (by decide) hi (hts _ k_439) rfl rfl rfl (by decide +kernel) rfl rfl d_Fault_addStep_28 (fun H locs hV => ?_)
      refine os_vret hx hb hr hlocks hV (Nat.le_of_ble_eq_true rfl) (Nat.le_of_ble_eq_true rfl) d_Fault_addStep_31 ?_
      exact ⟨by unfold fStep; simp [c_1], rfl, rfl⟩
  · exact absurd hp.2.2 (fun h => by cases h)
