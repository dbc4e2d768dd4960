/-! WHAT IS MADE: alarms, faults, robots, planted faults -/
/-- the alarm t gets the fault f -/
def aJoin (σ : os_S) (t f : Nat) : os_S := os_sg (os_sg (os_sr σ 11 7 t (some f)) 11 5 t ((os_g σ 11 5 t) + 1)) 11 6 t (-1)
/-- a new alarm of the fault f -/
def aNew (σ : os_S) (f r9 : Nat) (q : Int32) : os_S := os_sg (os_sr (os_sr (os_sg (os_sg (os_sr (os_sg (os_sg (os_sg (os_sg (os_nw σ 11 0) 11 4 (os_n σ 11) 0) 11 5 (os_n σ 11) 1) 11 6 (os_n σ 11) (-1)) 11 0 (os_n σ 11) (os_g σ 0 8 0)) 11 1 (os_n σ 11) (some r9)) 11 2 (os_n σ 11) (os_g (os_nw σ 11 0) 10 2 f)) 11 3 (os_n σ 11) q) 11 7 (os_n σ 11) (some f)) 6 (os_n σ 11) 0 (some (os_n σ 11))) 0 8 0 ((os_g σ 0 8 0) + 1)
/-- the alarm that a fault joins: none, or t -/
def aJn (σ : os_S) (f r9 : Nat) (t : Nat) : Prop := laA σ r9 (os_g σ 10 2 f) 40 = some t ∧ ¬ 60 < os_g σ 0 10 0 - os_g σ 10 3 (aL σ t)
def q_alarmFor (σ : os_S) (f r9 : Nat) (q : Int32) : os_O → os_S → (Nat → Nat → Nat) → Prop := fun r σ' _ => (∃ t, aJn σ f r9 t ∧ aJoin σ t f = σ' ∧ r = .inl (some (.int (os_g σ 11 0 t)))) ∨ ((∀ t, ¬ aJn σ f r9 t) ∧ aNew σ f r9 q = σ' ∧ r = .inl (some (.int (os_g σ 0 8 0))))
set_option maxHeartbeats 4000000 in
set_option maxRecDepth 100000 in
theorem c_RF_alarmFor (l : Launch) (hlt : l.stackTraces = false) (D : va_G) (cA : Nat → ClassId) (bs : Nat) (σ : os_S) (ad : Nat → Nat → Nat) (f r9 : Nat) (q : Int32) (hA : rfA σ) (hL : rfL σ) (hf : f < os_n σ 10) (hr9 : r9 < os_n σ 9) (hfr : os_r σ 10 1 f = some r9) (hn : os_n σ 11 < 40) : os_Met l y_RF_alarmFor prog_1_method_36_code 5 (some .int) { frames := 2, cells := 1, slots := 8, locals := 60 } D cA bs [.ref (ad 0 0), .ref (ad 10 f), .int q] σ ad (q_alarmFor σ f r9 q) := by
  refine os_ofW (by decide) ?_
  intro p e s m below meth c hx hb hr hml hown hlocks hmn hout hE hV
  have hts := hE.hts (args := ([.ref (ad 0 0), .ref (ad 10 f), .int q] : List Value).toArray)
  have hK := hE.2.1
  have hbs := hE.2.2.1
  have hown : s.vm.findClass "RobotFaults" = some m.cls := hown
  have hl := lv_entry ([.ref (ad 0 0), .ref (ad 10 f), .int q]) (n := 5) (Nat.le_of_ble_eq_true rfl)
  rw [lg_entry_eq]
  generalize (lg_sl ([.ref (ad 0 0), .ref (ad 10 f), .int q]) ++ List.replicate (5 - (lg_sl ([.ref (ad 0 0), .ref (ad 10 f), .int q])).length) Slot.unset).toArray = ls at hl ⊢
  have hl : lv_has ls 5 [(0, .ref (ad 0 0)), (1, .ref (ad 10 f)), (2, .int q)] := hl
  refine lv_aload_n hx hb d_RF_alarmFor_0 rfl (lv_at hl 0 rfl) ?_
  refine lv_aload_n hx hb d_RF_alarmFor_1 rfl (lv_at hl 1 rfl) ?_
  refine os_getN (C := "RobotFaults$Fault") (T := F_Fault) (N := 11) (ci := 4) (K := 10) (j := 1) (i := f) (v := .ref (ad 9 r9)) hx hb hts i_Fault hown hK hV rfl rfl (by decide) hf (hts _ k_421) (congrArg (fun z => va_rf (Option.map (ad 9) z)) hfr) d_RF_alarmFor_2 ?_
  refine lv_aload_n hx hb d_RF_alarmFor_5 rfl (lv_at hl 1 rfl) ?_
  refine os_getN (C := "RobotFaults$Fault") (T := F_Fault) (N := 11) (ci := 4) (K := 10) (j := 2) (i := f) (v := .int (os_g σ 10 2 f)) hx hb hts i_Fault hown hK hV rfl rfl (by decide) hf (hts _ k_424) rfl d_RF_alarmFor_6 ?_
  refine os_call (c_RF_latestAlarm l hlt D cA bs σ ad r9 (os_g σ 10 2 f) hA hL hr9) hE hV k_471 k_1 (os_inV (C := "RobotFaults") (n := 2) (bytes := prog_1_method_37_code) (maxL := 8) (ret := (some (.object "RobotFaults$Alarm"))) hx hb hown (hts _ k_468) (hts _ k_470) (hts _ k_s11) (hts _ k_471) (by decide +kernel) rfl (os_recv hK hV rfl rfl (hA.n 0 (by decide))) rfl d_RF_alarmFor_9) (hl.1.trans hml.symm) (Nat.le_of_ble_eq_true rfl) (Nat.le_of_ble_eq_true rfl) (Nat.le_of_ble_eq_true rfl) (Nat.le_of_ble_eq_true rfl) (Nat.le_of_ble_eq_true rfl) (fun v σ1 ad1 H locs hp hext hV => ?_) (fun E q ce σ1 ad1 H locs hp hext hV hce hcv hcl => ?_)
  · obtain ⟨rfl, rfl, hp⟩ := hp
    cases hp
    cases q_1 : laA σ r9 (os_g σ 10 2 f) 40 with
    | none =>
      refine W.eq (g2 := F0 m 12 ls [.null]) rfl ?_
      refine lv_astore_nN (lv' := [(3, .null), (0, .ref (ad 0 0)), (1, .ref (ad 10 f)), (2, .int q)]) hx hb d_RF_alarmFor_12 rfl hl (by decide) rfl (fun ls hl => ?_)
      refine lv_aload_nN hx hb d_RF_alarmFor_13 rfl (lv_at hl 0 rfl) ?_
      refine lv_ifnullN (tgt := 44) hx hb d_RF_alarmFor_14 (by decide) ?_
      refine os_new (C := "RobotFaults$Alarm") (T := F_Alarm) (N := 8) (ci := 5) (K := 11) hx hb hts i_Alarm t_Alarm t_Alarm_ok hown (hts _ k_46) (hts _ k_476) (hts _ k_14) hK hbs hV rfl rfl (by decide) (Nat.le_of_ble_eq_true rfl) (Nat.le_of_ble_eq_true rfl) d_RF_alarmFor_44 (fun ad_3 H hV hAd_4 => ?_)
      have hl : lv_has ls 5 [(3, .null), (0, .ref (ad_3 0 0)), (1, .ref (ad_3 10 f)), (2, .int q)] := by rw [hAd_4 0 0 (hA.n 0 (by decide)), hAd_4 10 f hf]; exact hl
      refine W.eq (g2 := F0 m 47 ls [.ref (ad_3 11 (os_n σ 11))]) rfl ?_
      refine lv_dup hx hb d_RF_alarmFor_47 rfl ?_
      refine lv_aload_n hx hb d_RF_alarmFor_48 rfl (lv_at hl 1 rfl) ?_
      refine os_get (C := "RobotFaults") (T := F_RF) (N := 11) (ci := 0) (K := 0) (j := 8) (i := 0) (v := .int (os_g σ 0 8 0)) hx hb hts i_RF hown hK hV rfl rfl (by decide) (hA.n 0 (by decide)) (hts _ k_76) rfl d_RF_alarmFor_49 ?_
      refine lv_aload_n hx hb d_RF_alarmFor_52 rfl (lv_at hl 2 rfl) ?_
      refine lv_iload_n hx hb d_RF_alarmFor_53 rfl (lv_at hl 3 rfl) ?_
      refine os_call (c_Alarm_init l hlt D cA bs (os_nw σ 11 0) ad_3 (os_n σ 11) f r9 (os_g σ 0 8 0) q (os_n_new (σ := σ) (K := 11) (L := 0)) hf hr9 hfr) hE hV k_479 k_14 (os_inI (n := 3) (bytes := prog_2_method_1_code) (maxL := 4) hx hb hown (hts _ k_477) rfl (hts _ k_478) (hts _ k_479) (by decide +kernel) rfl rfl d_RF_alarmFor_54) (hl.1.trans hml.symm) (Nat.le_of_ble_eq_true rfl) (Nat.le_of_ble_eq_true rfl) (Nat.le_of_ble_eq_true rfl) (Nat.le_of_ble_eq_true rfl) (Nat.le_of_ble_eq_true rfl) (fun v σ1 ad1 H locs hp hext hV => ?_) (fun E q ce σ1 ad1 H locs hp hext hV hce hcv hcl => ?_)
      · obtain ⟨rfl, rfl, hp⟩ := hp
        cases hp
        refine W.eq (g2 := F0 m 57 ls [.ref (ad_3 11 (os_n σ 11))]) rfl ?_
        refine lv_astore (lv' := [(4, .ref (ad_3 11 (os_n σ 11))), (3, .null), (0, .ref (ad_3 0 0)), (1, .ref (ad_3 10 f)), (2, .int q)]) hx hb d_RF_alarmFor_57 hl (by decide) rfl (fun ls hl => ?_)
        refine lv_aload_n hx hb d_RF_alarmFor_59 rfl (lv_at hl 2 rfl) ?_
        refine os_get (C := "RobotFaults") (T := F_RF) (N := 11) (ci := 0) (K := 0) (j := 4) (i := 0) (v := .ref (ad_3 6 0)) hx hb hts i_RF hown hK hV rfl rfl (by decide) (hA.n 0 (by decide)) (hts _ k_72) (congrArg (fun z => va_rf (Option.map (ad_3 6) z)) (hA.r 4 (by decide))) d_RF_alarmFor_60 ?_
        refine lv_aload_n hx hb d_RF_alarmFor_63 rfl (lv_at hl 2 rfl) ?_
        refine os_get (C := "RobotFaults") (T := F_RF) (N := 11) (ci := 0) (K := 0) (j := 8) (i := 0) (v := .int (os_g σ 0 8 0)) hx hb hts i_RF hown hK hV rfl rfl (by decide) (hA.n 0 (by decide)) (hts _ k_76) rfl d_RF_alarmFor_64 ?_
        refine lv_aload hx hb d_RF_alarmFor_67 (lv_at hl 0 rfl) ?_
        refine os_aastK (K := 6) (i := 0) (t0 := 6) (n := (os_n σ 11)) hx hb hK hV rfl rfl rfl rfl (hA.n 6 (by decide)) (os_n_new (σ := σ) (K := 11) (L := 0)) (show os_g σ 0 8 0 = nI (os_n σ 11) from hL.1.2.1) (by rw [show os_l (os_sr (os_sg (os_sg (os_sr (os_sg (os_sg (os_sg (os_sg (os_nw σ 11 0) 11 4 (os_n σ 11) 0) 11 5 (os_n σ 11) 1) 11 6 (os_n σ 11) (-1)) 11 0 (os_n σ 11) (os_g σ 0 8 0)) 11 1 (os_n σ 11) (some r9)) 11 2 (os_n σ 11) (os_g (os_nw σ 11 0) 10 2 f)) 11 3 (os_n σ 11) q) 11 7 (os_n σ 11) (some f)) 6 0 = 40 from hA.l6]; exact hn) (by rw [show os_l (os_sr (os_sg (os_sg (os_sr (os_sg (os_sg (os_sg (os_sg (os_nw σ 11 0) 11 4 (os_n σ 11) 0) 11 5 (os_n σ 11) 1) 11 6 (os_n σ 11) (-1)) 11 0 (os_n σ 11) (os_g σ 0 8 0)) 11 1 (os_n σ 11) (some r9)) 11 2 (os_n σ 11) (os_g (os_nw σ 11 0) 10 2 f)) 11 3 (os_n σ 11) q) 11 7 (os_n σ 11) (some f)) 6 0 = 40 from hA.l6]; decide) d_RF_alarmFor_69 (fun H locs hV => ?_)
        refine lv_aload_n hx hb d_RF_alarmFor_70 rfl (lv_at hl 2 rfl) ?_
        refine lv_dup hx hb d_RF_alarmFor_71 rfl ?_
        refine os_get (C := "RobotFaults") (T := F_RF) (N := 11) (ci := 0) (K := 0) (j := 8) (i := 0) (v := .int (os_g σ 0 8 0)) hx hb hts i_RF hown hK hV rfl rfl (by decide) (hA.n 0 (by decide)) (hts _ k_76) rfl d_RF_alarmFor_72 ?_
        refine lv_iconst (v := 1) hx hb d_RF_alarmFor_75 (by decide) ?_
        refine lv_iadd hx hb d_RF_alarmFor_76 ?_
        refine os_putI (C := "RobotFaults") (T := F_RF) (N := 11) (ci := 0) (K := 0) (j := 8) (i := 0) (v := (os_g σ 0 8 0) + 1) (ty := .int) hx hb hts i_RF t_RF t_RF_ok n_RF hown hK hV rfl rfl (by decide) (hA.n 0 (by decide)) (hts _ k_76) rfl rfl rfl (by decide +kernel) rfl rfl d_RF_alarmFor_77 (fun H locs hV => ?_)
        refine lv_aload hx hb d_RF_alarmFor_80 (lv_at hl 0 rfl) ?_
        refine os_getN (C := "RobotFaults$Alarm") (T := F_Alarm) (N := 8) (ci := 5) (K := 11) (j := 0) (i := (os_n σ 11)) (v := .int (os_g σ 0 8 0)) hx hb hts i_Alarm hown hK hV rfl rfl (by decide) (os_n_new (σ := σ) (K := 11) (L := 0)) (hts _ k_482) (os_fv_sgs (σ := os_sg (os_sg (os_sg (os_nw σ 11 0) 11 4 (os_n σ 11) 0) 11 5 (os_n σ 11) 1) 11 6 (os_n σ 11) (-1)) (ad := ad_3) (K := 11) (j := 0) (i := os_n σ 11) (v := os_g σ 0 8 0) rfl rfl) d_RF_alarmFor_82 ?_
        refine os_iret hx hb hr hlocks hV (Nat.le_of_ble_eq_true rfl) (Nat.le_of_ble_eq_true rfl) d_RF_alarmFor_85 ?_
        exact Or.inr ⟨fun t h => (nomatch h.1.symm.trans q_1), rfl, rfl⟩
      · exact absurd hp.2.2 (fun h => by cases h)
    | some t_2 =>
      refine W.eq (g2 := F0 m 12 ls [.ref (ad 11 t_2)]) rfl ?_
      refine lv_astore_n (lv' := [(3, .ref (ad 11 t_2)), (0, .ref (ad 0 0)), (1, .ref (ad 10 f)), (2, .int q)]) hx hb d_RF_alarmFor_12 rfl hl (by decide) rfl (fun ls hl => ?_)
      refine lv_aload_n hx hb d_RF_alarmFor_13 rfl (lv_at hl 0 rfl) ?_
      refine lv_ifnull hx hb d_RF_alarmFor_14 ?_
      refine lv_aload_n hx hb d_RF_alarmFor_17 rfl (lv_at hl 1 rfl) ?_
      refine os_get (C := "RobotFaults") (T := F_RF) (N := 11) (ci := 0) (K := 0) (j := 10) (i := 0) (v := .int (os_g σ 0 10 0)) hx hb hts i_RF hown hK hV rfl rfl (by decide) (hA.n 0 (by decide)) (hts _ k_78) rfl d_RF_alarmFor_18 ?_
      refine lv_aload_n hx hb d_RF_alarmFor_21 rfl (lv_at hl 0 rfl) ?_
      refine os_getN (C := "RobotFaults$Alarm") (T := F_Alarm) (N := 8) (ci := 5) (K := 11) (j := 7) (i := t_2) (v := .ref (ad 10 (aL σ t_2))) hx hb hts i_Alarm hown hK hV rfl rfl (by decide) (laA_is q_1).2.1 (hts _ k_496) (congrArg (fun z => va_rf (Option.map (ad 10) z)) (hL.2.2 t_2 (laA_is q_1).2.1)) d_RF_alarmFor_22 ?_
      refine os_getN (C := "RobotFaults$Fault") (T := F_Fault) (N := 11) (ci := 4) (K := 10) (j := 3) (i := (aL σ t_2)) (v := .int (os_g σ 10 3 (aL σ t_2))) hx hb hts i_Fault hown hK hV rfl rfl (by decide) (hV.1.2.2.1 11 t_2 (laA_is q_1).2.1 7 10 _ rfl (hL.2.2 t_2 (laA_is q_1).2.1)) (hts _ k_427) rfl d_RF_alarmFor_25 ?_
      refine lv_isub hx hb d_RF_alarmFor_28 ?_
      refine lv_bipush (v := 60) hx hb d_RF_alarmFor_29 (by decide) ?_
      refine lv_icmp_gt (tgt := 44) hx hb d_RF_alarmFor_31 (by decide) (fun c_5 => ?_) (fun c_5 => ?_)
      · skip
        refine os_new (C := "RobotFaults$Alarm") (T := F_Alarm) (N := 8) (ci := 5) (K := 11) hx hb hts i_Alarm t_Alarm t_Alarm_ok hown (hts _ k_46) (hts _ k_476) (hts _ k_14) hK hbs hV rfl rfl (by decide) (Nat.le_of_ble_eq_true rfl) (Nat.le_of_ble_eq_true rfl) d_RF_alarmFor_44 (fun ad_6 H hV hAd_7 => ?_)
        have hl : lv_has ls 5 [(3, .ref (ad_6 11 t_2)), (0, .ref (ad_6 0 0)), (1, .ref (ad_6 10 f)), (2, .int q)] := by rw [hAd_7 11 t_2 (laA_is q_1).2.1, hAd_7 0 0 (hA.n 0 (by decide)), hAd_7 10 f hf]; exact hl
        refine W.eq (g2 := F0 m 47 ls [.ref (ad_6 11 (os_n σ 11))]) rfl ?_
        refine lv_dup hx hb d_RF_alarmFor_47 rfl ?_
        refine lv_aload_n hx hb d_RF_alarmFor_48 rfl (lv_at hl 1 rfl) ?_
        refine os_get (C := "RobotFaults") (T := F_RF) (N := 11) (ci := 0) (K := 0) (j := 8) (i := 0) (v := .int (os_g σ 0 8 0)) hx hb hts i_RF hown hK hV rfl rfl (by decide) (hA.n 0 (by decide)) (hts _ k_76) rfl d_RF_alarmFor_49 ?_
        refine lv_aload_n hx hb d_RF_alarmFor_52 rfl (lv_at hl 2 rfl) ?_
        refine lv_iload_n hx hb d_RF_alarmFor_53 rfl (lv_at hl 3 rfl) ?_
        refine os_call (c_Alarm_init l hlt D cA bs (os_nw σ 11 0) ad_6 (os_n σ 11) f r9 (os_g σ 0 8 0) q (os_n_new (σ := σ) (K := 11) (L := 0)) hf hr9 hfr) hE hV k_479 k_14 (os_inI (n := 3) (bytes := prog_2_method_1_code) (maxL := 4) hx hb hown (hts _ k_477) rfl (hts _ k_478) (hts _ k_479) (by decide +kernel) rfl rfl d_RF_alarmFor_54) (hl.1.trans hml.symm) (Nat.le_of_ble_eq_true rfl) (Nat.le_of_ble_eq_true rfl) (Nat.le_of_ble_eq_true rfl) (Nat.le_of_ble_eq_true rfl) (Nat.le_of_ble_eq_true rfl) (fun v σ1 ad1 H locs hp hext hV => ?_) (fun E q ce σ1 ad1 H locs hp hext hV hce hcv hcl => ?_)
        · obtain ⟨rfl, rfl, hp⟩ := hp
          cases hp
          refine W.eq (g2 := F0 m 57 ls [.ref (ad_6 11 (os_n σ 11))]) rfl ?_
          refine lv_astore (lv' := [(4, .ref (ad_6 11 (os_n σ 11))), (3, .ref (ad_6 11 t_2)), (0, .ref (ad_6 0 0)), (1, .ref (ad_6 10 f)), (2, .int q)]) hx hb d_RF_alarmFor_57 hl (by decide) rfl (fun ls hl => ?_)
          refine lv_aload_n hx hb d_RF_alarmFor_59 rfl (lv_at hl 2 rfl) ?_
          refine os_get (C := "RobotFaults") (T := F_RF) (N := 11) (ci := 0) (K := 0) (j := 4) (i := 0) (v := .ref (ad_6 6 0)) hx hb hts i_RF hown hK hV rfl rfl (by decide) (hA.n 0 (by decide)) (hts _ k_72) (congrArg (fun z => va_rf (Option.map (ad_6 6) z)) (hA.r 4 (by decide))) d_RF_alarmFor_60 ?_
          refine lv_aload_n hx hb d_RF_alarmFor_63 rfl (lv_at hl 2 rfl) ?_
          refine os_get (C := "RobotFaults") (T := F_RF) (N := 11) (ci := 0) (K := 0) (j := 8) (i := 0) (v := .int (os_g σ 0 8 0)) hx hb hts i_RF hown hK hV rfl rfl (by decide) (hA.n 0 (by decide)) (hts _ k_76) rfl d_RF_alarmFor_64 ?_
          refine lv_aload hx hb d_RF_alarmFor_67 (lv_at hl 0 rfl) ?_
          refine os_aastK (K := 6) (i := 0) (t0 := 6) (n := (os_n σ 11)) hx hb hK hV rfl rfl rfl rfl (hA.n 6 (by decide)) (os_n_new (σ := σ) (K := 11) (L := 0)) (show os_g σ 0 8 0 = nI (os_n σ 11) from hL.1.2.1) (by rw [show os_l (os_sr (os_sg (os_sg (os_sr (os_sg (os_sg (os_sg (os_sg (os_nw σ 11 0) 11 4 (os_n σ 11) 0) 11 5 (os_n σ 11) 1) 11 6 (os_n σ 11) (-1)) 11 0 (os_n σ 11) (os_g σ 0 8 0)) 11 1 (os_n σ 11) (some r9)) 11 2 (os_n σ 11) (os_g (os_nw σ 11 0) 10 2 f)) 11 3 (os_n σ 11) q) 11 7 (os_n σ 11) (some f)) 6 0 = 40 from hA.l6]; exact hn) (by rw [show os_l (os_sr (os_sg (os_sg (os_sr (os_sg (os_sg (os_sg (os_sg (os_nw σ 11 0) 11 4 (os_n σ 11) 0) 11 5 (os_n σ 11) 1) 11 6 (os_n σ 11) (-1)) 11 0 (os_n σ 11) (os_g σ 0 8 0)) 11 1 (os_n σ 11) (some r9)) 11 2 (os_n σ 11) (os_g (os_nw σ 11 0) 10 2 f)) 11 3 (os_n σ 11) q) 11 7 (os_n σ 11) (some f)) 6 0 = 40 from hA.l6]; decide) d_RF_alarmFor_69 (fun H locs hV => ?_)
          refine lv_aload_n hx hb d_RF_alarmFor_70 rfl (lv_at hl 2 rfl) ?_
          refine lv_dup hx hb d_RF_alarmFor_71 rfl ?_
          refine os_get (C := "RobotFaults") (T := F_RF) (N := 11) (ci := 0) (K := 0) (j := 8) (i := 0) (v := .int (os_g σ 0 8 0)) hx hb hts i_RF hown hK hV rfl rfl (by decide) (hA.n 0 (by decide)) (hts _ k_76) rfl d_RF_alarmFor_72 ?_
          refine lv_iconst (v := 1) hx hb d_RF_alarmFor_75 (by decide) ?_
          refine lv_iadd hx hb d_RF_alarmFor_76 ?_
          refine os_putI (C := "RobotFaults") (T := F_RF) (N := 11) (ci := 0) (K := 0) (j := 8) (i := 0) (v := (os_g σ 0 8 0) + 1) (ty := .int) hx hb hts i_RF t_RF t_RF_ok n_RF hown hK hV rfl rfl (by decide) (hA.n 0 (by decide)) (hts _ k_76) rfl rfl rfl (by decide +kernel) rfl rfl d_RF_alarmFor_77 (fun H locs hV => ?_)
          refine lv_aload hx hb d_RF_alarmFor_80 (lv_at hl 0 rfl) ?_
          refine os_getN (C := "RobotFaults$Alarm") (T := F_Alarm) (N := 8) (ci := 5) (K := 11) (j := 0) (i := (os_n σ 11)) (v := .int (os_g σ 0 8 0)) hx hb hts i_Alarm hown hK hV rfl rfl (by decide) (os_n_new (σ := σ) (K := 11) (L := 0)) (hts _ k_482) (os_fv_sgs (σ := os_sg (os_sg (os_sg (os_nw σ 11 0) 11 4 (os_n σ 11) 0) 11 5 (os_n σ 11) 1) 11 6 (os_n σ 11) (-1)) (ad := ad_6) (K := 11) (j := 0) (i := os_n σ 11) (v := os_g σ 0 8 0) rfl rfl) d_RF_alarmFor_82 ?_
          refine os_iret hx hb hr hlocks hV (Nat.le_of_ble_eq_true rfl) (Nat.le_of_ble_eq_true rfl) d_RF_alarmFor_85 ?_
          exact Or.inr ⟨(fun t h => by have h1 := h.1.symm.trans q_1; cases h1; exact h.2 c_5), rfl, rfl⟩
        · exact absurd hp.2.2 (fun h => by cases h)
      · skip
        refine lv_aload_n hx hb d_RF_alarmFor_34 rfl (lv_at hl 0 rfl) ?_
        refine lv_aload_n hx hb d_RF_alarmFor_35 rfl (lv_at hl 2 rfl) ?_
        refine os_call (c_Alarm_join l hlt D cA bs σ ad t_2 f (laA_is q_1).2.1 hf) hE hV k_475 k_14 (os_inV (C := "RobotFaults$Alarm") (n := 1) (bytes := prog_2_method_3_code) (maxL := 2) (ret := none) hx hb hown (hts _ k_472) (hts _ k_473) (hts _ k_474) (hts _ k_475) (by decide +kernel) rfl (os_recv hK hV rfl rfl (laA_is q_1).2.1) rfl d_RF_alarmFor_36) (hl.1.trans hml.symm) (Nat.le_of_ble_eq_true rfl) (Nat.le_of_ble_eq_true rfl) (Nat.le_of_ble_eq_true rfl) (Nat.le_of_ble_eq_true rfl) (Nat.le_of_ble_eq_true rfl) (fun v σ1 ad1 H locs hp hext hV => ?_) (fun E q ce σ1 ad1 H locs hp hext hV hce hcv hcl => ?_)
        · obtain ⟨rfl, rfl, hp⟩ := hp
          cases hp
          refine W.eq (g2 := F0 m 39 ls []) rfl ?_
          refine lv_aload_n hx hb d_RF_alarmFor_39 rfl (lv_at hl 0 rfl) ?_
          refine os_getN (C := "RobotFaults$Alarm") (T := F_Alarm) (N := 8) (ci := 5) (K := 11) (j := 0) (i := t_2) (v := .int (os_g σ 11 0 t_2)) hx hb hts i_Alarm hown hK hV rfl rfl (by decide) (laA_is q_1).2.1 (hts _ k_482) rfl d_RF_alarmFor_40 ?_
          refine os_iret hx hb hr hlocks hV (Nat.le_of_ble_eq_true rfl) (Nat.le_of_ble_eq_true rfl) d_RF_alarmFor_43 ?_
          exact Or.inl ⟨t_2, ⟨q_1, c_5⟩, rfl, rfl⟩
        · exact absurd hp.2.2 (fun h => by cases h)
  · exact absurd hp.2.2 (fun h => by cases h)
