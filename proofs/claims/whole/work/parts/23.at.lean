/-! WHO IS THERE: robots, faults, alarms by their numbers -/
/-- the objects of a kind stand in an array in the order of their making -/
def rfS (σ : os_S) (Ka K N cf : Nat) : Prop := os_n σ K ≤ N ∧ os_g σ 0 cf 0 = nI (os_n σ K) ∧ ∀ j, j < N → os_r σ Ka j 0 = if j < os_n σ K then some j else none
/-- it changes nothing; it answers the object that has this number, else throws -/
def pr (σ : os_S) (ad : Nat → Nat → Nat) (K : Nat) (x : Int32) (o : Nat) (E : String) : os_O → os_S → (Nat → Nat → Nat) → Prop := fun r σ' ad' => σ = σ' ∧ ad = ad' ∧ ((∃ i, i < os_n σ K ∧ x = nI (i + o) ∧ r = .inl (some (.ref (ad K i)))) ∨ ((∀ i, i < os_n σ K → ¬ x = nI (i + o)) ∧ r = .inr E))
theorem rfS.yes {σ : os_S} {Ka K N cf j t : Nat} (h : rfS σ Ka K N cf) (hj : j < N) (q : os_r σ Ka j 0 = some t) : t = j ∧ j < os_n σ K := by
  rw [h.2.2 j hj] at q
  split at q
  · cases q; exact ⟨rfl, ‹_›⟩
  · cases q
theorem rfS.no {σ : os_S} {Ka K N cf j : Nat} (h : rfS σ Ka K N cf) (hj : j < N) (q : os_r σ Ka j 0 = none) : os_n σ K ≤ j := by
  rw [h.2.2 j hj] at q
  split at q
  · cases q
  · omega
theorem rng1 {x M : Int32} {N : Nat} (hM : M = nI N) (hN : N < 2 ^ 31) (h0 : ¬ x < 1) (h1 : ¬ M < x) : ∃ n, n < N ∧ x = nI (n + 1) := by
  subst hM
  have h2 : ¬ x < 0 := fun h => h0 (Int32.lt_of_lt_of_le h (by decide))
  obtain ⟨j, hj, rfl⟩ := nI_of h2
  have h3 : ¬ j < 1 := fun h => h0 (nI_lt (b := 1) h (by decide))
  have h4 : ¬ N < j := fun h => h1 (nI_lt h hj)
  exact ⟨j - 1, by omega, by rw [show j - 1 + 1 = j by omega]⟩
set_option maxHeartbeats 4000000 in
set_option maxRecDepth 100000 in
theorem c_RF_robotAt (l : Launch) (hlt : l.stackTraces = false) (D : va_G) (cA : Nat → ClassId) (bs : Nat) (σ : os_S) (ad : Nat → Nat → Nat) (x : Int32) (hA : rfA σ) (hR : rfS σ 4 9 8 6) : os_Met l y_RF_robotAt prog_1_method_24_code 3 (some (.object "RobotFaults$Robot")) { frames := 6, cells := 1, slots := 6, locals := 96 } D cA bs [.ref (ad 0 0), .int x] σ ad (pr σ ad 9 x 0 "java/util/NoSuchElementException") := by
  refine os_ofW (by decide) ?_
  intro p e s m below meth c hx hb hr hml hown hlocks hmn hout hE hV
  have hts := hE.hts (args := ([.ref (ad 0 0), .int x] : List Value).toArray)
  have hK := hE.2.1
  have hbs := hE.2.2.1
  have hown : s.vm.findClass "RobotFaults" = some m.cls := hown
  have hl := lv_entry ([.ref (ad 0 0), .int x]) (n := 3) (Nat.le_of_ble_eq_true rfl)
  rw [lg_entry_eq]
  generalize (lg_sl ([.ref (ad 0 0), .int x]) ++ List.replicate (3 - (lg_sl ([.ref (ad 0 0), .int x])).length) Slot.unset).toArray = ls at hl ⊢
  have hl : lv_has ls 3 [(0, .ref (ad 0 0)), (1, .int x)] := hl
  refine lv_iload_n hx hb d_RF_robotAt_0 rfl (lv_at hl 1 rfl) ?_
  refine lv_if_lt (tgt := 22) hx hb d_RF_robotAt_1 (by decide) (fun c_1 => ?_) (fun c_1 => ?_)
  · skip
    refine lv_null hx hb d_RF_robotAt_22 ?_
    refine lv_astore_nN (lv' := [(2, .null), (0, .ref (ad 0 0)), (1, .int x)]) hx hb d_RF_robotAt_23 rfl hl (by decide) rfl (fun ls hl => ?_)
    refine lv_aload_nN hx hb d_RF_robotAt_24 rfl (lv_at hl 0 rfl) ?_
    refine lv_ifnonnullN hx hb d_RF_robotAt_25 ?_
    refine os_throwNW (text := "there is no such robot") hx hb hlt hown hE hV k_245 k_9 (by decide +kernel) (hl.1.trans hml.symm) d_RF_robotAt_28 d_RF_robotAt_31 d_RF_robotAt_32 d_RF_robotAt_35 d_RF_robotAt_38 hout hlocks (Nat.le_of_ble_eq_true rfl) (Nat.le_of_ble_eq_true rfl) (Nat.le_of_ble_eq_true rfl) (Nat.le_of_ble_eq_true rfl) (Nat.le_of_ble_eq_true rfl) (Nat.le_of_ble_eq_true rfl) ?_
    exact ⟨rfl, rfl, Or.inr ⟨fun i hi h => by have h9 := hR.1; subst h; first | exact absurd c_1 (nI_pos (by omega)) | exact absurd c_1 (nI_nlt (b := 1) (by omega) (by omega)) | exact absurd c_1 (nI_ge (b := 8) (by omega) (by decide)) | exact absurd c_1 (nI_nlt (a := 8) (by omega) (by decide)), rfl⟩⟩
  · skip
    refine lv_iload_n hx hb d_RF_robotAt_4 rfl (lv_at hl 1 rfl) ?_
    refine lv_aload_n hx hb d_RF_robotAt_5 rfl (lv_at hl 0 rfl) ?_
    refine os_get (C := "RobotFaults") (T := F_RF) (N := 11) (ci := 0) (K := 0) (j := 2) (i := 0) (v := .ref (ad 4 0)) hx hb hts i_RF hown hK hV rfl rfl (by decide) (hA.n 0 (by decide)) (hts _ k_70) (congrArg (fun z => va_rf (Option.map (ad 4) z)) (hA.r 2 (by decide))) d_RF_robotAt_6 ?_
    refine os_alen (K := 4) (i := 0) (t0 := 4) (v := 8) hx hb hK hV rfl rfl (hA.n 4 (by decide)) (congrArg Int32.ofNat hA.l4) d_RF_robotAt_9 ?_
    refine lv_icmp_ge (tgt := 22) hx hb d_RF_robotAt_10 (by decide) (fun c_2 => ?_) (fun c_2 => ?_)
    · skip
      refine lv_null hx hb d_RF_robotAt_22 ?_
      refine lv_astore_nN (lv' := [(2, .null), (0, .ref (ad 0 0)), (1, .int x)]) hx hb d_RF_robotAt_23 rfl hl (by decide) rfl (fun ls hl => ?_)
      refine lv_aload_nN hx hb d_RF_robotAt_24 rfl (lv_at hl 0 rfl) ?_
      refine lv_ifnonnullN hx hb d_RF_robotAt_25 ?_
      refine os_throwNW (text := "there is no such robot") hx hb hlt hown hE hV k_245 k_9 (by decide +kernel) (hl.1.trans hml.symm) d_RF_robotAt_28 d_RF_robotAt_31 d_RF_robotAt_32 d_RF_robotAt_35 d_RF_robotAt_38 hout hlocks (Nat.le_of_ble_eq_true rfl) (Nat.le_of_ble_eq_true rfl) (Nat.le_of_ble_eq_true rfl) (Nat.le_of_ble_eq_true rfl) (Nat.le_of_ble_eq_true rfl) (Nat.le_of_ble_eq_true rfl) ?_
      exact ⟨rfl, rfl, Or.inr ⟨fun i hi h => by have h9 := hR.1; subst h; first | exact absurd c_2 (nI_pos (by omega)) | exact absurd c_2 (nI_nlt (b := 1) (by omega) (by omega)) | exact absurd c_2 (nI_ge (b := 8) (by omega) (by decide)) | exact absurd c_2 (nI_nlt (a := 8) (by omega) (by decide)), rfl⟩⟩
    · skip
      refine lv_aload_n hx hb d_RF_robotAt_13 rfl (lv_at hl 0 rfl) ?_
      refine os_get (C := "RobotFaults") (T := F_RF) (N := 11) (ci := 0) (K := 0) (j := 2) (i := 0) (v := .ref (ad 4 0)) hx hb hts i_RF hown hK hV rfl rfl (by decide) (hA.n 0 (by decide)) (hts _ k_70) (congrArg (fun z => va_rf (Option.map (ad 4) z)) (hA.r 2 (by decide))) d_RF_robotAt_14 ?_
      refine lv_iload_n hx hb d_RF_robotAt_17 rfl (lv_at hl 1 rfl) ?_
      obtain ⟨n, hn, hxn⟩ := rng (N := 8) rfl (by decide) c_1 c_2
      refine os_aaldN (K := 4) (i := 0) (t0 := 4) (n := n) hx hb hK hV rfl rfl (hA.n 4 (by decide)) hxn (by rw [show os_l σ 4 0 = 8 from hA.l4]; exact hn) (by rw [show os_l σ 4 0 = 8 from hA.l4]; decide) d_RF_robotAt_18 ?_
      refine lv_goto (tgt := 23) hx hb d_RF_robotAt_19 (by decide) ?_
      cases q_3 : os_r σ 4 n 0 with
      | none =>
        refine lv_astore_nN (lv' := [(2, .null), (0, .ref (ad 0 0)), (1, .int x)]) hx hb d_RF_robotAt_23 rfl hl (by decide) rfl (fun ls hl => ?_)
        refine lv_aload_nN hx hb d_RF_robotAt_24 rfl (lv_at hl 0 rfl) ?_
        refine lv_ifnonnullN hx hb d_RF_robotAt_25 ?_
        refine os_throwNW (text := "there is no such robot") hx hb hlt hown hE hV k_245 k_9 (by decide +kernel) (hl.1.trans hml.symm) d_RF_robotAt_28 d_RF_robotAt_31 d_RF_robotAt_32 d_RF_robotAt_35 d_RF_robotAt_38 hout hlocks (Nat.le_of_ble_eq_true rfl) (Nat.le_of_ble_eq_true rfl) (Nat.le_of_ble_eq_true rfl) (Nat.le_of_ble_eq_true rfl) (Nat.le_of_ble_eq_true rfl) (Nat.le_of_ble_eq_true rfl) ?_
        have h1 := hR.no hn q_3
        exact ⟨rfl, rfl, Or.inr ⟨fun i hi h => by have h2 := nI_inj (h.symm.trans hxn) (by have := hR.1; omega) (by omega); omega, rfl⟩⟩
      | some t_4 =>
        refine lv_astore_n (lv' := [(2, .ref (ad 9 t_4)), (0, .ref (ad 0 0)), (1, .int x)]) hx hb d_RF_robotAt_23 rfl hl (by decide) rfl (fun ls hl => ?_)
        refine lv_aload_n hx hb d_RF_robotAt_24 rfl (lv_at hl 0 rfl) ?_
        refine lv_ifnonnull (tgt := 39) hx hb d_RF_robotAt_25 (by decide) ?_
        refine lv_aload_n hx hb d_RF_robotAt_39 rfl (lv_at hl 0 rfl) ?_
        refine os_aret hx hb hr (Or.inl ⟨_, rfl⟩) (Or.inr ⟨_, rfl⟩) hlocks hV (Nat.le_of_ble_eq_true rfl) (Nat.le_of_ble_eq_true rfl) d_RF_robotAt_40 ?_
        obtain ⟨h1, h2⟩ := hR.yes hn q_3
        subst h1
        exact ⟨rfl, rfl, Or.inl ⟨_, h2, hxn, rfl⟩⟩
set_option maxHeartbeats 4000000 in
set_option maxRecDepth 100000 in
theorem c_RF_alarmAt (l : Launch) (hlt : l.stackTraces = false) (D : va_G) (cA : Nat → ClassId) (bs : Nat) (σ : os_S) (ad : Nat → Nat → Nat) (x : Int32) (hA : rfA σ) (hR : rfS σ 6 11 40 8) : os_Met l y_RF_alarmAt prog_1_method_26_code 3 (some (.object "RobotFaults$Alarm")) { frames := 6, cells := 1, slots := 6, locals := 96 } D cA bs [.ref (ad 0 0), .int x] σ ad (pr σ ad 11 x 0 "java/util/NoSuchElementException") := by
  refine os_ofW (by decide) ?_
  intro p e s m below meth c hx hb hr hml hown hlocks hmn hout hE hV
  have hts := hE.hts (args := ([.ref (ad 0 0), .int x] : List Value).toArray)
  have hK := hE.2.1
  have hbs := hE.2.2.1
  have hown : s.vm.findClass "RobotFaults" = some m.cls := hown
  have hl := lv_entry ([.ref (ad 0 0), .int x]) (n := 3) (Nat.le_of_ble_eq_true rfl)
  rw [lg_entry_eq]
  generalize (lg_sl ([.ref (ad 0 0), .int x]) ++ List.replicate (3 - (lg_sl ([.ref (ad 0 0), .int x])).length) Slot.unset).toArray = ls at hl ⊢
  have hl : lv_has ls 3 [(0, .ref (ad 0 0)), (1, .int x)] := hl
  refine lv_iload_n hx hb d_RF_alarmAt_0 rfl (lv_at hl 1 rfl) ?_
  refine lv_if_lt (tgt := 22) hx hb d_RF_alarmAt_1 (by decide) (fun c_1 => ?_) (fun c_1 => ?_)
  · skip
    refine lv_null hx hb d_RF_alarmAt_22 ?_
    refine lv_astore_nN (lv' := [(2, .null), (0, .ref (ad 0 0)), (1, .int x)]) hx hb d_RF_alarmAt_23 rfl hl (by decide) rfl (fun ls hl => ?_)
    refine lv_aload_nN hx hb d_RF_alarmAt_24 rfl (lv_at hl 0 rfl) ?_
    refine lv_ifnonnullN hx hb d_RF_alarmAt_25 ?_
    refine os_throwNW (text := "there is no such alarm") hx hb hlt hown hE hV k_245 k_9 (by decide +kernel) (hl.1.trans hml.symm) d_RF_alarmAt_28 d_RF_alarmAt_31 d_RF_alarmAt_32 d_RF_alarmAt_35 d_RF_alarmAt_38 hout hlocks (Nat.le_of_ble_eq_true rfl) (Nat.le_of_ble_eq_true rfl) (Nat.le_of_ble_eq_true rfl) (Nat.le_of_ble_eq_true rfl) (Nat.le_of_ble_eq_true rfl) (Nat.le_of_ble_eq_true rfl) ?_
    exact ⟨rfl, rfl, Or.inr ⟨fun i hi h => by have h9 := hR.1; subst h; first | exact absurd c_1 (nI_pos (by omega)) | exact absurd c_1 (nI_nlt (b := 1) (by omega) (by omega)) | exact absurd c_1 (nI_ge (b := 40) (by omega) (by decide)) | exact absurd c_1 (nI_nlt (a := 40) (by omega) (by decide)), rfl⟩⟩
  · skip
    refine lv_iload_n hx hb d_RF_alarmAt_4 rfl (lv_at hl 1 rfl) ?_
    refine lv_aload_n hx hb d_RF_alarmAt_5 rfl (lv_at hl 0 rfl) ?_
    refine os_get (C := "RobotFaults") (T := F_RF) (N := 11) (ci := 0) (K := 0) (j := 4) (i := 0) (v := .ref (ad 6 0)) hx hb hts i_RF hown hK hV rfl rfl (by decide) (hA.n 0 (by decide)) (hts _ k_72) (congrArg (fun z => va_rf (Option.map (ad 6) z)) (hA.r 4 (by decide))) d_RF_alarmAt_6 ?_
    refine os_alen (K := 6) (i := 0) (t0 := 6) (v := 40) hx hb hK hV rfl rfl (hA.n 6 (by decide)) (congrArg Int32.ofNat hA.l6) d_RF_alarmAt_9 ?_
    refine lv_icmp_ge (tgt := 22) hx hb d_RF_alarmAt_10 (by decide) (fun c_2 => ?_) (fun c_2 => ?_)
    · skip
      refine lv_null hx hb d_RF_alarmAt_22 ?_
      refine lv_astore_nN (lv' := [(2, .null), (0, .ref (ad 0 0)), (1, .int x)]) hx hb d_RF_alarmAt_23 rfl hl (by decide) rfl (fun ls hl => ?_)
      refine lv_aload_nN hx hb d_RF_alarmAt_24 rfl (lv_at hl 0 rfl) ?_
      refine lv_ifnonnullN hx hb d_RF_alarmAt_25 ?_
      refine os_throwNW (text := "there is no such alarm") hx hb hlt hown hE hV k_245 k_9 (by decide +kernel) (hl.1.trans hml.symm) d_RF_alarmAt_28 d_RF_alarmAt_31 d_RF_alarmAt_32 d_RF_alarmAt_35 d_RF_alarmAt_38 hout hlocks (Nat.le_of_ble_eq_true rfl) (Nat.le_of_ble_eq_true rfl) (Nat.le_of_ble_eq_true rfl) (Nat.le_of_ble_eq_true rfl) (Nat.le_of_ble_eq_true rfl) (Nat.le_of_ble_eq_true rfl) ?_
      exact ⟨rfl, rfl, Or.inr ⟨fun i hi h => by have h9 := hR.1; subst h; first | exact absurd c_2 (nI_pos (by omega)) | exact absurd c_2 (nI_nlt (b := 1) (by omega) (by omega)) | exact absurd c_2 (nI_ge (b := 40) (by omega) (by decide)) | exact absurd c_2 (nI_nlt (a := 40) (by omega) (by decide)), rfl⟩⟩
    · skip
      refine lv_aload_n hx hb d_RF_alarmAt_13 rfl (lv_at hl 0 rfl) ?_
      refine os_get (C := "RobotFaults") (T := F_RF) (N := 11) (ci := 0) (K := 0) (j := 4) (i := 0) (v := .ref (ad 6 0)) hx hb hts i_RF hown hK hV rfl rfl (by decide) (hA.n 0 (by decide)) (hts _ k_72) (congrArg (fun z => va_rf (Option.map (ad 6) z)) (hA.r 4 (by decide))) d_RF_alarmAt_14 ?_
      refine lv_iload_n hx hb d_RF_alarmAt_17 rfl (lv_at hl 1 rfl) ?_
      obtain ⟨n, hn, hxn⟩ := rng (N := 40) rfl (by decide) c_1 c_2
      refine os_aaldN (K := 6) (i := 0) (t0 := 6) (n := n) hx hb hK hV rfl rfl (hA.n 6 (by decide)) hxn (by rw [show os_l σ 6 0 = 40 from hA.l6]; exact hn) (by rw [show os_l σ 6 0 = 40 from hA.l6]; decide) d_RF_alarmAt_18 ?_
      refine lv_goto (tgt := 23) hx hb d_RF_alarmAt_19 (by decide) ?_
      cases q_3 : os_r σ 6 n 0 with
      | none =>
        refine lv_astore_nN (lv' := [(2, .null), (0, .ref (ad 0 0)), (1, .int x)]) hx hb d_RF_alarmAt_23 rfl hl (by decide) rfl (fun ls hl => ?_)
        refine lv_aload_nN hx hb d_RF_alarmAt_24 rfl (lv_at hl 0 rfl) ?_
        refine lv_ifnonnullN hx hb d_RF_alarmAt_25 ?_
        refine os_throwNW (text := "there is no such alarm") hx hb hlt hown hE hV k_245 k_9 (by decide +kernel) (hl.1.trans hml.symm) d_RF_alarmAt_28 d_RF_alarmAt_31 d_RF_alarmAt_32 d_RF_alarmAt_35 d_RF_alarmAt_38 hout hlocks (Nat.le_of_ble_eq_true rfl) (Nat.le_of_ble_eq_true rfl) (Nat.le_of_ble_eq_true rfl) (Nat.le_of_ble_eq_true rfl) (Nat.le_of_ble_eq_true rfl) (Nat.le_of_ble_eq_true rfl) ?_
        have h1 := hR.no hn q_3
        exact ⟨rfl, rfl, Or.inr ⟨fun i hi h => by have h2 := nI_inj (h.symm.trans hxn) (by have := hR.1; omega) (by omega); omega, rfl⟩⟩
      | some t_4 =>
        refine lv_astore_n (lv' := [(2, .ref (ad 11 t_4)), (0, .ref (ad 0 0)), (1, .int x)]) hx hb d_RF_alarmAt_23 rfl hl (by decide) rfl (fun ls hl => ?_)
        refine lv_aload_n hx hb d_RF_alarmAt_24 rfl (lv_at hl 0 rfl) ?_
        refine lv_ifnonnull (tgt := 39) hx hb d_RF_alarmAt_25 (by decide) ?_
        refine lv_aload_n hx hb d_RF_alarmAt_39 rfl (lv_at hl 0 rfl) ?_
        refine os_aret hx hb hr (Or.inl ⟨_, rfl⟩) (Or.inr ⟨_, rfl⟩) hlocks hV (Nat.le_of_ble_eq_true rfl) (Nat.le_of_ble_eq_true rfl) d_RF_alarmAt_40 ?_
        obtain ⟨h1, h2⟩ := hR.yes hn q_3
        subst h1
        exact ⟨rfl, rfl, Or.inl ⟨_, h2, hxn, rfl⟩⟩
set_option maxHeartbeats 4000000 in
set_option maxRecDepth 100000 in
theorem c_RF_faultAt (l : Launch) (hlt : l.stackTraces = false) (D : va_G) (cA : Nat → ClassId) (bs : Nat) (σ : os_S) (ad : Nat → Nat → Nat) (x : Int32) (hA : rfA σ) (hR : rfS σ 5 10 40 7) : os_Met l y_RF_faultAt prog_1_method_25_code 3 (some (.object "RobotFaults$Fault")) { frames := 6, cells := 1, slots := 6, locals := 96 } D cA bs [.ref (ad 0 0), .int x] σ ad (pr σ ad 10 x 1 "java/util/NoSuchElementException") := by
  refine os_ofW (by decide) ?_
  intro p e s m below meth c hx hb hr hml hown hlocks hmn hout hE hV
  have hts := hE.hts (args := ([.ref (ad 0 0), .int x] : List Value).toArray)
  have hK := hE.2.1
  have hbs := hE.2.2.1
  have hown : s.vm.findClass "RobotFaults" = some m.cls := hown
  have hl := lv_entry ([.ref (ad 0 0), .int x]) (n := 3) (Nat.le_of_ble_eq_true rfl)
  rw [lg_entry_eq]
  generalize (lg_sl ([.ref (ad 0 0), .int x]) ++ List.replicate (3 - (lg_sl ([.ref (ad 0 0), .int x])).length) Slot.unset).toArray = ls at hl ⊢
  have hl : lv_has ls 3 [(0, .ref (ad 0 0)), (1, .int x)] := hl
  refine lv_iload_n hx hb d_RF_faultAt_0 rfl (lv_at hl 1 rfl) ?_
  refine lv_iconst (v := 1) hx hb d_RF_faultAt_1 (by decide) ?_
  refine lv_icmp_lt (tgt := 25) hx hb d_RF_faultAt_2 (by decide) (fun c_1 => ?_) (fun c_1 => ?_)
  · skip
    refine lv_null hx hb d_RF_faultAt_25 ?_
    refine lv_astore_nN (lv' := [(2, .null), (0, .ref (ad 0 0)), (1, .int x)]) hx hb d_RF_faultAt_26 rfl hl (by decide) rfl (fun ls hl => ?_)
    refine lv_aload_nN hx hb d_RF_faultAt_27 rfl (lv_at hl 0 rfl) ?_
    refine lv_ifnonnullN hx hb d_RF_faultAt_28 ?_
    refine os_throwNW (text := "there is no such fault") hx hb hlt hown hE hV k_245 k_9 (by decide +kernel) (hl.1.trans hml.symm) d_RF_faultAt_31 d_RF_faultAt_34 d_RF_faultAt_35 d_RF_faultAt_38 d_RF_faultAt_41 hout hlocks (Nat.le_of_ble_eq_true rfl) (Nat.le_of_ble_eq_true rfl) (Nat.le_of_ble_eq_true rfl) (Nat.le_of_ble_eq_true rfl) (Nat.le_of_ble_eq_true rfl) (Nat.le_of_ble_eq_true rfl) ?_
    exact ⟨rfl, rfl, Or.inr ⟨fun i hi h => by have h9 := hR.1; subst h; first | exact absurd c_1 (nI_pos (by omega)) | exact absurd c_1 (nI_nlt (b := 1) (by omega) (by omega)) | exact absurd c_1 (nI_ge (b := 40) (by omega) (by decide)) | exact absurd c_1 (nI_nlt (a := 40) (by omega) (by decide)), rfl⟩⟩
  · skip
    refine lv_iload_n hx hb d_RF_faultAt_5 rfl (lv_at hl 1 rfl) ?_
    refine lv_aload_n hx hb d_RF_faultAt_6 rfl (lv_at hl 0 rfl) ?_
    refine os_get (C := "RobotFaults") (T := F_RF) (N := 11) (ci := 0) (K := 0) (j := 3) (i := 0) (v := .ref (ad 5 0)) hx hb hts i_RF hown hK hV rfl rfl (by decide) (hA.n 0 (by decide)) (hts _ k_71) (congrArg (fun z => va_rf (Option.map (ad 5) z)) (hA.r 3 (by decide))) d_RF_faultAt_7 ?_
    refine os_alen (K := 5) (i := 0) (t0 := 5) (v := 40) hx hb hK hV rfl rfl (hA.n 5 (by decide)) (congrArg Int32.ofNat hA.l5) d_RF_faultAt_10 ?_
    refine lv_icmp_gt (tgt := 25) hx hb d_RF_faultAt_11 (by decide) (fun c_2 => ?_) (fun c_2 => ?_)
    · skip
      refine lv_null hx hb d_RF_faultAt_25 ?_
      refine lv_astore_nN (lv' := [(2, .null), (0, .ref (ad 0 0)), (1, .int x)]) hx hb d_RF_faultAt_26 rfl hl (by decide) rfl (fun ls hl => ?_)
      refine lv_aload_nN hx hb d_RF_faultAt_27 rfl (lv_at hl 0 rfl) ?_
      refine lv_ifnonnullN hx hb d_RF_faultAt_28 ?_
      refine os_throwNW (text := "there is no such fault") hx hb hlt hown hE hV k_245 k_9 (by decide +kernel) (hl.1.trans hml.symm) d_RF_faultAt_31 d_RF_faultAt_34 d_RF_faultAt_35 d_RF_faultAt_38 d_RF_faultAt_41 hout hlocks (Nat.le_of_ble_eq_true rfl) (Nat.le_of_ble_eq_true rfl) (Nat.le_of_ble_eq_true rfl) (Nat.le_of_ble_eq_true rfl) (Nat.le_of_ble_eq_true rfl) (Nat.le_of_ble_eq_true rfl) ?_
      exact ⟨rfl, rfl, Or.inr ⟨fun i hi h => by have h9 := hR.1; subst h; first | exact absurd c_2 (nI_pos (by omega)) | exact absurd c_2 (nI_nlt (b := 1) (by omega) (by omega)) | exact absurd c_2 (nI_ge (b := 40) (by omega) (by decide)) | exact absurd c_2 (nI_nlt (a := 40) (by omega) (by decide)), rfl⟩⟩
    · skip
      refine lv_aload_n hx hb d_RF_faultAt_14 rfl (lv_at hl 0 rfl) ?_
      refine os_get (C := "RobotFaults") (T := F_RF) (N := 11) (ci := 0) (K := 0) (j := 3) (i := 0) (v := .ref (ad 5 0)) hx hb hts i_RF hown hK hV rfl rfl (by decide) (hA.n 0 (by decide)) (hts _ k_71) (congrArg (fun z => va_rf (Option.map (ad 5) z)) (hA.r 3 (by decide))) d_RF_faultAt_15 ?_
      refine lv_iload_n hx hb d_RF_faultAt_18 rfl (lv_at hl 1 rfl) ?_
      refine lv_iconst (v := 1) hx hb d_RF_faultAt_19 (by decide) ?_
      refine lv_isub hx hb d_RF_faultAt_20 ?_
      obtain ⟨n, hn, hxn⟩ := rng1 (N := 40) rfl (by decide) c_1 c_2
      refine os_aaldN (K := 5) (i := 0) (t0 := 5) (n := n) hx hb hK hV rfl rfl (hA.n 5 (by decide)) (by rw [hxn]; exact nI_pred n) (by rw [show os_l σ 5 0 = 40 from hA.l5]; exact hn) (by rw [show os_l σ 5 0 = 40 from hA.l5]; decide) d_RF_faultAt_21 ?_
      refine lv_goto (tgt := 26) hx hb d_RF_faultAt_22 (by decide) ?_
      cases q_3 : os_r σ 5 n 0 with
      | none =>
        refine lv_astore_nN (lv' := [(2, .null), (0, .ref (ad 0 0)), (1, .int x)]) hx hb d_RF_faultAt_26 rfl hl (by decide) rfl (fun ls hl => ?_)
        refine lv_aload_nN hx hb d_RF_faultAt_27 rfl (lv_at hl 0 rfl) ?_
        refine lv_ifnonnullN hx hb d_RF_faultAt_28 ?_
        refine os_throwNW (text := "there is no such fault") hx hb hlt hown hE hV k_245 k_9 (by decide +kernel) (hl.1.trans hml.symm) d_RF_faultAt_31 d_RF_faultAt_34 d_RF_faultAt_35 d_RF_faultAt_38 d_RF_faultAt_41 hout hlocks (Nat.le_of_ble_eq_true rfl) (Nat.le_of_ble_eq_true rfl) (Nat.le_of_ble_eq_true rfl) (Nat.le_of_ble_eq_true rfl) (Nat.le_of_ble_eq_true rfl) (Nat.le_of_ble_eq_true rfl) ?_
        have h1 := hR.no hn q_3
        exact ⟨rfl, rfl, Or.inr ⟨fun i hi h => by have h2 := nI_inj (h.symm.trans hxn) (by have := hR.1; omega) (by omega); omega, rfl⟩⟩
      | some t_4 =>
        refine lv_astore_n (lv' := [(2, .ref (ad 10 t_4)), (0, .ref (ad 0 0)), (1, .int x)]) hx hb d_RF_faultAt_26 rfl hl (by decide) rfl (fun ls hl => ?_)
        refine lv_aload_n hx hb d_RF_faultAt_27 rfl (lv_at hl 0 rfl) ?_
        refine lv_ifnonnull (tgt := 42) hx hb d_RF_faultAt_28 (by decide) ?_
        refine lv_aload_n hx hb d_RF_faultAt_42 rfl (lv_at hl 0 rfl) ?_
        refine os_aret hx hb hr (Or.inl ⟨_, rfl⟩) (Or.inr ⟨_, rfl⟩) hlocks hV (Nat.le_of_ble_eq_true rfl) (Nat.le_of_ble_eq_true rfl) d_RF_faultAt_43 ?_
        obtain ⟨h1, h2⟩ := hR.yes hn q_3
        subst h1
        exact ⟨rfl, rfl, Or.inl ⟨_, h2, hxn, rfl⟩⟩
