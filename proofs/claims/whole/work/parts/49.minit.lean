/-! THE REFERENCE: its constructor -/
/-- an array of eight equal numbers more -/
def mkP (σ : os_S) (j K : Nat) (v : Int32) : os_S := os_sr (os_sg (os_sg (os_sg (os_sg (os_sg (os_sg (os_sg (os_sg (os_nw σ K 8) K 0 (os_n σ K) v) K 1 (os_n σ K) v) K 2 (os_n σ K) v) K 3 (os_n σ K) v) K 4 (os_n σ K) v) K 5 (os_n σ K) v) K 6 (os_n σ K) v) K 7 (os_n σ K) v) 13 j 0 (some (os_n σ K))
theorem mkP_n {σ : os_S} {j K K' : Nat} {v : Int32} : os_n (mkP σ j K v) K' = if K' = K then os_n σ K + 1 else os_n σ K' := rfl
theorem mkP_l {σ : os_S} {j K K' i : Nat} {v : Int32} : os_l (mkP σ j K v) K' i = if K' = K ∧ i = os_n σ K then 8 else os_l σ K' i := rfl
theorem mkP_r {σ : os_S} {j K K' j' i : Nat} {v : Int32} : os_r (mkP σ j K v) K' j' i = if K' = 13 ∧ j' = j ∧ i = 0 then some (os_n σ K) else if K' = K ∧ i = os_n σ K then none else os_r σ K' j' i := rfl
theorem mkP_g {σ : os_S} {j K K' j' i : Nat} {v : Int32} : os_g (mkP σ j K v) K' j' i = if K' = K ∧ i = os_n σ K then (if j' < 8 then v else 0) else os_g σ K' j' i := by
  unfold mkP
  simp only [os_g_sr, os_g_sg, os_g_nw]
  by_cases c : K' = K ∧ i = os_n σ K
  · obtain ⟨rfl, rfl⟩ := c
    simp only [true_and, and_true, if_true]
    by_cases h : j' < 8
    · rw [if_pos h]
      obtain rfl | rfl | rfl | rfl | rfl | rfl | rfl | rfl : j' = 0 ∨ j' = 1 ∨ j' = 2 ∨ j' = 3 ∨ j' = 4 ∨ j' = 5 ∨ j' = 6 ∨ j' = 7 := by omega
      all_goals simp
    · rw [if_neg h]
      simp [show j' ≠ 0 from by omega, show j' ≠ 1 from by omega, show j' ≠ 2 from by omega, show j' ≠ 3 from by omega, show j' ≠ 4 from by omega, show j' ≠ 5 from by omega, show j' ≠ 6 from by omega, show j' ≠ 7 from by omega]
  · have e : ∀ n, ¬ (K' = K ∧ j' = n ∧ i = os_n σ K) := fun n w => c ⟨w.1, w.2.2⟩
    simp only [e, c, if_false]
theorem mkP_lt {σ : os_S} {j K : Nat} {v : Int32} (h : 0 < os_n σ 13) (hK : 13 ≠ K) : 0 < os_n (mkP σ j K v) 13 := by rw [mkP_n, if_neg hK]; exact h
/-- a new reference -/
def mdI (σ : os_S) : os_S := (mkA (mkA (mkA (mkA (mkA (mkA (mkA (mkA (mkA (mkA (mkA (mkA (mkA (mkA (mkA (mkA (mkA (mkA (mkA (mkA (mkA (mkA (mkP (mkA (mkP (mkA (mkA (mkA (mkA (mkA (mkA σ 13 3 14 400) 13 5 15 8) 13 6 16 8) 13 7 17 8) 13 8 18 8) 13 9 19 8) 10 20 1) 13 11 21 8) 12 22 3) 13 14 23 41) 13 15 24 41) 13 16 25 41) 13 17 26 41) 13 18 27 41) 13 19 28 41) 13 20 29 41) 13 21 30 41) 13 22 31 41) 13 23 32 41) 13 25 33 40) 13 26 34 40) 13 27 35 40) 13 28 36 40) 13 29 37 40) 13 30 38 40) 13 31 39 40) 13 32 40 40) 13 34 41 10) 13 35 42 10) 13 36 43 10) 13 37 44 20)
set_option maxHeartbeats 4000000 in
set_option maxRecDepth 100000 in
theorem c_Model_init (l : Launch) (hlt : l.stackTraces = false) (D : va_G) (cA : Nat → ClassId) (bs : Nat) (σ : os_S) (ad : Nat → Nat → Nat) (h0 : 0 < os_n σ 13) : os_Met l y_Model_init prog_9_method_1_code 1 none { frames := 1, cells := 31, slots := 1244, locals := 12 } D cA bs [.ref (ad 13 0)] σ ad (fun r σ' _ => mdI σ = σ' ∧ r = .inl none) := by
  refine os_ofW (by decide) ?_
  intro p e s m below meth c hx hb hr hml hown hlocks hmn hout hE hV
  have hts := hE.hts (args := ([.ref (ad 13 0)] : List Value).toArray)
  have hK := hE.2.1
  have hbs := hE.2.2.1
  have hown : s.vm.findClass "RobotFaultsModel" = some m.cls := hown
  have hl := lv_entry ([.ref (ad 13 0)]) (n := 1) (Nat.le_of_ble_eq_true rfl)
  rw [lg_entry_eq]
  generalize (lg_sl ([.ref (ad 13 0)]) ++ List.replicate (1 - (lg_sl ([.ref (ad 13 0)])).length) Slot.unset).toArray = ls at hl ⊢
  have hl : lv_has ls 1 [(0, .ref (ad 13 0))] := hl
  refine lv_aload_n hx hb d_Model_init_0 rfl (lv_at hl 0 rfl) ?_
  refine W.objInit hx hb hown (hts _ k_724) (hts _ k_24) (hts _ k_25) rfl (hl.1.trans hml.symm) rfl d_Model_init_1 (Nat.le_of_ble_eq_true rfl) (Nat.le_of_ble_eq_true rfl) ?_
  refine W.eq (g2 := F0 m 4 ls []) rfl ?_
  refine lv_aload_n hx hb d_Model_init_4 rfl (lv_at hl 0 rfl) ?_
  refine lv_sipush (v := 400) hx hb d_Model_init_5 (by decide) ?_
  refine os_newi (atype := .boolean) (ty := .boolean) (K := 14) (t0 := 1) (N' := 400) hx hb rfl (hts _ k_840) (fun _ _ => rfl) hK hbs hV rfl rfl (fun _ => rfl) (by decide) (by decide +kernel) (by decide) (Nat.le_of_ble_eq_true rfl) (Nat.le_of_ble_eq_true rfl) d_Model_init_8 (fun ad_1 H hV hAd_2 => ?_)
  have hl : lv_has ls 1 [(0, .ref (ad_1 13 0))] := by rw [hAd_2 13 0 h0]; exact hl
  refine W.eq (g2 := F0 m 10 ls [.ref (ad_1 14 (os_n σ 14)), .ref (ad_1 13 0)]) (by rw [hAd_2 13 0 h0]) ?_
  refine os_putRF (C := "RobotFaultsModel") (T := F_Model) (N := 38) (ci := 7) (K := 13) (j := 3) (i := 0) (kt := 14) (v := (some (os_n σ 14))) (ty := .array .boolean) hx hb hts i_Model t_Model t_Model_ok n_Model hown hK hV rfl rfl (by decide) h0 (hts _ k_728) rfl hmn rfl rfl rfl (fun t h => by cases h; exact (os_n_new (σ := σ) (K := 14) (L := 400))) (by decide +kernel) ⟨rfl, rfl⟩ d_Model_init_10 (fun H locs hV => ?_)
  obtain ⟨σ_3, hs_4⟩ : ∃ z, mkA σ 13 3 14 400 = z := ⟨_, rfl⟩
  have hV : os_V D cA bs σ ad s σ_3 ad_1 H locs := by rw [← hs_4]; exact hV
  have hr_5 : 0 < os_n σ_3 13 := by rw [← hs_4]; exact (mkA_lt (σ := σ) (j := 3) (L := 400) h0 (by decide))
  refine lv_aload_n hx hb d_Model_init_13 rfl (lv_at hl 0 rfl) ?_
  refine lv_bipush (v := 8) hx hb d_Model_init_14 (by decide) ?_
  refine os_newi (atype := .int) (ty := .int) (K := 15) (t0 := 0) (N' := 8) hx hb rfl (hts _ k_39) (fun _ _ => rfl) hK hbs hV rfl rfl (fun _ => rfl) (by decide) (by decide +kernel) (by decide) (Nat.le_of_ble_eq_true rfl) (Nat.le_of_ble_eq_true rfl) d_Model_init_16 (fun ad_6 H hV hAd_7 => ?_)
  have hl : lv_has ls 1 [(0, .ref (ad_6 13 0))] := by rw [hAd_7 13 0 hr_5]; exact hl
  refine W.eq (g2 := F0 m 18 ls [.ref (ad_6 15 (os_n σ_3 15)), .ref (ad_6 13 0)]) (by rw [hAd_7 13 0 hr_5]) ?_
  refine os_putRF (C := "RobotFaultsModel") (T := F_Model) (N := 38) (ci := 7) (K := 13) (j := 5) (i := 0) (kt := 15) (v := (some (os_n σ_3 15))) (ty := .array .int) hx hb hts i_Model t_Model t_Model_ok n_Model hown hK hV rfl rfl (by decide) hr_5 (hts _ k_730) rfl hmn rfl rfl rfl (fun t h => by cases h; exact (os_n_new (σ := σ_3) (K := 15) (L := 8))) (by decide +kernel) ⟨rfl, rfl⟩ d_Model_init_18 (fun H locs hV => ?_)
  obtain ⟨σ_8, hs_9⟩ : ∃ z, mkA σ_3 13 5 15 8 = z := ⟨_, rfl⟩
  have hV : os_V D cA bs σ ad s σ_8 ad_6 H locs := by rw [← hs_9]; exact hV
  have hr_10 : 0 < os_n σ_8 13 := by rw [← hs_9]; exact (mkA_lt (σ := σ_3) (j := 5) (L := 8) hr_5 (by decide))
  refine lv_aload_n hx hb d_Model_init_21 rfl (lv_at hl 0 rfl) ?_
  refine lv_bipush (v := 8) hx hb d_Model_init_22 (by decide) ?_
  refine os_newi (atype := .int) (ty := .int) (K := 16) (t0 := 0) (N' := 8) hx hb rfl (hts _ k_39) (fun _ _ => rfl) hK hbs hV rfl rfl (fun _ => rfl) (by decide) (by decide +kernel) (by decide) (Nat.le_of_ble_eq_true rfl) (Nat.le_of_ble_eq_true rfl) d_Model_init_24 (fun ad_11 H hV hAd_12 => ?_)
  have hl : lv_has ls 1 [(0, .ref (ad_11 13 0))] := by rw [hAd_12 13 0 hr_10]; exact hl
  refine W.eq (g2 := F0 m 26 ls [.ref (ad_11 16 (os_n σ_8 16)), .ref (ad_11 13 0)]) (by rw [hAd_12 13 0 hr_10]) ?_
  refine os_putRF (C := "RobotFaultsModel") (T := F_Model) (N := 38) (ci := 7) (K := 13) (j := 6) (i := 0) (kt := 16) (v := (some (os_n σ_8 16))) (ty := .array .int) hx hb hts i_Model t_Model t_Model_ok n_Model hown hK hV rfl rfl (by decide) hr_10 (hts _ k_731) rfl hmn rfl rfl rfl (fun t h => by cases h; exact (os_n_new (σ := σ_8) (K := 16) (L := 8))) (by decide +kernel) ⟨rfl, rfl⟩ d_Model_init_26 (fun H locs hV => ?_)
  obtain ⟨σ_13, hs_14⟩ : ∃ z, mkA σ_8 13 6 16 8 = z := ⟨_, rfl⟩
  have hV : os_V D cA bs σ ad s σ_13 ad_11 H locs := by rw [← hs_14]; exact hV
  have hr_15 : 0 < os_n σ_13 13 := by rw [← hs_14]; exact (mkA_lt (σ := σ_8) (j := 6) (L := 8) hr_10 (by decide))
  refine lv_aload_n hx hb d_Model_init_29 rfl (lv_at hl 0 rfl) ?_
  refine lv_bipush (v := 8) hx hb d_Model_init_30 (by decide) ?_
  refine os_newi (atype := .int) (ty := .int) (K := 17) (t0 := 0) (N' := 8) hx hb rfl (hts _ k_39) (fun _ _ => rfl) hK hbs hV rfl rfl (fun _ => rfl) (by decide) (by decide +kernel) (by decide) (Nat.le_of_ble_eq_true rfl) (Nat.le_of_ble_eq_true rfl) d_Model_init_32 (fun ad_16 H hV hAd_17 => ?_)
  have hl : lv_has ls 1 [(0, .ref (ad_16 13 0))] := by rw [hAd_17 13 0 hr_15]; exact hl
  refine W.eq (g2 := F0 m 34 ls [.ref (ad_16 17 (os_n σ_13 17)), .ref (ad_16 13 0)]) (by rw [hAd_17 13 0 hr_15]) ?_
  refine os_putRF (C := "RobotFaultsModel") (T := F_Model) (N := 38) (ci := 7) (K := 13) (j := 7) (i := 0) (kt := 17) (v := (some (os_n σ_13 17))) (ty := .array .int) hx hb hts i_Model t_Model t_Model_ok n_Model hown hK hV rfl rfl (by decide) hr_15 (hts _ k_732) rfl hmn rfl rfl rfl (fun t h => by cases h; exact (os_n_new (σ := σ_13) (K := 17) (L := 8))) (by decide +kernel) ⟨rfl, rfl⟩ d_Model_init_34 (fun H locs hV => ?_)
  obtain ⟨σ_18, hs_19⟩ : ∃ z, mkA σ_13 13 7 17 8 = z := ⟨_, rfl⟩
  have hV : os_V D cA bs σ ad s σ_18 ad_16 H locs := by rw [← hs_19]; exact hV
  have hr_20 : 0 < os_n σ_18 13 := by rw [← hs_19]; exact (mkA_lt (σ := σ_13) (j := 7) (L := 8) hr_15 (by decide))
  refine lv_aload_n hx hb d_Model_init_37 rfl (lv_at hl 0 rfl) ?_
  refine lv_bipush (v := 8) hx hb d_Model_init_38 (by decide) ?_
  refine os_newi (atype := .boolean) (ty := .boolean) (K := 18) (t0 := 1) (N' := 8) hx hb rfl (hts _ k_840) (fun _ _ => rfl) hK hbs hV rfl rfl (fun _ => rfl) (by decide) (by decide +kernel) (by decide) (Nat.le_of_ble_eq_true rfl) (Nat.le_of_ble_eq_true rfl) d_Model_init_40 (fun ad_21 H hV hAd_22 => ?_)
  have hl : lv_has ls 1 [(0, .ref (ad_21 13 0))] := by rw [hAd_22 13 0 hr_20]; exact hl
  refine W.eq (g2 := F0 m 42 ls [.ref (ad_21 18 (os_n σ_18 18)), .ref (ad_21 13 0)]) (by rw [hAd_22 13 0 hr_20]) ?_
  refine os_putRF (C := "RobotFaultsModel") (T := F_Model) (N := 38) (ci := 7) (K := 13) (j := 8) (i := 0) (kt := 18) (v := (some (os_n σ_18 18))) (ty := .array .boolean) hx hb hts i_Model t_Model t_Model_ok n_Model hown hK hV rfl rfl (by decide) hr_20 (hts _ k_733) rfl hmn rfl rfl rfl (fun t h => by cases h; exact (os_n_new (σ := σ_18) (K := 18) (L := 8))) (by decide +kernel) ⟨rfl, rfl⟩ d_Model_init_42 (fun H locs hV => ?_)
  obtain ⟨σ_23, hs_24⟩ : ∃ z, mkA σ_18 13 8 18 8 = z := ⟨_, rfl⟩
  have hV : os_V D cA bs σ ad s σ_23 ad_21 H locs := by rw [← hs_24]; exact hV
  have hr_25 : 0 < os_n σ_23 13 := by rw [← hs_24]; exact (mkA_lt (σ := σ_18) (j := 8) (L := 8) hr_20 (by decide))
  refine lv_aload_n hx hb d_Model_init_45 rfl (lv_at hl 0 rfl) ?_
  refine lv_bipush (v := 8) hx hb d_Model_init_46 (by decide) ?_
  refine os_newi (atype := .int) (ty := .int) (K := 19) (t0 := 0) (N' := 8) hx hb rfl (hts _ k_39) (fun _ _ => rfl) hK hbs hV rfl rfl (fun _ => rfl) (by decide) (by decide +kernel) (by decide) (Nat.le_of_ble_eq_true rfl) (Nat.le_of_ble_eq_true rfl) d_Model_init_48 (fun ad_26 H hV hAd_27 => ?_)
  have hl : lv_has ls 1 [(0, .ref (ad_26 13 0))] := by rw [hAd_27 13 0 hr_25]; exact hl
  refine W.eq (g2 := F0 m 50 ls [.ref (ad_26 19 (os_n σ_23 19)), .ref (ad_26 13 0)]) (by rw [hAd_27 13 0 hr_25]) ?_
  refine os_putRF (C := "RobotFaultsModel") (T := F_Model) (N := 38) (ci := 7) (K := 13) (j := 9) (i := 0) (kt := 19) (v := (some (os_n σ_23 19))) (ty := .array .int) hx hb hts i_Model t_Model t_Model_ok n_Model hown hK hV rfl rfl (by decide) hr_25 (hts _ k_734) rfl hmn rfl rfl rfl (fun t h => by cases h; exact (os_n_new (σ := σ_23) (K := 19) (L := 8))) (by decide +kernel) ⟨rfl, rfl⟩ d_Model_init_50 (fun H locs hV => ?_)
  obtain ⟨σ_28, hs_29⟩ : ∃ z, mkA σ_23 13 9 19 8 = z := ⟨_, rfl⟩
  have hV : os_V D cA bs σ ad s σ_28 ad_26 H locs := by rw [← hs_29]; exact hV
  have hr_30 : 0 < os_n σ_28 13 := by rw [← hs_29]; exact (mkA_lt (σ := σ_23) (j := 9) (L := 8) hr_25 (by decide))
  refine lv_aload_n hx hb d_Model_init_53 rfl (lv_at hl 0 rfl) ?_
  refine lv_bipush (v := 8) hx hb d_Model_init_54 (by decide) ?_
  refine os_newi (atype := .int) (ty := .int) (K := 20) (t0 := 0) (N' := 8) hx hb rfl (hts _ k_39) (fun _ _ => rfl) hK hbs hV rfl rfl (fun _ => rfl) (by decide) (by decide +kernel) (by decide) (Nat.le_of_ble_eq_true rfl) (Nat.le_of_ble_eq_true rfl) d_Model_init_56 (fun ad_31 H hV hAd_32 => ?_)
  have hl : lv_has ls 1 [(0, .ref (ad_31 13 0))] := by rw [hAd_32 13 0 hr_30]; exact hl
  refine W.eq (g2 := F0 m 58 ls [.ref (ad_31 20 (os_n σ_28 20)), .ref (ad_31 13 0)]) (by rw [hAd_32 13 0 hr_30]) ?_
  refine lv_dup hx hb d_Model_init_58 rfl ?_
  refine lv_iconst (v := 0) hx hb d_Model_init_59 (by decide) ?_
  refine lv_iconst (v := 1) hx hb d_Model_init_60 (by decide) ?_
  refine os_iastN (K := 20) (i := (os_n σ_28 20)) (t0 := 0) (n := 0) hx hb hK hV rfl rfl rfl (os_n_new (σ := σ_28) (K := 20) (L := 8)) rfl (by rw [show os_l (os_nw σ_28 20 8) 20 (os_n σ_28 20) = 8 from (show (if 20 = 20 ∧ os_n σ_28 20 = os_n σ_28 20 then 8 else os_l σ_28 20 (os_n σ_28 20)) = 8 from if_pos ⟨rfl, rfl⟩)]; decide) (by rw [show os_l (os_nw σ_28 20 8) 20 (os_n σ_28 20) = 8 from (show (if 20 = 20 ∧ os_n σ_28 20 = os_n σ_28 20 then 8 else os_l σ_28 20 (os_n σ_28 20)) = 8 from if_pos ⟨rfl, rfl⟩)]; decide) d_Model_init_61 (fun H locs hV => ?_)
  refine lv_dup hx hb d_Model_init_62 rfl ?_
  refine lv_iconst (v := 1) hx hb d_Model_init_63 (by decide) ?_
  refine lv_iconst (v := 1) hx hb d_Model_init_64 (by decide) ?_
  refine os_iastN (K := 20) (i := (os_n σ_28 20)) (t0 := 0) (n := 1) hx hb hK hV rfl rfl rfl (os_n_new (σ := σ_28) (K := 20) (L := 8)) rfl (by rw [show os_l (os_sg (os_nw σ_28 20 8) 20 0 (os_n σ_28 20) 1) 20 (os_n σ_28 20) = 8 from (show (if 20 = 20 ∧ os_n σ_28 20 = os_n σ_28 20 then 8 else os_l σ_28 20 (os_n σ_28 20)) = 8 from if_pos ⟨rfl, rfl⟩)]; decide) (by rw [show os_l (os_sg (os_nw σ_28 20 8) 20 0 (os_n σ_28 20) 1) 20 (os_n σ_28 20) = 8 from (show (if 20 = 20 ∧ os_n σ_28 20 = os_n σ_28 20 then 8 else os_l σ_28 20 (os_n σ_28 20)) = 8 from if_pos ⟨rfl, rfl⟩)]; decide) d_Model_init_65 (fun H locs hV => ?_)
  refine lv_dup hx hb d_Model_init_66 rfl ?_
  refine lv_iconst (v := 2) hx hb d_Model_init_67 (by decide) ?_
  refine lv_iconst (v := 1) hx hb d_Model_init_68 (by decide) ?_
  refine os_iastN (K := 20) (i := (os_n σ_28 20)) (t0 := 0) (n := 2) hx hb hK hV rfl rfl rfl (os_n_new (σ := σ_28) (K := 20) (L := 8)) rfl (by rw [show os_l (os_sg (os_sg (os_nw σ_28 20 8) 20 0 (os_n σ_28 20) 1) 20 1 (os_n σ_28 20) 1) 20 (os_n σ_28 20) = 8 from (show (if 20 = 20 ∧ os_n σ_28 20 = os_n σ_28 20 then 8 else os_l σ_28 20 (os_n σ_28 20)) = 8 from if_pos ⟨rfl, rfl⟩)]; decide) (by rw [show os_l (os_sg (os_sg (os_nw σ_28 20 8) 20 0 (os_n σ_28 20) 1) 20 1 (os_n σ_28 20) 1) 20 (os_n σ_28 20) = 8 from (show (if 20 = 20 ∧ os_n σ_28 20 = os_n σ_28 20 then 8 else os_l σ_28 20 (os_n σ_28 20)) = 8 from if_pos ⟨rfl, rfl⟩)]; decide) d_Model_init_69 (fun H locs hV => ?_)
  refine lv_dup hx hb d_Model_init_70 rfl ?_
  refine lv_iconst (v := 3) hx hb d_Model_init_71 (by decide) ?_
  refine lv_iconst (v := 1) hx hb d_Model_init_72 (by decide) ?_
  refine os_iastN (K := 20) (i := (os_n σ_28 20)) (t0 := 0) (n := 3) hx hb hK hV rfl rfl rfl (os_n_new (σ := σ_28) (K := 20) (L := 8)) rfl (by rw [show os_l (os_sg (os_sg (os_sg (os_nw σ_28 20 8) 20 0 (os_n σ_28 20) 1) 20 1 (os_n σ_28 20) 1) 20 2 (os_n σ_28 20) 1) 20 (os_n σ_28 20) = 8 from (show (if 20 = 20 ∧ os_n σ_28 20 = os_n σ_28 20 then 8 else os_l σ_28 20 (os_n σ_28 20)) = 8 from if_pos ⟨rfl, rfl⟩)]; decide) (by rw [show os_l (os_sg (os_sg (os_sg (os_nw σ_28 20 8) 20 0 (os_n σ_28 20) 1) 20 1 (os_n σ_28 20) 1) 20 2 (os_n σ_28 20) 1) 20 (os_n σ_28 20) = 8 from (show (if 20 = 20 ∧ os_n σ_28 20 = os_n σ_28 20 then 8 else os_l σ_28 20 (os_n σ_28 20)) = 8 from if_pos ⟨rfl, rfl⟩)]; decide) d_Model_init_73 (fun H locs hV => ?_)
  refine lv_dup hx hb d_Model_init_74 rfl ?_
  refine lv_iconst (v := 4) hx hb d_Model_init_75 (by decide) ?_
  refine lv_iconst (v := 1) hx hb d_Model_init_76 (by decide) ?_
  refine os_iastN (K := 20) (i := (os_n σ_28 20)) (t0 := 0) (n := 4) hx hb hK hV rfl rfl rfl (os_n_new (σ := σ_28) (K := 20) (L := 8)) rfl (by rw [show os_l (os_sg (os_sg (os_sg (os_sg (os_nw σ_28 20 8) 20 0 (os_n σ_28 20) 1) 20 1 (os_n σ_28 20) 1) 20 2 (os_n σ_28 20) 1) 20 3 (os_n σ_28 20) 1) 20 (os_n σ_28 20) = 8 from (show (if 20 = 20 ∧ os_n σ_28 20 = os_n σ_28 20 then 8 else os_l σ_28 20 (os_n σ_28 20)) = 8 from if_pos ⟨rfl, rfl⟩)]; decide) (by rw [show os_l (os_sg (os_sg (os_sg (os_sg (os_nw σ_28 20 8) 20 0 (os_n σ_28 20) 1) 20 1 (os_n σ_28 20) 1) 20 2 (os_n σ_28 20) 1) 20 3 (os_n σ_28 20) 1) 20 (os_n σ_28 20) = 8 from (show (if 20 = 20 ∧ os_n σ_28 20 = os_n σ_28 20 then 8 else os_l σ_28 20 (os_n σ_28 20)) = 8 from if_pos ⟨rfl, rfl⟩)]; decide) d_Model_init_77 (fun H locs hV => ?_)
  refine lv_dup hx hb d_Model_init_78 rfl ?_
  refine lv_iconst (v := 5) hx hb d_Model_init_79 (by decide) ?_
  refine lv_iconst (v := 1) hx hb d_Model_init_80 (by decide) ?_
  refine os_iastN (K := 20) (i := (os_n σ_28 20)) (t0 := 0) (n := 5) hx hb hK hV rfl rfl rfl (os_n_new (σ := σ_28) (K := 20) (L := 8)) rfl (by rw [show os_l (os_sg (os_sg (os_sg (os_sg (os_sg (os_nw σ_28 20 8) 20 0 (os_n σ_28 20) 1) 20 1 (os_n σ_28 20) 1) 20 2 (os_n σ_28 20) 1) 20 3 (os_n σ_28 20) 1) 20 4 (os_n σ_28 20) 1) 20 (os_n σ_28 20) = 8 from (show (if 20 = 20 ∧ os_n σ_28 20 = os_n σ_28 20 then 8 else os_l σ_28 20 (os_n σ_28 20)) = 8 from if_pos ⟨rfl, rfl⟩)]; decide) (by rw [show os_l (os_sg (os_sg (os_sg (os_sg (os_sg (os_nw σ_28 20 8) 20 0 (os_n σ_28 20) 1) 20 1 (os_n σ_28 20) 1) 20 2 (os_n σ_28 20) 1) 20 3 (os_n σ_28 20) 1) 20 4 (os_n σ_28 20) 1) 20 (os_n σ_28 20) = 8 from (show (if 20 = 20 ∧ os_n σ_28 20 = os_n σ_28 20 then 8 else os_l σ_28 20 (os_n σ_28 20)) = 8 from if_pos ⟨rfl, rfl⟩)]; decide) d_Model_init_81 (fun H locs hV => ?_)
  refine lv_dup hx hb d_Model_init_82 rfl ?_
  refine lv_bipush (v := 6) hx hb d_Model_init_83 (by decide) ?_
  refine lv_iconst (v := 1) hx hb d_Model_init_85 (by decide) ?_
  refine os_iastN (K := 20) (i := (os_n σ_28 20)) (t0 := 0) (n := 6) hx hb hK hV rfl rfl rfl (os_n_new (σ := σ_28) (K := 20) (L := 8)) rfl (by rw [show os_l (os_sg (os_sg (os_sg (os_sg (os_sg (os_sg (os_nw σ_28 20 8) 20 0 (os_n σ_28 20) 1) 20 1 (os_n σ_28 20) 1) 20 2 (os_n σ_28 20) 1) 20 3 (os_n σ_28 20) 1) 20 4 (os_n σ_28 20) 1) 20 5 (os_n σ_28 20) 1) 20 (os_n σ_28 20) = 8 from (show (if 20 = 20 ∧ os_n σ_28 20 = os_n σ_28 20 then 8 else os_l σ_28 20 (os_n σ_28 20)) = 8 from if_pos ⟨rfl, rfl⟩)]; decide) (by rw [show os_l (os_sg (os_sg (os_sg (os_sg (os_sg (os_sg (os_nw σ_28 20 8) 20 0 (os_n σ_28 20) 1) 20 1 (os_n σ_28 20) 1) 20 2 (os_n σ_28 20) 1) 20 3 (os_n σ_28 20) 1) 20 4 (os_n σ_28 20) 1) 20 5 (os_n σ_28 20) 1) 20 (os_n σ_28 20) = 8 from (show (if 20 = 20 ∧ os_n σ_28 20 = os_n σ_28 20 then 8 else os_l σ_28 20 (os_n σ_28 20)) = 8 from if_pos ⟨rfl, rfl⟩)]; decide) d_Model_init_86 (fun H locs hV => ?_)
  refine lv_dup hx hb d_Model_init_87 rfl ?_
  refine lv_bipush (v := 7) hx hb d_Model_init_88 (by decide) ?_
  refine lv_iconst (v := 1) hx hb d_Model_init_90 (by decide) ?_
  refine os_iastN (K := 20) (i := (os_n σ_28 20)) (t0 := 0) (n := 7) hx hb hK hV rfl rfl rfl (os_n_new (σ := σ_28) (K := 20) (L := 8)) rfl (by rw [show os_l (os_sg (os_sg (os_sg (os_sg (os_sg (os_sg (os_sg (os_nw σ_28 20 8) 20 0 (os_n σ_28 20) 1) 20 1 (os_n σ_28 20) 1) 20 2 (os_n σ_28 20) 1) 20 3 (os_n σ_28 20) 1) 20 4 (os_n σ_28 20) 1) 20 5 (os_n σ_28 20) 1) 20 6 (os_n σ_28 20) 1) 20 (os_n σ_28 20) = 8 from (show (if 20 = 20 ∧ os_n σ_28 20 = os_n σ_28 20 then 8 else os_l σ_28 20 (os_n σ_28 20)) = 8 from if_pos ⟨rfl, rfl⟩)]; decide) (by rw [show os_l (os_sg (os_sg (os_sg (os_sg (os_sg (os_sg (os_sg (os_nw σ_28 20 8) 20 0 (os_n σ_28 20) 1) 20 1 (os_n σ_28 20) 1) 20 2 (os_n σ_28 20) 1) 20 3 (os_n σ_28 20) 1) 20 4 (os_n σ_28 20) 1) 20 5 (os_n σ_28 20) 1) 20 6 (os_n σ_28 20) 1) 20 (os_n σ_28 20) = 8 from (show (if 20 = 20 ∧ os_n σ_28 20 = os_n σ_28 20 then 8 else os_l σ_28 20 (os_n σ_28 20)) = 8 from if_pos ⟨rfl, rfl⟩)]; decide) d_Model_init_91 (fun H locs hV => ?_)
  refine os_putRF (C := "RobotFaultsModel") (T := F_Model) (N := 38) (ci := 7) (K := 13) (j := 10) (i := 0) (kt := 20) (v := (some (os_n σ_28 20))) (ty := .array .int) hx hb hts i_Model t_Model t_Model_ok n_Model hown hK hV rfl rfl (by decide) hr_30 (hts _ k_735) rfl hmn rfl rfl rfl (fun t h => by cases h; exact (os_n_new (σ := σ_28) (K := 20) (L := 8))) (by decide +kernel) ⟨rfl, rfl⟩ d_Model_init_92 (fun H locs hV => ?_)
  obtain ⟨σ_33, hs_34⟩ : ∃ z, mkP σ_28 10 20 1 = z := ⟨_, rfl⟩
  have hV : os_V D cA bs σ ad s σ_33 ad_31 H locs := by rw [← hs_34]; exact hV
  have hr_35 : 0 < os_n σ_33 13 := by rw [← hs_34]; exact (mkP_lt (σ := σ_28) (j := 10) (v := 1) hr_30 (by decide))
  refine lv_aload_n hx hb d_Model_init_95 rfl (lv_at hl 0 rfl) ?_
  refine lv_bipush (v := 8) hx hb d_Model_init_96 (by decide) ?_
  refine os_newi (atype := .boolean) (ty := .boolean) (K := 21) (t0 := 1) (N' := 8) hx hb rfl (hts _ k_840) (fun _ _ => rfl) hK hbs hV rfl rfl (fun _ => rfl) (by decide) (by decide +kernel) (by decide) (Nat.le_of_ble_eq_true rfl) (Nat.le_of_ble_eq_true rfl) d_Model_init_98 (fun ad_36 H hV hAd_37 => ?_)
  have hl : lv_has ls 1 [(0, .ref (ad_36 13 0))] := by rw [hAd_37 13 0 hr_35]; exact hl
  refine W.eq (g2 := F0 m 100 ls [.ref (ad_36 21 (os_n σ_33 21)), .ref (ad_36 13 0)]) (by rw [hAd_37 13 0 hr_35]) ?_
  refine os_putRF (C := "RobotFaultsModel") (T := F_Model) (N := 38) (ci := 7) (K := 13) (j := 11) (i := 0) (kt := 21) (v := (some (os_n σ_33 21))) (ty := .array .boolean) hx hb hts i_Model t_Model t_Model_ok n_Model hown hK hV rfl rfl (by decide) hr_35 (hts _ k_736) rfl hmn rfl rfl rfl (fun t h => by cases h; exact (os_n_new (σ := σ_33) (K := 21) (L := 8))) (by decide +kernel) ⟨rfl, rfl⟩ d_Model_init_100 (fun H locs hV => ?_)
  obtain ⟨σ_38, hs_39⟩ : ∃ z, mkA σ_33 13 11 21 8 = z := ⟨_, rfl⟩
  have hV : os_V D cA bs σ ad s σ_38 ad_36 H locs := by rw [← hs_39]; exact hV
  have hr_40 : 0 < os_n σ_38 13 := by rw [← hs_39]; exact (mkA_lt (σ := σ_33) (j := 11) (L := 8) hr_35 (by decide))
  refine lv_aload_n hx hb d_Model_init_103 rfl (lv_at hl 0 rfl) ?_
  refine lv_bipush (v := 8) hx hb d_Model_init_104 (by decide) ?_
  refine os_newi (atype := .int) (ty := .int) (K := 22) (t0 := 0) (N' := 8) hx hb rfl (hts _ k_39) (fun _ _ => rfl) hK hbs hV rfl rfl (fun _ => rfl) (by decide) (by decide +kernel) (by decide) (Nat.le_of_ble_eq_true rfl) (Nat.le_of_ble_eq_true rfl) d_Model_init_106 (fun ad_41 H hV hAd_42 => ?_)
  have hl : lv_has ls 1 [(0, .ref (ad_41 13 0))] := by rw [hAd_42 13 0 hr_40]; exact hl
  refine W.eq (g2 := F0 m 108 ls [.ref (ad_41 22 (os_n σ_38 22)), .ref (ad_41 13 0)]) (by rw [hAd_42 13 0 hr_40]) ?_
  refine lv_dup hx hb d_Model_init_108 rfl ?_
  refine lv_iconst (v := 0) hx hb d_Model_init_109 (by decide) ?_
  refine lv_iconst (v := 3) hx hb d_Model_init_110 (by decide) ?_
  refine os_iastN (K := 22) (i := (os_n σ_38 22)) (t0 := 0) (n := 0) hx hb hK hV rfl rfl rfl (os_n_new (σ := σ_38) (K := 22) (L := 8)) rfl (by rw [show os_l (os_nw σ_38 22 8) 22 (os_n σ_38 22) = 8 from (show (if 22 = 22 ∧ os_n σ_38 22 = os_n σ_38 22 then 8 else os_l σ_38 22 (os_n σ_38 22)) = 8 from if_pos ⟨rfl, rfl⟩)]; decide) (by rw [show os_l (os_nw σ_38 22 8) 22 (os_n σ_38 22) = 8 from (show (if 22 = 22 ∧ os_n σ_38 22 = os_n σ_38 22 then 8 else os_l σ_38 22 (os_n σ_38 22)) = 8 from if_pos ⟨rfl, rfl⟩)]; decide) d_Model_init_111 (fun H locs hV => ?_)
  refine lv_dup hx hb d_Model_init_112 rfl ?_
  refine lv_iconst (v := 1) hx hb d_Model_init_113 (by decide) ?_
  refine lv_iconst (v := 3) hx hb d_Model_init_114 (by decide) ?_
  refine os_iastN (K := 22) (i := (os_n σ_38 22)) (t0 := 0) (n := 1) hx hb hK hV rfl rfl rfl (os_n_new (σ := σ_38) (K := 22) (L := 8)) rfl (by rw [show os_l (os_sg (os_nw σ_38 22 8) 22 0 (os_n σ_38 22) 3) 22 (os_n σ_38 22) = 8 from (show (if 22 = 22 ∧ os_n σ_38 22 = os_n σ_38 22 then 8 else os_l σ_38 22 (os_n σ_38 22)) = 8 from if_pos ⟨rfl, rfl⟩)]; decide) (by rw [show os_l (os_sg (os_nw σ_38 22 8) 22 0 (os_n σ_38 22) 3) 22 (os_n σ_38 22) = 8 from (show (if 22 = 22 ∧ os_n σ_38 22 = os_n σ_38 22 then 8 else os_l σ_38 22 (os_n σ_38 22)) = 8 from if_pos ⟨rfl, rfl⟩)]; decide) d_Model_init_115 (fun H locs hV => ?_)
  refine lv_dup hx hb d_Model_init_116 rfl ?_
  refine lv_iconst (v := 2) hx hb d_Model_init_117 (by decide) ?_
  refine lv_iconst (v := 3) hx hb d_Model_init_118 (by decide) ?_
  refine os_iastN (K := 22) (i := (os_n σ_38 22)) (t0 := 0) (n := 2) hx hb hK hV rfl rfl rfl (os_n_new (σ := σ_38) (K := 22) (L := 8)) rfl (by rw [show os_l (os_sg (os_sg (os_nw σ_38 22 8) 22 0 (os_n σ_38 22) 3) 22 1 (os_n σ_38 22) 3) 22 (os_n σ_38 22) = 8 from (show (if 22 = 22 ∧ os_n σ_38 22 = os_n σ_38 22 then 8 else os_l σ_38 22 (os_n σ_38 22)) = 8 from if_pos ⟨rfl, rfl⟩)]; decide) (by rw [show os_l (os_sg (os_sg (os_nw σ_38 22 8) 22 0 (os_n σ_38 22) 3) 22 1 (os_n σ_38 22) 3) 22 (os_n σ_38 22) = 8 from (show (if 22 = 22 ∧ os_n σ_38 22 = os_n σ_38 22 then 8 else os_l σ_38 22 (os_n σ_38 22)) = 8 from if_pos ⟨rfl, rfl⟩)]; decide) d_Model_init_119 (fun H locs hV => ?_)
  refine lv_dup hx hb d_Model_init_120 rfl ?_
  refine lv_iconst (v := 3) hx hb d_Model_init_121 (by decide) ?_
  refine lv_iconst (v := 3) hx hb d_Model_init_122 (by decide) ?_
  refine os_iastN (K := 22) (i := (os_n σ_38 22)) (t0 := 0) (n := 3) hx hb hK hV rfl rfl rfl (os_n_new (σ := σ_38) (K := 22) (L := 8)) rfl (by rw [show os_l (os_sg (os_sg (os_sg (os_nw σ_38 22 8) 22 0 (os_n σ_38 22) 3) 22 1 (os_n σ_38 22) 3) 22 2 (os_n σ_38 22) 3) 22 (os_n σ_38 22) = 8 from (show (if 22 = 22 ∧ os_n σ_38 22 = os_n σ_38 22 then 8 else os_l σ_38 22 (os_n σ_38 22)) = 8 from if_pos ⟨rfl, rfl⟩)]; decide) (by rw [show os_l (os_sg (os_sg (os_sg (os_nw σ_38 22 8) 22 0 (os_n σ_38 22) 3) 22 1 (os_n σ_38 22) 3) 22 2 (os_n σ_38 22) 3) 22 (os_n σ_38 22) = 8 from (show (if 22 = 22 ∧ os_n σ_38 22 = os_n σ_38 22 then 8 else os_l σ_38 22 (os_n σ_38 22)) = 8 from if_pos ⟨rfl, rfl⟩)]; decide) d_Model_init_123 (fun H locs hV => ?_)
  refine lv_dup hx hb d_Model_init_124 rfl ?_
  refine lv_iconst (v := 4) hx hb d_Model_init_125 (by decide) ?_
  refine lv_iconst (v := 3) hx hb d_Model_init_126 (by decide) ?_
  refine os_iastN (K := 22) (i := (os_n σ_38 22)) (t0 := 0) (n := 4) hx hb hK hV rfl rfl rfl (os_n_new (σ := σ_38) (K := 22) (L := 8)) rfl (by rw [show os_l (os_sg (os_sg (os_sg (os_sg (os_nw σ_38 22 8) 22 0 (os_n σ_38 22) 3) 22 1 (os_n σ_38 22) 3) 22 2 (os_n σ_38 22) 3) 22 3 (os_n σ_38 22) 3) 22 (os_n σ_38 22) = 8 from (show (if 22 = 22 ∧ os_n σ_38 22 = os_n σ_38 22 then 8 else os_l σ_38 22 (os_n σ_38 22)) = 8 from if_pos ⟨rfl, rfl⟩)]; decide) (by rw [show os_l (os_sg (os_sg (os_sg (os_sg (os_nw σ_38 22 8) 22 0 (os_n σ_38 22) 3) 22 1 (os_n σ_38 22) 3) 22 2 (os_n σ_38 22) 3) 22 3 (os_n σ_38 22) 3) 22 (os_n σ_38 22) = 8 from (show (if 22 = 22 ∧ os_n σ_38 22 = os_n σ_38 22 then 8 else os_l σ_38 22 (os_n σ_38 22)) = 8 from if_pos ⟨rfl, rfl⟩)]; decide) d_Model_init_127 (fun H locs hV => ?_)
  refine lv_dup hx hb d_Model_init_128 rfl ?_
  refine lv_iconst (v := 5) hx hb d_Model_init_129 (by decide) ?_
  refine lv_iconst (v := 3) hx hb d_Model_init_130 (by decide) ?_
  refine os_iastN (K := 22) (i := (os_n σ_38 22)) (t0 := 0) (n := 5) hx hb hK hV rfl rfl rfl (os_n_new (σ := σ_38) (K := 22) (L := 8)) rfl (by rw [show os_l (os_sg (os_sg (os_sg (os_sg (os_sg (os_nw σ_38 22 8) 22 0 (os_n σ_38 22) 3) 22 1 (os_n σ_38 22) 3) 22 2 (os_n σ_38 22) 3) 22 3 (os_n σ_38 22) 3) 22 4 (os_n σ_38 22) 3) 22 (os_n σ_38 22) = 8 from (show (if 22 = 22 ∧ os_n σ_38 22 = os_n σ_38 22 then 8 else os_l σ_38 22 (os_n σ_38 22)) = 8 from if_pos ⟨rfl, rfl⟩)]; decide) (by rw [show os_l (os_sg (os_sg (os_sg (os_sg (os_sg (os_nw σ_38 22 8) 22 0 (os_n σ_38 22) 3) 22 1 (os_n σ_38 22) 3) 22 2 (os_n σ_38 22) 3) 22 3 (os_n σ_38 22) 3) 22 4 (os_n σ_38 22) 3) 22 (os_n σ_38 22) = 8 from (show (if 22 = 22 ∧ os_n σ_38 22 = os_n σ_38 22 then 8 else os_l σ_38 22 (os_n σ_38 22)) = 8 from if_pos ⟨rfl, rfl⟩)]; decide) d_Model_init_131 (fun H locs hV => ?_)
  refine lv_dup hx hb d_Model_init_132 rfl ?_
  refine lv_bipush (v := 6) hx hb d_Model_init_133 (by decide) ?_
  refine lv_iconst (v := 3) hx hb d_Model_init_135 (by decide) ?_
  refine os_iastN (K := 22) (i := (os_n σ_38 22)) (t0 := 0) (n := 6) hx hb hK hV rfl rfl rfl (os_n_new (σ := σ_38) (K := 22) (L := 8)) rfl (by rw [show os_l (os_sg (os_sg (os_sg (os_sg (os_sg (os_sg (os_nw σ_38 22 8) 22 0 (os_n σ_38 22) 3) 22 1 (os_n σ_38 22) 3) 22 2 (os_n σ_38 22) 3) 22 3 (os_n σ_38 22) 3) 22 4 (os_n σ_38 22) 3) 22 5 (os_n σ_38 22) 3) 22 (os_n σ_38 22) = 8 from (show (if 22 = 22 ∧ os_n σ_38 22 = os_n σ_38 22 then 8 else os_l σ_38 22 (os_n σ_38 22)) = 8 from if_pos ⟨rfl, rfl⟩)]; decide) (by rw [show os_l (os_sg (os_sg (os_sg (os_sg (os_sg (os_sg (os_nw σ_38 22 8) 22 0 (os_n σ_38 22) 3) 22 1 (os_n σ_38 22) 3) 22 2 (os_n σ_38 22) 3) 22 3 (os_n σ_38 22) 3) 22 4 (os_n σ_38 22) 3) 22 5 (os_n σ_38 22) 3) 22 (os_n σ_38 22) = 8 from (show (if 22 = 22 ∧ os_n σ_38 22 = os_n σ_38 22 then 8 else os_l σ_38 22 (os_n σ_38 22)) = 8 from if_pos ⟨rfl, rfl⟩)]; decide) d_Model_init_136 (fun H locs hV => ?_)
  refine lv_dup hx hb d_Model_init_137 rfl ?_
  refine lv_bipush (v := 7) hx hb d_Model_init_138 (by decide) ?_
  refine lv_iconst (v := 3) hx hb d_Model_init_140 (by decide) ?_
  refine os_iastN (K := 22) (i := (os_n σ_38 22)) (t0 := 0) (n := 7) hx hb hK hV rfl rfl rfl (os_n_new (σ := σ_38) (K := 22) (L := 8)) rfl (by rw [show os_l (os_sg (os_sg (os_sg (os_sg (os_sg (os_sg (os_sg (os_nw σ_38 22 8) 22 0 (os_n σ_38 22) 3) 22 1 (os_n σ_38 22) 3) 22 2 (os_n σ_38 22) 3) 22 3 (os_n σ_38 22) 3) 22 4 (os_n σ_38 22) 3) 22 5 (os_n σ_38 22) 3) 22 6 (os_n σ_38 22) 3) 22 (os_n σ_38 22) = 8 from (show (if 22 = 22 ∧ os_n σ_38 22 = os_n σ_38 22 then 8 else os_l σ_38 22 (os_n σ_38 22)) = 8 from if_pos ⟨rfl, rfl⟩)]; decide) (by rw [show os_l (os_sg (os_sg (os_sg (os_sg (os_sg (os_sg (os_sg (os_nw σ_38 22 8) 22 0 (os_n σ_38 22) 3) 22 1 (os_n σ_38 22) 3) 22 2 (os_n σ_38 22) 3) 22 3 (os_n σ_38 22) 3) 22 4 (os_n σ_38 22) 3) 22 5 (os_n σ_38 22) 3) 22 6 (os_n σ_38 22) 3) 22 (os_n σ_38 22) = 8 from (show (if 22 = 22 ∧ os_n σ_38 22 = os_n σ_38 22 then 8 else os_l σ_38 22 (os_n σ_38 22)) = 8 from if_pos ⟨rfl, rfl⟩)]; decide) d_Model_init_141 (fun H locs hV => ?_)
  refine os_putRF (C := "RobotFaultsModel") (T := F_Model) (N := 38) (ci := 7) (K := 13) (j := 12) (i := 0) (kt := 22) (v := (some (os_n σ_38 22))) (ty := .array .int) hx hb hts i_Model t_Model t_Model_ok n_Model hown hK hV rfl rfl (by decide) hr_40 (hts _ k_737) rfl hmn rfl rfl rfl (fun t h => by cases h; exact (os_n_new (σ := σ_38) (K := 22) (L := 8))) (by decide +kernel) ⟨rfl, rfl⟩ d_Model_init_142 (fun H locs hV => ?_)
  obtain ⟨σ_43, hs_44⟩ : ∃ z, mkP σ_38 12 22 3 = z := ⟨_, rfl⟩
  have hV : os_V D cA bs σ ad s σ_43 ad_41 H locs := by rw [← hs_44]; exact hV
  have hr_45 : 0 < os_n σ_43 13 := by rw [← hs_44]; exact (mkP_lt (σ := σ_38) (j := 12) (v := 3) hr_40 (by decide))
  refine lv_aload_n hx hb d_Model_init_145 rfl (lv_at hl 0 rfl) ?_
  refine lv_bipush (v := 41) hx hb d_Model_init_146 (by decide) ?_
  refine os_newi (atype := .int) (ty := .int) (K := 23) (t0 := 0) (N' := 41) hx hb rfl (hts _ k_39) (fun _ _ => rfl) hK hbs hV rfl rfl (fun _ => rfl) (by decide) (by decide +kernel) (by decide) (Nat.le_of_ble_eq_true rfl) (Nat.le_of_ble_eq_true rfl) d_Model_init_148 (fun ad_46 H hV hAd_47 => ?_)
  have hl : lv_has ls 1 [(0, .ref (ad_46 13 0))] := by rw [hAd_47 13 0 hr_45]; exact hl
  refine W.eq (g2 := F0 m 150 ls [.ref (ad_46 23 (os_n σ_43 23)), .ref (ad_46 13 0)]) (by rw [hAd_47 13 0 hr_45]) ?_
  refine os_putRF (C := "RobotFaultsModel") (T := F_Model) (N := 38) (ci := 7) (K := 13) (j := 14) (i := 0) (kt := 23) (v := (some (os_n σ_43 23))) (ty := .array .int) hx hb hts i_Model t_Model t_Model_ok n_Model hown hK hV rfl rfl (by decide) hr_45 (hts _ k_739) rfl hmn rfl rfl rfl (fun t h => by cases h; exact (os_n_new (σ := σ_43) (K := 23) (L := 41))) (by decide +kernel) ⟨rfl, rfl⟩ d_Model_init_150 (fun H locs hV => ?_)
  obtain ⟨σ_48, hs_49⟩ : ∃ z, mkA σ_43 13 14 23 41 = z := ⟨_, rfl⟩
  have hV : os_V D cA bs σ ad s σ_48 ad_46 H locs := by rw [← hs_49]; exact hV
  have hr_50 : 0 < os_n σ_48 13 := by rw [← hs_49]; exact (mkA_lt (σ := σ_43) (j := 14) (L := 41) hr_45 (by decide))
  refine lv_aload_n hx hb d_Model_init_153 rfl (lv_at hl 0 rfl) ?_
  refine lv_bipush (v := 41) hx hb d_Model_init_154 (by decide) ?_
  refine os_newi (atype := .int) (ty := .int) (K := 24) (t0 := 0) (N' := 41) hx hb rfl (hts _ k_39) (fun _ _ => rfl) hK hbs hV rfl rfl (fun _ => rfl) (by decide) (by decide +kernel) (by decide) (Nat.le_of_ble_eq_true rfl) (Nat.le_of_ble_eq_true rfl) d_Model_init_156 (fun ad_51 H hV hAd_52 => ?_)
  have hl : lv_has ls 1 [(0, .ref (ad_51 13 0))] := by rw [hAd_52 13 0 hr_50]; exact hl
  refine W.eq (g2 := F0 m 158 ls [.ref (ad_51 24 (os_n σ_48 24)), .ref (ad_51 13 0)]) (by rw [hAd_52 13 0 hr_50]) ?_
  refine os_putRF (C := "RobotFaultsModel") (T := F_Model) (N := 38) (ci := 7) (K := 13) (j := 15) (i := 0) (kt := 24) (v := (some (os_n σ_48 24))) (ty := .array .int) hx hb hts i_Model t_Model t_Model_ok n_Model hown hK hV rfl rfl (by decide) hr_50 (hts _ k_740) rfl hmn rfl rfl rfl (fun t h => by cases h; exact (os_n_new (σ := σ_48) (K := 24) (L := 41))) (by decide +kernel) ⟨rfl, rfl⟩ d_Model_init_158 (fun H locs hV => ?_)
  obtain ⟨σ_53, hs_54⟩ : ∃ z, mkA σ_48 13 15 24 41 = z := ⟨_, rfl⟩
  have hV : os_V D cA bs σ ad s σ_53 ad_51 H locs := by rw [← hs_54]; exact hV
  have hr_55 : 0 < os_n σ_53 13 := by rw [← hs_54]; exact (mkA_lt (σ := σ_48) (j := 15) (L := 41) hr_50 (by decide))
  refine lv_aload_n hx hb d_Model_init_161 rfl (lv_at hl 0 rfl) ?_
  refine lv_bipush (v := 41) hx hb d_Model_init_162 (by decide) ?_
  refine os_newi (atype := .int) (ty := .int) (K := 25) (t0 := 0) (N' := 41) hx hb rfl (hts _ k_39) (fun _ _ => rfl) hK hbs hV rfl rfl (fun _ => rfl) (by decide) (by decide +kernel) (by decide) (Nat.le_of_ble_eq_true rfl) (Nat.le_of_ble_eq_true rfl) d_Model_init_164 (fun ad_56 H hV hAd_57 => ?_)
  have hl : lv_has ls 1 [(0, .ref (ad_56 13 0))] := by rw [hAd_57 13 0 hr_55]; exact hl
  refine W.eq (g2 := F0 m 166 ls [.ref (ad_56 25 (os_n σ_53 25)), .ref (ad_56 13 0)]) (by rw [hAd_57 13 0 hr_55]) ?_
  refine os_putRF (C := "RobotFaultsModel") (T := F_Model) (N := 38) (ci := 7) (K := 13) (j := 16) (i := 0) (kt := 25) (v := (some (os_n σ_53 25))) (ty := .array .int) hx hb hts i_Model t_Model t_Model_ok n_Model hown hK hV rfl rfl (by decide) hr_55 (hts _ k_741) rfl hmn rfl rfl rfl (fun t h => by cases h; exact (os_n_new (σ := σ_53) (K := 25) (L := 41))) (by decide +kernel) ⟨rfl, rfl⟩ d_Model_init_166 (fun H locs hV => ?_)
  obtain ⟨σ_58, hs_59⟩ : ∃ z, mkA σ_53 13 16 25 41 = z := ⟨_, rfl⟩
  have hV : os_V D cA bs σ ad s σ_58 ad_56 H locs := by rw [← hs_59]; exact hV
  have hr_60 : 0 < os_n σ_58 13 := by rw [← hs_59]; exact (mkA_lt (σ := σ_53) (j := 16) (L := 41) hr_55 (by decide))
  refine lv_aload_n hx hb d_Model_init_169 rfl (lv_at hl 0 rfl) ?_
  refine lv_bipush (v := 41) hx hb d_Model_init_170 (by decide) ?_
  refine os_newi (atype := .int) (ty := .int) (K := 26) (t0 := 0) (N' := 41) hx hb rfl (hts _ k_39) (fun _ _ => rfl) hK hbs hV rfl rfl (fun _ => rfl) (by decide) (by decide +kernel) (by decide) (Nat.le_of_ble_eq_true rfl) (Nat.le_of_ble_eq_true rfl) d_Model_init_172 (fun ad_61 H hV hAd_62 => ?_)
  have hl : lv_has ls 1 [(0, .ref (ad_61 13 0))] := by rw [hAd_62 13 0 hr_60]; exact hl
  refine W.eq (g2 := F0 m 174 ls [.ref (ad_61 26 (os_n σ_58 26)), .ref (ad_61 13 0)]) (by rw [hAd_62 13 0 hr_60]) ?_
  refine os_putRF (C := "RobotFaultsModel") (T := F_Model) (N := 38) (ci := 7) (K := 13) (j := 17) (i := 0) (kt := 26) (v := (some (os_n σ_58 26))) (ty := .array .int) hx hb hts i_Model t_Model t_Model_ok n_Model hown hK hV rfl rfl (by decide) hr_60 (hts _ k_742) rfl hmn rfl rfl rfl (fun t h => by cases h; exact (os_n_new (σ := σ_58) (K := 26) (L := 41))) (by decide +kernel) ⟨rfl, rfl⟩ d_Model_init_174 (fun H locs hV => ?_)
  obtain ⟨σ_63, hs_64⟩ : ∃ z, mkA σ_58 13 17 26 41 = z := ⟨_, rfl⟩
  have hV : os_V D cA bs σ ad s σ_63 ad_61 H locs := by rw [← hs_64]; exact hV
  have hr_65 : 0 < os_n σ_63 13 := by rw [← hs_64]; exact (mkA_lt (σ := σ_58) (j := 17) (L := 41) hr_60 (by decide))
  refine lv_aload_n hx hb d_Model_init_177 rfl (lv_at hl 0 rfl) ?_
  refine lv_bipush (v := 41) hx hb d_Model_init_178 (by decide) ?_
  refine os_newi (atype := .int) (ty := .int) (K := 27) (t0 := 0) (N' := 41) hx hb rfl (hts _ k_39) (fun _ _ => rfl) hK hbs hV rfl rfl (fun _ => rfl) (by decide) (by decide +kernel) (by decide) (Nat.le_of_ble_eq_true rfl) (Nat.le_of_ble_eq_true rfl) d_Model_init_180 (fun ad_66 H hV hAd_67 => ?_)
  have hl : lv_has ls 1 [(0, .ref (ad_66 13 0))] := by rw [hAd_67 13 0 hr_65]; exact hl
  refine W.eq (g2 := F0 m 182 ls [.ref (ad_66 27 (os_n σ_63 27)), .ref (ad_66 13 0)]) (by rw [hAd_67 13 0 hr_65]) ?_
  refine os_putRF (C := "RobotFaultsModel") (T := F_Model) (N := 38) (ci := 7) (K := 13) (j := 18) (i := 0) (kt := 27) (v := (some (os_n σ_63 27))) (ty := .array .int) hx hb hts i_Model t_Model t_Model_ok n_Model hown hK hV rfl rfl (by decide) hr_65 (hts _ k_743) rfl hmn rfl rfl rfl (fun t h => by cases h; exact (os_n_new (σ := σ_63) (K := 27) (L := 41))) (by decide +kernel) ⟨rfl, rfl⟩ d_Model_init_182 (fun H locs hV => ?_)
  obtain ⟨σ_68, hs_69⟩ : ∃ z, mkA σ_63 13 18 27 41 = z := ⟨_, rfl⟩
  have hV : os_V D cA bs σ ad s σ_68 ad_66 H locs := by rw [← hs_69]; exact hV
  have hr_70 : 0 < os_n σ_68 13 := by rw [← hs_69]; exact (mkA_lt (σ := σ_63) (j := 18) (L := 41) hr_65 (by decide))
  refine lv_aload_n hx hb d_Model_init_185 rfl (lv_at hl 0 rfl) ?_
  refine lv_bipush (v := 41) hx hb d_Model_init_186 (by decide) ?_
  refine os_newi (atype := .int) (ty := .int) (K := 28) (t0 := 0) (N' := 41) hx hb rfl (hts _ k_39) (fun _ _ => rfl) hK hbs hV rfl rfl (fun _ => rfl) (by decide) (by decide +kernel) (by decide) (Nat.le_of_ble_eq_true rfl) (Nat.le_of_ble_eq_true rfl) d_Model_init_188 (fun ad_71 H hV hAd_72 => ?_)
  have hl : lv_has ls 1 [(0, .ref (ad_71 13 0))] := by rw [hAd_72 13 0 hr_70]; exact hl
  refine W.eq (g2 := F0 m 190 ls [.ref (ad_71 28 (os_n σ_68 28)), .ref (ad_71 13 0)]) (by rw [hAd_72 13 0 hr_70]) ?_
  refine os_putRF (C := "RobotFaultsModel") (T := F_Model) (N := 38) (ci := 7) (K := 13) (j := 19) (i := 0) (kt := 28) (v := (some (os_n σ_68 28))) (ty := .array .int) hx hb hts i_Model t_Model t_Model_ok n_Model hown hK hV rfl rfl (by decide) hr_70 (hts _ k_744) rfl hmn rfl rfl rfl (fun t h => by cases h; exact (os_n_new (σ := σ_68) (K := 28) (L := 41))) (by decide +kernel) ⟨rfl, rfl⟩ d_Model_init_190 (fun H locs hV => ?_)
  obtain ⟨σ_73, hs_74⟩ : ∃ z, mkA σ_68 13 19 28 41 = z := ⟨_, rfl⟩
  have hV : os_V D cA bs σ ad s σ_73 ad_71 H locs := by rw [← hs_74]; exact hV
  have hr_75 : 0 < os_n σ_73 13 := by rw [← hs_74]; exact (mkA_lt (σ := σ_68) (j := 19) (L := 41) hr_70 (by decide))
  refine lv_aload_n hx hb d_Model_init_193 rfl (lv_at hl 0 rfl) ?_
  refine lv_bipush (v := 41) hx hb d_Model_init_194 (by decide) ?_
  refine os_newi (atype := .int) (ty := .int) (K := 29) (t0 := 0) (N' := 41) hx hb rfl (hts _ k_39) (fun _ _ => rfl) hK hbs hV rfl rfl (fun _ => rfl) (by decide) (by decide +kernel) (by decide) (Nat.le_of_ble_eq_true rfl) (Nat.le_of_ble_eq_true rfl) d_Model_init_196 (fun ad_76 H hV hAd_77 => ?_)
  have hl : lv_has ls 1 [(0, .ref (ad_76 13 0))] := by rw [hAd_77 13 0 hr_75]; exact hl
  refine W.eq (g2 := F0 m 198 ls [.ref (ad_76 29 (os_n σ_73 29)), .ref (ad_76 13 0)]) (by rw [hAd_77 13 0 hr_75]) ?_
  refine os_putRF (C := "RobotFaultsModel") (T := F_Model) (N := 38) (ci := 7) (K := 13) (j := 20) (i := 0) (kt := 29) (v := (some (os_n σ_73 29))) (ty := .array .int) hx hb hts i_Model t_Model t_Model_ok n_Model hown hK hV rfl rfl (by decide) hr_75 (hts _ k_745) rfl hmn rfl rfl rfl (fun t h => by cases h; exact (os_n_new (σ := σ_73) (K := 29) (L := 41))) (by decide +kernel) ⟨rfl, rfl⟩ d_Model_init_198 (fun H locs hV => ?_)
  obtain ⟨σ_78, hs_79⟩ : ∃ z, mkA σ_73 13 20 29 41 = z := ⟨_, rfl⟩
  have hV : os_V D cA bs σ ad s σ_78 ad_76 H locs := by rw [← hs_79]; exact hV
  have hr_80 : 0 < os_n σ_78 13 := by rw [← hs_79]; exact (mkA_lt (σ := σ_73) (j := 20) (L := 41) hr_75 (by decide))
  refine lv_aload_n hx hb d_Model_init_201 rfl (lv_at hl 0 rfl) ?_
  refine lv_bipush (v := 41) hx hb d_Model_init_202 (by decide) ?_
  refine os_newi (atype := .boolean) (ty := .boolean) (K := 30) (t0 := 1) (N' := 41) hx hb rfl (hts _ k_840) (fun _ _ => rfl) hK hbs hV rfl rfl (fun _ => rfl) (by decide) (by decide +kernel) (by decide) (Nat.le_of_ble_eq_true rfl) (Nat.le_of_ble_eq_true rfl) d_Model_init_204 (fun ad_81 H hV hAd_82 => ?_)
  have hl : lv_has ls 1 [(0, .ref (ad_81 13 0))] := by rw [hAd_82 13 0 hr_80]; exact hl
  refine W.eq (g2 := F0 m 206 ls [.ref (ad_81 30 (os_n σ_78 30)), .ref (ad_81 13 0)]) (by rw [hAd_82 13 0 hr_80]) ?_
  refine os_putRF (C := "RobotFaultsModel") (T := F_Model) (N := 38) (ci := 7) (K := 13) (j := 21) (i := 0) (kt := 30) (v := (some (os_n σ_78 30))) (ty := .array .boolean) hx hb hts i_Model t_Model t_Model_ok n_Model hown hK hV rfl rfl (by decide) hr_80 (hts _ k_746) rfl hmn rfl rfl rfl (fun t h => by cases h; exact (os_n_new (σ := σ_78) (K := 30) (L := 41))) (by decide +kernel) ⟨rfl, rfl⟩ d_Model_init_206 (fun H locs hV => ?_)
  obtain ⟨σ_83, hs_84⟩ : ∃ z, mkA σ_78 13 21 30 41 = z := ⟨_, rfl⟩
  have hV : os_V D cA bs σ ad s σ_83 ad_81 H locs := by rw [← hs_84]; exact hV
  have hr_85 : 0 < os_n σ_83 13 := by rw [← hs_84]; exact (mkA_lt (σ := σ_78) (j := 21) (L := 41) hr_80 (by decide))
  refine lv_aload_n hx hb d_Model_init_209 rfl (lv_at hl 0 rfl) ?_
  refine lv_bipush (v := 41) hx hb d_Model_init_210 (by decide) ?_
  refine os_newi (atype := .int) (ty := .int) (K := 31) (t0 := 0) (N' := 41) hx hb rfl (hts _ k_39) (fun _ _ => rfl) hK hbs hV rfl rfl (fun _ => rfl) (by decide) (by decide +kernel) (by decide) (Nat.le_of_ble_eq_true rfl) (Nat.le_of_ble_eq_true rfl) d_Model_init_212 (fun ad_86 H hV hAd_87 => ?_)
  have hl : lv_has ls 1 [(0, .ref (ad_86 13 0))] := by rw [hAd_87 13 0 hr_85]; exact hl
  refine W.eq (g2 := F0 m 214 ls [.ref (ad_86 31 (os_n σ_83 31)), .ref (ad_86 13 0)]) (by rw [hAd_87 13 0 hr_85]) ?_
  refine os_putRF (C := "RobotFaultsModel") (T := F_Model) (N := 38) (ci := 7) (K := 13) (j := 22) (i := 0) (kt := 31) (v := (some (os_n σ_83 31))) (ty := .array .int) hx hb hts i_Model t_Model t_Model_ok n_Model hown hK hV rfl rfl (by decide) hr_85 (hts _ k_747) rfl hmn rfl rfl rfl (fun t h => by cases h; exact (os_n_new (σ := σ_83) (K := 31) (L := 41))) (by decide +kernel) ⟨rfl, rfl⟩ d_Model_init_214 (fun H locs hV => ?_)
  obtain ⟨σ_88, hs_89⟩ : ∃ z, mkA σ_83 13 22 31 41 = z := ⟨_, rfl⟩
  have hV : os_V D cA bs σ ad s σ_88 ad_86 H locs := by rw [← hs_89]; exact hV
  have hr_90 : 0 < os_n σ_88 13 := by rw [← hs_89]; exact (mkA_lt (σ := σ_83) (j := 22) (L := 41) hr_85 (by decide))
  refine lv_aload_n hx hb d_Model_init_217 rfl (lv_at hl 0 rfl) ?_
  refine lv_bipush (v := 41) hx hb d_Model_init_218 (by decide) ?_
  refine os_newi (atype := .int) (ty := .int) (K := 32) (t0 := 0) (N' := 41) hx hb rfl (hts _ k_39) (fun _ _ => rfl) hK hbs hV rfl rfl (fun _ => rfl) (by decide) (by decide +kernel) (by decide) (Nat.le_of_ble_eq_true rfl) (Nat.le_of_ble_eq_true rfl) d_Model_init_220 (fun ad_91 H hV hAd_92 => ?_)
  have hl : lv_has ls 1 [(0, .ref (ad_91 13 0))] := by rw [hAd_92 13 0 hr_90]; exact hl
  refine W.eq (g2 := F0 m 222 ls [.ref (ad_91 32 (os_n σ_88 32)), .ref (ad_91 13 0)]) (by rw [hAd_92 13 0 hr_90]) ?_
  refine os_putRF (C := "RobotFaultsModel") (T := F_Model) (N := 38) (ci := 7) (K := 13) (j := 23) (i := 0) (kt := 32) (v := (some (os_n σ_88 32))) (ty := .array .int) hx hb hts i_Model t_Model t_Model_ok n_Model hown hK hV rfl rfl (by decide) hr_90 (hts _ k_748) rfl hmn rfl rfl rfl (fun t h => by cases h; exact (os_n_new (σ := σ_88) (K := 32) (L := 41))) (by decide +kernel) ⟨rfl, rfl⟩ d_Model_init_222 (fun H locs hV => ?_)
  obtain ⟨σ_93, hs_94⟩ : ∃ z, mkA σ_88 13 23 32 41 = z := ⟨_, rfl⟩
  have hV : os_V D cA bs σ ad s σ_93 ad_91 H locs := by rw [← hs_94]; exact hV
  have hr_95 : 0 < os_n σ_93 13 := by rw [← hs_94]; exact (mkA_lt (σ := σ_88) (j := 23) (L := 41) hr_90 (by decide))
  refine lv_aload_n hx hb d_Model_init_225 rfl (lv_at hl 0 rfl) ?_
  refine lv_bipush (v := 40) hx hb d_Model_init_226 (by decide) ?_
  refine os_newi (atype := .int) (ty := .int) (K := 33) (t0 := 0) (N' := 40) hx hb rfl (hts _ k_39) (fun _ _ => rfl) hK hbs hV rfl rfl (fun _ => rfl) (by decide) (by decide +kernel) (by decide) (Nat.le_of_ble_eq_true rfl) (Nat.le_of_ble_eq_true rfl) d_Model_init_228 (fun ad_96 H hV hAd_97 => ?_)
  have hl : lv_has ls 1 [(0, .ref (ad_96 13 0))] := by rw [hAd_97 13 0 hr_95]; exact hl
  refine W.eq (g2 := F0 m 230 ls [.ref (ad_96 33 (os_n σ_93 33)), .ref (ad_96 13 0)]) (by rw [hAd_97 13 0 hr_95]) ?_
  refine os_putRF (C := "RobotFaultsModel") (T := F_Model) (N := 38) (ci := 7) (K := 13) (j := 25) (i := 0) (kt := 33) (v := (some (os_n σ_93 33))) (ty := .array .int) hx hb hts i_Model t_Model t_Model_ok n_Model hown hK hV rfl rfl (by decide) hr_95 (hts _ k_750) rfl hmn rfl rfl rfl (fun t h => by cases h; exact (os_n_new (σ := σ_93) (K := 33) (L := 40))) (by decide +kernel) ⟨rfl, rfl⟩ d_Model_init_230 (fun H locs hV => ?_)
  obtain ⟨σ_98, hs_99⟩ : ∃ z, mkA σ_93 13 25 33 40 = z := ⟨_, rfl⟩
  have hV : os_V D cA bs σ ad s σ_98 ad_96 H locs := by rw [← hs_99]; exact hV
  have hr_100 : 0 < os_n σ_98 13 := by rw [← hs_99]; exact (mkA_lt (σ := σ_93) (j := 25) (L := 40) hr_95 (by decide))
  refine lv_aload_n hx hb d_Model_init_233 rfl (lv_at hl 0 rfl) ?_
  refine lv_bipush (v := 40) hx hb d_Model_init_234 (by decide) ?_
  refine os_newi (atype := .int) (ty := .int) (K := 34) (t0 := 0) (N' := 40) hx hb rfl (hts _ k_39) (fun _ _ => rfl) hK hbs hV rfl rfl (fun _ => rfl) (by decide) (by decide +kernel) (by decide) (Nat.le_of_ble_eq_true rfl) (Nat.le_of_ble_eq_true rfl) d_Model_init_236 (fun ad_101 H hV hAd_102 => ?_)
  have hl : lv_has ls 1 [(0, .ref (ad_101 13 0))] := by rw [hAd_102 13 0 hr_100]; exact hl
  refine W.eq (g2 := F0 m 238 ls [.ref (ad_101 34 (os_n σ_98 34)), .ref (ad_101 13 0)]) (by rw [hAd_102 13 0 hr_100]) ?_
  refine os_putRF (C := "RobotFaultsModel") (T := F_Model) (N := 38) (ci := 7) (K := 13) (j := 26) (i := 0) (kt := 34) (v := (some (os_n σ_98 34))) (ty := .array .int) hx hb hts i_Model t_Model t_Model_ok n_Model hown hK hV rfl rfl (by decide) hr_100 (hts _ k_751) rfl hmn rfl rfl rfl (fun t h => by cases h; exact (os_n_new (σ := σ_98) (K := 34) (L := 40))) (by decide +kernel) ⟨rfl, rfl⟩ d_Model_init_238 (fun H locs hV => ?_)
  obtain ⟨σ_103, hs_104⟩ : ∃ z, mkA σ_98 13 26 34 40 = z := ⟨_, rfl⟩
  have hV : os_V D cA bs σ ad s σ_103 ad_101 H locs := by rw [← hs_104]; exact hV
  have hr_105 : 0 < os_n σ_103 13 := by rw [← hs_104]; exact (mkA_lt (σ := σ_98) (j := 26) (L := 40) hr_100 (by decide))
  refine lv_aload_n hx hb d_Model_init_241 rfl (lv_at hl 0 rfl) ?_
  refine lv_bipush (v := 40) hx hb d_Model_init_242 (by decide) ?_
  refine os_newi (atype := .int) (ty := .int) (K := 35) (t0 := 0) (N' := 40) hx hb rfl (hts _ k_39) (fun _ _ => rfl) hK hbs hV rfl rfl (fun _ => rfl) (by decide) (by decide +kernel) (by decide) (Nat.le_of_ble_eq_true rfl) (Nat.le_of_ble_eq_true rfl) d_Model_init_244 (fun ad_106 H hV hAd_107 => ?_)
  have hl : lv_has ls 1 [(0, .ref (ad_106 13 0))] := by rw [hAd_107 13 0 hr_105]; exact hl
  refine W.eq (g2 := F0 m 246 ls [.ref (ad_106 35 (os_n σ_103 35)), .ref (ad_106 13 0)]) (by rw [hAd_107 13 0 hr_105]) ?_
  refine os_putRF (C := "RobotFaultsModel") (T := F_Model) (N := 38) (ci := 7) (K := 13) (j := 27) (i := 0) (kt := 35) (v := (some (os_n σ_103 35))) (ty := .array .int) hx hb hts i_Model t_Model t_Model_ok n_Model hown hK hV rfl rfl (by decide) hr_105 (hts _ k_752) rfl hmn rfl rfl rfl (fun t h => by cases h; exact (os_n_new (σ := σ_103) (K := 35) (L := 40))) (by decide +kernel) ⟨rfl, rfl⟩ d_Model_init_246 (fun H locs hV => ?_)
  obtain ⟨σ_108, hs_109⟩ : ∃ z, mkA σ_103 13 27 35 40 = z := ⟨_, rfl⟩
  have hV : os_V D cA bs σ ad s σ_108 ad_106 H locs := by rw [← hs_109]; exact hV
  have hr_110 : 0 < os_n σ_108 13 := by rw [← hs_109]; exact (mkA_lt (σ := σ_103) (j := 27) (L := 40) hr_105 (by decide))
  refine lv_aload_n hx hb d_Model_init_249 rfl (lv_at hl 0 rfl) ?_
  refine lv_bipush (v := 40) hx hb d_Model_init_250 (by decide) ?_
  refine os_newi (atype := .int) (ty := .int) (K := 36) (t0 := 0) (N' := 40) hx hb rfl (hts _ k_39) (fun _ _ => rfl) hK hbs hV rfl rfl (fun _ => rfl) (by decide) (by decide +kernel) (by decide) (Nat.le_of_ble_eq_true rfl) (Nat.le_of_ble_eq_true rfl) d_Model_init_252 (fun ad_111 H hV hAd_112 => ?_)
  have hl : lv_has ls 1 [(0, .ref (ad_111 13 0))] := by rw [hAd_112 13 0 hr_110]; exact hl
  refine W.eq (g2 := F0 m 254 ls [.ref (ad_111 36 (os_n σ_108 36)), .ref (ad_111 13 0)]) (by rw [hAd_112 13 0 hr_110]) ?_
  refine os_putRF (C := "RobotFaultsModel") (T := F_Model) (N := 38) (ci := 7) (K := 13) (j := 28) (i := 0) (kt := 36) (v := (some (os_n σ_108 36))) (ty := .array .int) hx hb hts i_Model t_Model t_Model_ok n_Model hown hK hV rfl rfl (by decide) hr_110 (hts _ k_753) rfl hmn rfl rfl rfl (fun t h => by cases h; exact (os_n_new (σ := σ_108) (K := 36) (L := 40))) (by decide +kernel) ⟨rfl, rfl⟩ d_Model_init_254 (fun H locs hV => ?_)
  obtain ⟨σ_113, hs_114⟩ : ∃ z, mkA σ_108 13 28 36 40 = z := ⟨_, rfl⟩
  have hV : os_V D cA bs σ ad s σ_113 ad_111 H locs := by rw [← hs_114]; exact hV
  have hr_115 : 0 < os_n σ_113 13 := by rw [← hs_114]; exact (mkA_lt (σ := σ_108) (j := 28) (L := 40) hr_110 (by decide))
  refine lv_aload_n hx hb d_Model_init_257 rfl (lv_at hl 0 rfl) ?_
  refine lv_bipush (v := 40) hx hb d_Model_init_258 (by decide) ?_
  refine os_newi (atype := .int) (ty := .int) (K := 37) (t0 := 0) (N' := 40) hx hb rfl (hts _ k_39) (fun _ _ => rfl) hK hbs hV rfl rfl (fun _ => rfl) (by decide) (by decide +kernel) (by decide) (Nat.le_of_ble_eq_true rfl) (Nat.le_of_ble_eq_true rfl) d_Model_init_260 (fun ad_116 H hV hAd_117 => ?_)
  have hl : lv_has ls 1 [(0, .ref (ad_116 13 0))] := by rw [hAd_117 13 0 hr_115]; exact hl
  refine W.eq (g2 := F0 m 262 ls [.ref (ad_116 37 (os_n σ_113 37)), .ref (ad_116 13 0)]) (by rw [hAd_117 13 0 hr_115]) ?_
  refine os_putRF (C := "RobotFaultsModel") (T := F_Model) (N := 38) (ci := 7) (K := 13) (j := 29) (i := 0) (kt := 37) (v := (some (os_n σ_113 37))) (ty := .array .int) hx hb hts i_Model t_Model t_Model_ok n_Model hown hK hV rfl rfl (by decide) hr_115 (hts _ k_754) rfl hmn rfl rfl rfl (fun t h => by cases h; exact (os_n_new (σ := σ_113) (K := 37) (L := 40))) (by decide +kernel) ⟨rfl, rfl⟩ d_Model_init_262 (fun H locs hV => ?_)
  obtain ⟨σ_118, hs_119⟩ : ∃ z, mkA σ_113 13 29 37 40 = z := ⟨_, rfl⟩
  have hV : os_V D cA bs σ ad s σ_118 ad_116 H locs := by rw [← hs_119]; exact hV
  have hr_120 : 0 < os_n σ_118 13 := by rw [← hs_119]; exact (mkA_lt (σ := σ_113) (j := 29) (L := 40) hr_115 (by decide))
  refine lv_aload_n hx hb d_Model_init_265 rfl (lv_at hl 0 rfl) ?_
  refine lv_bipush (v := 40) hx hb d_Model_init_266 (by decide) ?_
  refine os_newi (atype := .int) (ty := .int) (K := 38) (t0 := 0) (N' := 40) hx hb rfl (hts _ k_39) (fun _ _ => rfl) hK hbs hV rfl rfl (fun _ => rfl) (by decide) (by decide +kernel) (by decide) (Nat.le_of_ble_eq_true rfl) (Nat.le_of_ble_eq_true rfl) d_Model_init_268 (fun ad_121 H hV hAd_122 => ?_)
  have hl : lv_has ls 1 [(0, .ref (ad_121 13 0))] := by rw [hAd_122 13 0 hr_120]; exact hl
  refine W.eq (g2 := F0 m 270 ls [.ref (ad_121 38 (os_n σ_118 38)), .ref (ad_121 13 0)]) (by rw [hAd_122 13 0 hr_120]) ?_
  refine os_putRF (C := "RobotFaultsModel") (T := F_Model) (N := 38) (ci := 7) (K := 13) (j := 30) (i := 0) (kt := 38) (v := (some (os_n σ_118 38))) (ty := .array .int) hx hb hts i_Model t_Model t_Model_ok n_Model hown hK hV rfl rfl (by decide) hr_120 (hts _ k_755) rfl hmn rfl rfl rfl (fun t h => by cases h; exact (os_n_new (σ := σ_118) (K := 38) (L := 40))) (by decide +kernel) ⟨rfl, rfl⟩ d_Model_init_270 (fun H locs hV => ?_)
  obtain ⟨σ_123, hs_124⟩ : ∃ z, mkA σ_118 13 30 38 40 = z := ⟨_, rfl⟩
  have hV : os_V D cA bs σ ad s σ_123 ad_121 H locs := by rw [← hs_124]; exact hV
  have hr_125 : 0 < os_n σ_123 13 := by rw [← hs_124]; exact (mkA_lt (σ := σ_118) (j := 30) (L := 40) hr_120 (by decide))
  refine lv_aload_n hx hb d_Model_init_273 rfl (lv_at hl 0 rfl) ?_
  refine lv_bipush (v := 40) hx hb d_Model_init_274 (by decide) ?_
  refine os_newi (atype := .int) (ty := .int) (K := 39) (t0 := 0) (N' := 40) hx hb rfl (hts _ k_39) (fun _ _ => rfl) hK hbs hV rfl rfl (fun _ => rfl) (by decide) (by decide +kernel) (by decide) (Nat.le_of_ble_eq_true rfl) (Nat.le_of_ble_eq_true rfl) d_Model_init_276 (fun ad_126 H hV hAd_127 => ?_)
  have hl : lv_has ls 1 [(0, .ref (ad_126 13 0))] := by rw [hAd_127 13 0 hr_125]; exact hl
  refine W.eq (g2 := F0 m 278 ls [.ref (ad_126 39 (os_n σ_123 39)), .ref (ad_126 13 0)]) (by rw [hAd_127 13 0 hr_125]) ?_
  refine os_putRF (C := "RobotFaultsModel") (T := F_Model) (N := 38) (ci := 7) (K := 13) (j := 31) (i := 0) (kt := 39) (v := (some (os_n σ_123 39))) (ty := .array .int) hx hb hts i_Model t_Model t_Model_ok n_Model hown hK hV rfl rfl (by decide) hr_125 (hts _ k_756) rfl hmn rfl rfl rfl (fun t h => by cases h; exact (os_n_new (σ := σ_123) (K := 39) (L := 40))) (by decide +kernel) ⟨rfl, rfl⟩ d_Model_init_278 (fun H locs hV => ?_)
  obtain ⟨σ_128, hs_129⟩ : ∃ z, mkA σ_123 13 31 39 40 = z := ⟨_, rfl⟩
  have hV : os_V D cA bs σ ad s σ_128 ad_126 H locs := by rw [← hs_129]; exact hV
  have hr_130 : 0 < os_n σ_128 13 := by rw [← hs_129]; exact (mkA_lt (σ := σ_123) (j := 31) (L := 40) hr_125 (by decide))
  refine lv_aload_n hx hb d_Model_init_281 rfl (lv_at hl 0 rfl) ?_
  refine lv_bipush (v := 40) hx hb d_Model_init_282 (by decide) ?_
  refine os_newi (atype := .int) (ty := .int) (K := 40) (t0 := 0) (N' := 40) hx hb rfl (hts _ k_39) (fun _ _ => rfl) hK hbs hV rfl rfl (fun _ => rfl) (by decide) (by decide +kernel) (by decide) (Nat.le_of_ble_eq_true rfl) (Nat.le_of_ble_eq_true rfl) d_Model_init_284 (fun ad_131 H hV hAd_132 => ?_)
  have hl : lv_has ls 1 [(0, .ref (ad_131 13 0))] := by rw [hAd_132 13 0 hr_130]; exact hl
  refine W.eq (g2 := F0 m 286 ls [.ref (ad_131 40 (os_n σ_128 40)), .ref (ad_131 13 0)]) (by rw [hAd_132 13 0 hr_130]) ?_
  refine os_putRF (C := "RobotFaultsModel") (T := F_Model) (N := 38) (ci := 7) (K := 13) (j := 32) (i := 0) (kt := 40) (v := (some (os_n σ_128 40))) (ty := .array .int) hx hb hts i_Model t_Model t_Model_ok n_Model hown hK hV rfl rfl (by decide) hr_130 (hts _ k_757) rfl hmn rfl rfl rfl (fun t h => by cases h; exact (os_n_new (σ := σ_128) (K := 40) (L := 40))) (by decide +kernel) ⟨rfl, rfl⟩ d_Model_init_286 (fun H locs hV => ?_)
  obtain ⟨σ_133, hs_134⟩ : ∃ z, mkA σ_128 13 32 40 40 = z := ⟨_, rfl⟩
  have hV : os_V D cA bs σ ad s σ_133 ad_131 H locs := by rw [← hs_134]; exact hV
  have hr_135 : 0 < os_n σ_133 13 := by rw [← hs_134]; exact (mkA_lt (σ := σ_128) (j := 32) (L := 40) hr_130 (by decide))
  refine lv_aload_n hx hb d_Model_init_289 rfl (lv_at hl 0 rfl) ?_
  refine lv_bipush (v := 10) hx hb d_Model_init_290 (by decide) ?_
  refine os_newi (atype := .int) (ty := .int) (K := 41) (t0 := 0) (N' := 10) hx hb rfl (hts _ k_39) (fun _ _ => rfl) hK hbs hV rfl rfl (fun _ => rfl) (by decide) (by decide +kernel) (by decide) (Nat.le_of_ble_eq_true rfl) (Nat.le_of_ble_eq_true rfl) d_Model_init_292 (fun ad_136 H hV hAd_137 => ?_)
  have hl : lv_has ls 1 [(0, .ref (ad_136 13 0))] := by rw [hAd_137 13 0 hr_135]; exact hl
  refine W.eq (g2 := F0 m 294 ls [.ref (ad_136 41 (os_n σ_133 41)), .ref (ad_136 13 0)]) (by rw [hAd_137 13 0 hr_135]) ?_
  refine os_putRF (C := "RobotFaultsModel") (T := F_Model) (N := 38) (ci := 7) (K := 13) (j := 34) (i := 0) (kt := 41) (v := (some (os_n σ_133 41))) (ty := .array .int) hx hb hts i_Model t_Model t_Model_ok n_Model hown hK hV rfl rfl (by decide) hr_135 (hts _ k_759) rfl hmn rfl rfl rfl (fun t h => by cases h; exact (os_n_new (σ := σ_133) (K := 41) (L := 10))) (by decide +kernel) ⟨rfl, rfl⟩ d_Model_init_294 (fun H locs hV => ?_)
  obtain ⟨σ_138, hs_139⟩ : ∃ z, mkA σ_133 13 34 41 10 = z := ⟨_, rfl⟩
  have hV : os_V D cA bs σ ad s σ_138 ad_136 H locs := by rw [← hs_139]; exact hV
  have hr_140 : 0 < os_n σ_138 13 := by rw [← hs_139]; exact (mkA_lt (σ := σ_133) (j := 34) (L := 10) hr_135 (by decide))
  refine lv_aload_n hx hb d_Model_init_297 rfl (lv_at hl 0 rfl) ?_
  refine lv_bipush (v := 10) hx hb d_Model_init_298 (by decide) ?_
  refine os_newi (atype := .int) (ty := .int) (K := 42) (t0 := 0) (N' := 10) hx hb rfl (hts _ k_39) (fun _ _ => rfl) hK hbs hV rfl rfl (fun _ => rfl) (by decide) (by decide +kernel) (by decide) (Nat.le_of_ble_eq_true rfl) (Nat.le_of_ble_eq_true rfl) d_Model_init_300 (fun ad_141 H hV hAd_142 => ?_)
  have hl : lv_has ls 1 [(0, .ref (ad_141 13 0))] := by rw [hAd_142 13 0 hr_140]; exact hl
  refine W.eq (g2 := F0 m 302 ls [.ref (ad_141 42 (os_n σ_138 42)), .ref (ad_141 13 0)]) (by rw [hAd_142 13 0 hr_140]) ?_
  refine os_putRF (C := "RobotFaultsModel") (T := F_Model) (N := 38) (ci := 7) (K := 13) (j := 35) (i := 0) (kt := 42) (v := (some (os_n σ_138 42))) (ty := .array .int) hx hb hts i_Model t_Model t_Model_ok n_Model hown hK hV rfl rfl (by decide) hr_140 (hts _ k_760) rfl hmn rfl rfl rfl (fun t h => by cases h; exact (os_n_new (σ := σ_138) (K := 42) (L := 10))) (by decide +kernel) ⟨rfl, rfl⟩ d_Model_init_302 (fun H locs hV => ?_)
  obtain ⟨σ_143, hs_144⟩ : ∃ z, mkA σ_138 13 35 42 10 = z := ⟨_, rfl⟩
  have hV : os_V D cA bs σ ad s σ_143 ad_141 H locs := by rw [← hs_144]; exact hV
  have hr_145 : 0 < os_n σ_143 13 := by rw [← hs_144]; exact (mkA_lt (σ := σ_138) (j := 35) (L := 10) hr_140 (by decide))
  refine lv_aload_n hx hb d_Model_init_305 rfl (lv_at hl 0 rfl) ?_
  refine lv_bipush (v := 10) hx hb d_Model_init_306 (by decide) ?_
  refine os_newi (atype := .int) (ty := .int) (K := 43) (t0 := 0) (N' := 10) hx hb rfl (hts _ k_39) (fun _ _ => rfl) hK hbs hV rfl rfl (fun _ => rfl) (by decide) (by decide +kernel) (by decide) (Nat.le_of_ble_eq_true rfl) (Nat.le_of_ble_eq_true rfl) d_Model_init_308 (fun ad_146 H hV hAd_147 => ?_)
  have hl : lv_has ls 1 [(0, .ref (ad_146 13 0))] := by rw [hAd_147 13 0 hr_145]; exact hl
  refine W.eq (g2 := F0 m 310 ls [.ref (ad_146 43 (os_n σ_143 43)), .ref (ad_146 13 0)]) (by rw [hAd_147 13 0 hr_145]) ?_
  refine os_putRF (C := "RobotFaultsModel") (T := F_Model) (N := 38) (ci := 7) (K := 13) (j := 36) (i := 0) (kt := 43) (v := (some (os_n σ_143 43))) (ty := .array .int) hx hb hts i_Model t_Model t_Model_ok n_Model hown hK hV rfl rfl (by decide) hr_145 (hts _ k_761) rfl hmn rfl rfl rfl (fun t h => by cases h; exact (os_n_new (σ := σ_143) (K := 43) (L := 10))) (by decide +kernel) ⟨rfl, rfl⟩ d_Model_init_310 (fun H locs hV => ?_)
  obtain ⟨σ_148, hs_149⟩ : ∃ z, mkA σ_143 13 36 43 10 = z := ⟨_, rfl⟩
  have hV : os_V D cA bs σ ad s σ_148 ad_146 H locs := by rw [← hs_149]; exact hV
  have hr_150 : 0 < os_n σ_148 13 := by rw [← hs_149]; exact (mkA_lt (σ := σ_143) (j := 36) (L := 10) hr_145 (by decide))
  refine lv_aload_n hx hb d_Model_init_313 rfl (lv_at hl 0 rfl) ?_
  refine lv_bipush (v := 20) hx hb d_Model_init_314 (by decide) ?_
  refine os_newi (atype := .int) (ty := .int) (K := 44) (t0 := 0) (N' := 20) hx hb rfl (hts _ k_39) (fun _ _ => rfl) hK hbs hV rfl rfl (fun _ => rfl) (by decide) (by decide +kernel) (by decide) (Nat.le_of_ble_eq_true rfl) (Nat.le_of_ble_eq_true rfl) d_Model_init_316 (fun ad_151 H hV hAd_152 => ?_)
  have hl : lv_has ls 1 [(0, .ref (ad_151 13 0))] := by rw [hAd_152 13 0 hr_150]; exact hl
  refine W.eq (g2 := F0 m 318 ls [.ref (ad_151 44 (os_n σ_148 44)), .ref (ad_151 13 0)]) (by rw [hAd_152 13 0 hr_150]) ?_
  refine os_putRF (C := "RobotFaultsModel") (T := F_Model) (N := 38) (ci := 7) (K := 13) (j := 37) (i := 0) (kt := 44) (v := (some (os_n σ_148 44))) (ty := .array .int) hx hb hts i_Model t_Model t_Model_ok n_Model hown hK hV rfl rfl (by decide) hr_150 (hts _ k_762) rfl hmn rfl rfl rfl (fun t h => by cases h; exact (os_n_new (σ := σ_148) (K := 44) (L := 20))) (by decide +kernel) ⟨rfl, rfl⟩ d_Model_init_318 (fun H locs hV => ?_)
  obtain ⟨σ_153, hs_154⟩ : ∃ z, mkA σ_148 13 37 44 20 = z := ⟨_, rfl⟩
  have hV : os_V D cA bs σ ad s σ_153 ad_151 H locs := by rw [← hs_154]; exact hV
  have hr_155 : 0 < os_n σ_153 13 := by rw [← hs_154]; exact (mkA_lt (σ := σ_148) (j := 37) (L := 20) hr_150 (by decide))
  refine os_vret hx hb hr hlocks hV (Nat.le_of_ble_eq_true rfl) (Nat.le_of_ble_eq_true rfl) d_Model_init_321 ?_
  subst hs_154
  subst hs_149
  subst hs_144
  subst hs_139
  subst hs_134
  subst hs_129
  subst hs_124
  subst hs_119
  subst hs_114
  subst hs_109
  subst hs_104
  subst hs_99
  subst hs_94
  subst hs_89
  subst hs_84
  subst hs_79
  subst hs_74
  subst hs_69
  subst hs_64
  subst hs_59
  subst hs_54
  subst hs_49
  subst hs_44
  subst hs_39
  subst hs_34
  subst hs_29
  subst hs_24
  subst hs_19
  subst hs_14
  subst hs_9
  subst hs_4
  exact ⟨rfl, rfl⟩
