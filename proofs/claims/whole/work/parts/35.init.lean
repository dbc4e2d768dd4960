/-! CONSTRUCTORS that make arrays -/
/-- an array more, in slot j of object 0 of kind Ko -/
def mkA (σ : os_S) (Ko j K L : Nat) : os_S := os_sr (os_nw σ K L) Ko j 0 (some (os_n σ K))
theorem mkA_n {σ : os_S} {Ko j K L K' : Nat} : os_n (mkA σ Ko j K L) K' = if K' = K then os_n σ K + 1 else os_n σ K' := rfl
theorem mkA_l {σ : os_S} {Ko j K L K' i : Nat} : os_l (mkA σ Ko j K L) K' i = if K' = K ∧ i = os_n σ K then L else os_l σ K' i := rfl
theorem mkA_g {σ : os_S} {Ko j K L K' j' i : Nat} : os_g (mkA σ Ko j K L) K' j' i = if K' = K ∧ i = os_n σ K then 0 else os_g σ K' j' i := rfl
theorem mkA_r {σ : os_S} {Ko j K L K' j' i : Nat} : os_r (mkA σ Ko j K L) K' j' i = if K' = Ko ∧ j' = j ∧ i = 0 then some (os_n σ K) else if K' = K ∧ i = os_n σ K then none else os_r σ K' j' i := rfl
theorem mkA_lt {σ : os_S} {Ko j K L : Nat} (h : 0 < os_n σ Ko) (hK : Ko ≠ K) : 0 < os_n (mkA σ Ko j K L) Ko := by rw [mkA_n, if_neg hK]; exact h
/-- a new track's field -/
def trI (σ : os_S) (i : Nat) : os_S := os_sr (os_nw σ 2 20) 1 0 i (some (os_n σ 2))
set_option maxHeartbeats 4000000 in
set_option maxRecDepth 100000 in
theorem c_Track_init (l : Launch) (hlt : l.stackTraces = false) (D : va_G) (cA : Nat → ClassId) (bs : Nat) (σ : os_S) (ad : Nat → Nat → Nat) (i : Nat) (hi : i < os_n σ 1) : os_Met l y_Track_init prog_7_method_1_code 1 none { frames := 1, cells := 1, slots := 20, locals := 12 } D cA bs [.ref (ad 1 i)] σ ad (fun r σ' _ => trI σ i = σ' ∧ r = .inl none) := by
  refine os_ofW (by decide) ?_
  intro p e s m below meth c hx hb hr hml hown hlocks hmn hout hE hV
  have hts := hE.hts (args := ([.ref (ad 1 i)] : List Value).toArray)
  have hK := hE.2.1
  have hbs := hE.2.2.1
  have hown : s.vm.findClass "RobotFaults$Track" = some m.cls := hown
  have hl := lv_entry ([.ref (ad 1 i)]) (n := 1) (Nat.le_of_ble_eq_true rfl)
  rw [lg_entry_eq]
  generalize (lg_sl ([.ref (ad 1 i)]) ++ List.replicate (1 - (lg_sl ([.ref (ad 1 i)])).length) Slot.unset).toArray = ls at hl ⊢
  have hl : lv_has ls 1 [(0, .ref (ad 1 i))] := hl
  refine lv_aload_n hx hb d_Track_init_0 rfl (lv_at hl 0 rfl) ?_
  refine W.objInit hx hb hown (hts _ k_31) (hts _ k_24) (hts _ k_25) rfl (hl.1.trans hml.symm) rfl d_Track_init_1 (Nat.le_of_ble_eq_true rfl) (Nat.le_of_ble_eq_true rfl) ?_
  refine W.eq (g2 := F0 m 4 ls []) rfl ?_
  refine lv_aload_n hx hb d_Track_init_4 rfl (lv_at hl 0 rfl) ?_
  refine lv_bipush (v := 20) hx hb d_Track_init_5 (by decide) ?_
  refine os_newi (atype := .int) (ty := .int) (K := 2) (t0 := 0) (N' := 20) hx hb rfl (hts _ k_39) (fun _ _ => rfl) hK hbs hV rfl rfl (fun _ => rfl) (by decide) (by decide +kernel) (by decide) (Nat.le_of_ble_eq_true rfl) (Nat.le_of_ble_eq_true rfl) d_Track_init_7 (fun ad_1 H hV hAd_2 => ?_)
  have hl : lv_has ls 1 [(0, .ref (ad_1 1 i))] := by rw [hAd_2 1 i hi]; exact hl
  refine W.eq (g2 := F0 m 9 ls [.ref (ad_1 2 (os_n σ 2)), .ref (ad_1 1 i)]) (by rw [hAd_2 1 i hi]) ?_
  refine os_putRF (C := "RobotFaults$Track") (T := F_Track) (N := 2) (ci := 1) (K := 1) (j := 0) (i := i) (kt := 2) (v := (some (os_n σ 2))) (ty := .array .int) hx hb hts i_Track t_Track t_Track_ok n_Track hown hK hV rfl rfl (by decide) hi (hts _ k_32) rfl hmn rfl rfl rfl (fun t h => by cases h; exact (os_n_new (σ := σ) (K := 2) (L := 20))) (by decide +kernel) ⟨rfl, rfl⟩ d_Track_init_9 (fun H locs hV => ?_)
  refine os_vret hx hb hr hlocks hV (Nat.le_of_ble_eq_true rfl) (Nat.le_of_ble_eq_true rfl) d_Track_init_12 ?_
  exact ⟨rfl, rfl⟩
/-- a rule more -/
def ru1 (σ : os_S) (j : Nat) : os_S := os_sr (os_sg (os_sg (os_sg (os_nw σ 8 0) 8 0 (os_n σ 8) 1) 8 1 (os_n σ 8) 0) 8 2 (os_n σ 8) 3) 3 j 0 (some (os_n σ 8))
def ruS (σ : os_S) : Nat → os_S
  | 0 => σ
  | j + 1 => ru1 (ruS σ j) j
theorem ru1_n {σ : os_S} {j K : Nat} : os_n (ru1 σ j) K = if K = 8 then os_n σ 8 + 1 else os_n σ K := rfl
theorem ru1_l {σ : os_S} {j K i : Nat} (h : K ≠ 8) : os_l (ru1 σ j) K i = os_l σ K i := by
  simp [ru1, os_l_sr, os_l_sg, os_l_nw, h]
theorem ru1_r {σ : os_S} {j K j' i : Nat} (h : K ≠ 8) : os_r (ru1 σ j) K j' i = if K = 3 ∧ j' = j ∧ i = 0 then some (os_n σ 8) else os_r σ K j' i := by
  simp [ru1, os_r_sr, os_r_sg, os_r_nw, h]
theorem ruS_n {σ : os_S} : ∀ j, os_n (ruS σ j) 8 = os_n σ 8 + j
  | 0 => rfl
  | j + 1 => by rw [ruS, ru1_n, if_pos rfl, ruS_n j]; omega
theorem ruS_n2 {σ : os_S} {K : Nat} (h : K ≠ 8) : ∀ j, os_n (ruS σ j) K = os_n σ K
  | 0 => rfl
  | j + 1 => by rw [ruS, ru1_n, if_neg h, ruS_n2 h j]
theorem ruS_l {σ : os_S} {K i : Nat} (h : K ≠ 8) : ∀ j, os_l (ruS σ j) K i = os_l σ K i
  | 0 => rfl
  | j + 1 => by rw [ruS, ru1_l h, ruS_l h j]
theorem ruS_r {σ : os_S} {K j' i : Nat} (h : K ≠ 8) (h3 : K ≠ 3) : ∀ j, os_r (ruS σ j) K j' i = os_r σ K j' i
  | 0 => rfl
  | j + 1 => by rw [ruS, ru1_r h, if_neg (fun z => h3 z.1), ruS_r h h3 j]
/-- a new object of the checked kind -/
def rfI (σ : os_S) : os_S := ruS (mkA (mkA (mkA (mkA (mkA (os_sr (trI (os_nw σ 1 0) (os_n σ 1)) 0 0 0 (some (os_n σ 1))) 0 1 3 8) 0 2 4 8) 0 3 5 40) 0 4 6 40) 0 5 7 10) 8
set_option maxHeartbeats 4000000 in
set_option maxRecDepth 100000 in
theorem c_RF_init (l : Launch) (hlt : l.stackTraces = false) (D : va_G) (cA : Nat → ClassId) (bs : Nat) (σ : os_S) (ad : Nat → Nat → Nat) (h0 : 0 < os_n σ 0) (hz : ∀ K, 0 < K → K < 13 → os_n σ K = 0) : os_Met l y_RF_init prog_1_method_1_code 2 none { frames := 3, cells := 15, slots := 152, locals := 40 } D cA bs [.ref (ad 0 0)] σ ad (fun r σ' _ => rfI σ = σ' ∧ r = .inl none) := by
  refine os_ofW (by decide) ?_
  intro p e s m below meth c hx hb hr hml hown hlocks hmn hout hE hV
  have hts := hE.hts (args := ([.ref (ad 0 0)] : List Value).toArray)
  have hK := hE.2.1
  have hbs := hE.2.2.1
  have hown : s.vm.findClass "RobotFaults" = some m.cls := hown
  have hl := lv_entry ([.ref (ad 0 0)]) (n := 2) (Nat.le_of_ble_eq_true rfl)
  rw [lg_entry_eq]
  generalize (lg_sl ([.ref (ad 0 0)]) ++ List.replicate (2 - (lg_sl ([.ref (ad 0 0)])).length) Slot.unset).toArray = ls at hl ⊢
  have hl : lv_has ls 2 [(0, .ref (ad 0 0))] := hl
  refine lv_aload_n hx hb d_RF_init_0 rfl (lv_at hl 0 rfl) ?_
  refine W.objInit hx hb hown (hts _ k_23) (hts _ k_24) (hts _ k_25) rfl (hl.1.trans hml.symm) rfl d_RF_init_1 (Nat.le_of_ble_eq_true rfl) (Nat.le_of_ble_eq_true rfl) ?_
  refine W.eq (g2 := F0 m 4 ls []) rfl ?_
  refine lv_aload_n hx hb d_RF_init_4 rfl (lv_at hl 0 rfl) ?_
  refine os_new (C := "RobotFaults$Track") (T := F_Track) (N := 2) (ci := 1) (K := 1) hx hb hts i_Track t_Track t_Track_ok hown (hts _ k_26) (hts _ k_27) (hts _ k_2) hK hbs hV rfl rfl (by decide) (Nat.le_of_ble_eq_true rfl) (Nat.le_of_ble_eq_true rfl) d_RF_init_5 (fun ad_1 H hV hAd_2 => ?_)
  have hl : lv_has ls 2 [(0, .ref (ad_1 0 0))] := by rw [hAd_2 0 0 h0]; exact hl
  refine W.eq (g2 := F0 m 8 ls [.ref (ad_1 1 (os_n σ 1)), .ref (ad_1 0 0)]) (by rw [hAd_2 0 0 h0]) ?_
  refine lv_dup hx hb d_RF_init_8 rfl ?_
  refine os_call (c_Track_init l hlt D cA bs (os_nw σ 1 0) ad_1 (os_n σ 1) (os_n_new (σ := σ) (K := 1) (L := 0))) hE hV k_30 k_2 (os_inIN (n := 0) (bytes := prog_7_method_1_code) (maxL := 1) hx hb hown (hts _ k_28) rfl (hts _ k_29) (hts _ k_30) (by decide +kernel) rfl rfl d_RF_init_9) (hl.1.trans hml.symm) (Nat.le_of_ble_eq_true rfl) (Nat.le_of_ble_eq_true rfl) (Nat.le_of_ble_eq_true rfl) (Nat.le_of_ble_eq_true rfl) (Nat.le_of_ble_eq_true rfl) (fun v σ1 ad1 H locs hp hext hV => ?_) (fun E q ce σ1 ad1 H locs hp hext hV hce hcv hcl => ?_)
  · obtain ⟨z_3s, hp⟩ := hp
    cases hp
    obtain ⟨σ_4, rfl⟩ : ∃ z, z = σ1 := ⟨_, rfl⟩
    obtain ⟨ad_5, rfl⟩ : ∃ z, z = ad1 := ⟨_, rfl⟩
    have he_6 := hext
    have hl : lv_has ls 2 [(0, .ref (ad_5 0 0))] := by rw [he_6.2.1 0 0 h0]; exact hl
    refine W.eq (g2 := F0 m 12 ls [.ref (ad_5 1 (os_n σ 1)), .ref (ad_5 0 0)]) (by rw [he_6.2.1 0 0 h0, he_6.2.1 1 (os_n σ 1) (os_n_new (σ := σ) (K := 1) (L := 0))]; rfl) ?_
    have hr_7 : 0 < os_n σ_4 0 := Nat.lt_of_lt_of_le h0 (he_6.1 0)
    have hr_8 : os_n σ 1 < os_n σ_4 1 := Nat.lt_of_lt_of_le (os_n_new (σ := σ) (K := 1) (L := 0)) (he_6.1 1)
    refine os_putRF (C := "RobotFaults") (T := F_RF) (N := 11) (ci := 0) (K := 0) (j := 0) (i := 0) (kt := 1) (v := (some (os_n σ 1))) (ty := .object "RobotFaults$Track") hx hb hts i_RF t_RF t_RF_ok n_RF hown hK hV rfl rfl (by decide) hr_7 (hts _ k_68) rfl hmn rfl rfl rfl (fun t h => by cases h; exact hr_8) (by decide +kernel) ⟨rfl, rfl⟩ d_RF_init_12 (fun H locs hV => ?_)
    obtain ⟨σ_9, hs_10⟩ : ∃ z, os_sr σ_4 0 0 0 (some (os_n σ 1)) = z := ⟨_, rfl⟩
    have hV : os_V D cA bs σ ad s σ_9 ad_5 H locs := by rw [← hs_10]; exact hV
    have hr_11 : 0 < os_n σ_9 0 := by rw [← hs_10]; exact (by rw [os_n_sr]; exact hr_7)
    refine lv_aload_n hx hb d_RF_init_15 rfl (lv_at hl 0 rfl) ?_
    refine lv_bipush (v := 8) hx hb d_RF_init_16 (by decide) ?_
    refine os_newq (K := 3) (t0 := 3) (N' := 8) hx hb hown (hts _ k_40) (hts _ k_41) hK hbs hV rfl rfl (by decide) (by decide +kernel) (by decide) (Nat.le_of_ble_eq_true rfl) (Nat.le_of_ble_eq_true rfl) d_RF_init_18 (fun ad_12 H hV hAd_13 => ?_)
    have hl : lv_has ls 2 [(0, .ref (ad_12 0 0))] := by rw [hAd_13 0 0 hr_11]; exact hl
    refine W.eq (g2 := F0 m 21 ls [.ref (ad_12 3 (os_n σ_9 3)), .ref (ad_12 0 0)]) (by rw [hAd_13 0 0 hr_11]) ?_
    refine os_putRF (C := "RobotFaults") (T := F_RF) (N := 11) (ci := 0) (K := 0) (j := 1) (i := 0) (kt := 3) (v := (some (os_n σ_9 3))) (ty := .array (.object "RobotFaults$Rule")) hx hb hts i_RF t_RF t_RF_ok n_RF hown hK hV rfl rfl (by decide) hr_11 (hts _ k_69) rfl hmn rfl rfl rfl (fun t h => by cases h; exact (os_n_new (σ := σ_9) (K := 3) (L := 8))) (by decide +kernel) ⟨rfl, rfl⟩ d_RF_init_21 (fun H locs hV => ?_)
    obtain ⟨σ_14, hs_15⟩ : ∃ z, mkA σ_9 0 1 3 8 = z := ⟨_, rfl⟩
    have hV : os_V D cA bs σ ad s σ_14 ad_12 H locs := by rw [← hs_15]; exact hV
    have hr_16 : 0 < os_n σ_14 0 := by rw [← hs_15]; exact (mkA_lt (σ := σ_9) (j := 1) (L := 8) hr_11 (by decide))
    refine lv_aload_n hx hb d_RF_init_24 rfl (lv_at hl 0 rfl) ?_
    refine lv_bipush (v := 8) hx hb d_RF_init_25 (by decide) ?_
    refine os_newq (K := 4) (t0 := 4) (N' := 8) hx hb hown (hts _ k_42) (hts _ k_43) hK hbs hV rfl rfl (by decide) (by decide +kernel) (by decide) (Nat.le_of_ble_eq_true rfl) (Nat.le_of_ble_eq_true rfl) d_RF_init_27 (fun ad_17 H hV hAd_18 => ?_)
    have hl : lv_has ls 2 [(0, .ref (ad_17 0 0))] := by rw [hAd_18 0 0 hr_16]; exact hl
    refine W.eq (g2 := F0 m 30 ls [.ref (ad_17 4 (os_n σ_14 4)), .ref (ad_17 0 0)]) (by rw [hAd_18 0 0 hr_16]) ?_
    refine os_putRF (C := "RobotFaults") (T := F_RF) (N := 11) (ci := 0) (K := 0) (j := 2) (i := 0) (kt := 4) (v := (some (os_n σ_14 4))) (ty := .array (.object "RobotFaults$Robot")) hx hb hts i_RF t_RF t_RF_ok n_RF hown hK hV rfl rfl (by decide) hr_16 (hts _ k_70) rfl hmn rfl rfl rfl (fun t h => by cases h; exact (os_n_new (σ := σ_14) (K := 4) (L := 8))) (by decide +kernel) ⟨rfl, rfl⟩ d_RF_init_30 (fun H locs hV => ?_)
    obtain ⟨σ_19, hs_20⟩ : ∃ z, mkA σ_14 0 2 4 8 = z := ⟨_, rfl⟩
    have hV : os_V D cA bs σ ad s σ_19 ad_17 H locs := by rw [← hs_20]; exact hV
    have hr_21 : 0 < os_n σ_19 0 := by rw [← hs_20]; exact (mkA_lt (σ := σ_14) (j := 2) (L := 8) hr_16 (by decide))
    refine lv_aload_n hx hb d_RF_init_33 rfl (lv_at hl 0 rfl) ?_
    refine lv_bipush (v := 40) hx hb d_RF_init_34 (by decide) ?_
    refine os_newq (K := 5) (t0 := 5) (N' := 40) hx hb hown (hts _ k_44) (hts _ k_45) hK hbs hV rfl rfl (by decide) (by decide +kernel) (by decide) (Nat.le_of_ble_eq_true rfl) (Nat.le_of_ble_eq_true rfl) d_RF_init_36 (fun ad_22 H hV hAd_23 => ?_)
    have hl : lv_has ls 2 [(0, .ref (ad_22 0 0))] := by rw [hAd_23 0 0 hr_21]; exact hl
    refine W.eq (g2 := F0 m 39 ls [.ref (ad_22 5 (os_n σ_19 5)), .ref (ad_22 0 0)]) (by rw [hAd_23 0 0 hr_21]) ?_
    refine os_putRF (C := "RobotFaults") (T := F_RF) (N := 11) (ci := 0) (K := 0) (j := 3) (i := 0) (kt := 5) (v := (some (os_n σ_19 5))) (ty := .array (.object "RobotFaults$Fault")) hx hb hts i_RF t_RF t_RF_ok n_RF hown hK hV rfl rfl (by decide) hr_21 (hts _ k_71) rfl hmn rfl rfl rfl (fun t h => by cases h; exact (os_n_new (σ := σ_19) (K := 5) (L := 40))) (by decide +kernel) ⟨rfl, rfl⟩ d_RF_init_39 (fun H locs hV => ?_)
    obtain ⟨σ_24, hs_25⟩ : ∃ z, mkA σ_19 0 3 5 40 = z := ⟨_, rfl⟩
    have hV : os_V D cA bs σ ad s σ_24 ad_22 H locs := by rw [← hs_25]; exact hV
    have hr_26 : 0 < os_n σ_24 0 := by rw [← hs_25]; exact (mkA_lt (σ := σ_19) (j := 3) (L := 40) hr_21 (by decide))
    refine lv_aload_n hx hb d_RF_init_42 rfl (lv_at hl 0 rfl) ?_
    refine lv_bipush (v := 40) hx hb d_RF_init_43 (by decide) ?_
    refine os_newq (K := 6) (t0 := 6) (N' := 40) hx hb hown (hts _ k_46) (hts _ k_47) hK hbs hV rfl rfl (by decide) (by decide +kernel) (by decide) (Nat.le_of_ble_eq_true rfl) (Nat.le_of_ble_eq_true rfl) d_RF_init_45 (fun ad_27 H hV hAd_28 => ?_)
    have hl : lv_has ls 2 [(0, .ref (ad_27 0 0))] := by rw [hAd_28 0 0 hr_26]; exact hl
    refine W.eq (g2 := F0 m 48 ls [.ref (ad_27 6 (os_n σ_24 6)), .ref (ad_27 0 0)]) (by rw [hAd_28 0 0 hr_26]) ?_
    refine os_putRF (C := "RobotFaults") (T := F_RF) (N := 11) (ci := 0) (K := 0) (j := 4) (i := 0) (kt := 6) (v := (some (os_n σ_24 6))) (ty := .array (.object "RobotFaults$Alarm")) hx hb hts i_RF t_RF t_RF_ok n_RF hown hK hV rfl rfl (by decide) hr_26 (hts _ k_72) rfl hmn rfl rfl rfl (fun t h => by cases h; exact (os_n_new (σ := σ_24) (K := 6) (L := 40))) (by decide +kernel) ⟨rfl, rfl⟩ d_RF_init_48 (fun H locs hV => ?_)
    obtain ⟨σ_29, hs_30⟩ : ∃ z, mkA σ_24 0 4 6 40 = z := ⟨_, rfl⟩
    have hV : os_V D cA bs σ ad s σ_29 ad_27 H locs := by rw [← hs_30]; exact hV
    have hr_31 : 0 < os_n σ_29 0 := by rw [← hs_30]; exact (mkA_lt (σ := σ_24) (j := 4) (L := 40) hr_26 (by decide))
    refine lv_aload_n hx hb d_RF_init_51 rfl (lv_at hl 0 rfl) ?_
    refine lv_bipush (v := 10) hx hb d_RF_init_52 (by decide) ?_
    refine os_newq (K := 7) (t0 := 7) (N' := 10) hx hb hown (hts _ k_48) (hts _ k_49) hK hbs hV rfl rfl (by decide) (by decide +kernel) (by decide) (Nat.le_of_ble_eq_true rfl) (Nat.le_of_ble_eq_true rfl) d_RF_init_54 (fun ad_32 H hV hAd_33 => ?_)
    have hl : lv_has ls 2 [(0, .ref (ad_32 0 0))] := by rw [hAd_33 0 0 hr_31]; exact hl
    refine W.eq (g2 := F0 m 57 ls [.ref (ad_32 7 (os_n σ_29 7)), .ref (ad_32 0 0)]) (by rw [hAd_33 0 0 hr_31]) ?_
    refine os_putRF (C := "RobotFaults") (T := F_RF) (N := 11) (ci := 0) (K := 0) (j := 5) (i := 0) (kt := 7) (v := (some (os_n σ_29 7))) (ty := .array (.object "RobotFaults$Planted")) hx hb hts i_RF t_RF t_RF_ok n_RF hown hK hV rfl rfl (by decide) hr_31 (hts _ k_73) rfl hmn rfl rfl rfl (fun t h => by cases h; exact (os_n_new (σ := σ_29) (K := 7) (L := 10))) (by decide +kernel) ⟨rfl, rfl⟩ d_RF_init_57 (fun H locs hV => ?_)
    obtain ⟨σ_34, hs_35⟩ : ∃ z, mkA σ_29 0 5 7 10 = z := ⟨_, rfl⟩
    have hV : os_V D cA bs σ ad s σ_34 ad_32 H locs := by rw [← hs_35]; exact hV
    have hr_36 : 0 < os_n σ_34 0 := by rw [← hs_35]; exact (mkA_lt (σ := σ_29) (j := 5) (L := 10) hr_31 (by decide))
    obtain ⟨h9, h10, h11⟩ : os_n σ_34 3 = 1 ∧ os_r σ_34 0 1 0 = some 0 ∧ os_l σ_34 3 0 = 8 := by
      subst hs_35 hs_30 hs_25 hs_20 hs_15 hs_10 z_3s
      simp [mkA_n, mkA_l, mkA_r, trI, os_n_sr, os_n_nw, os_l_sr, os_l_nw, os_r_sr, os_r_nw, hz]
    refine lv_iconst (v := 0) hx hb d_RF_init_60 (by decide) ?_
    refine lv_istore_n (lv' := [(1, .int 0), (0, .ref (ad_32 0 0))]) hx hb d_RF_init_61 rfl hl (by decide) rfl (fun ls hl => ?_)
    have loop : ∀ (n j : Nat)  (τ : os_S) (α : Nat → Nat → Nat) (ls : Array Slot) (H : Heap) (locs : List Loc), j ≤ 8 → 8 < j + n → True → ruS σ_34 j = τ → os_V D cA bs σ ad s τ α H locs → lv_has ls 2 [(0, .ref (α 0 0)), (1, .int (nI j))] → W p l e { frames := 3, cells := 15, slots := 152, locals := 40 } s m ([.ref (ad 0 0)] : List Value).toArray below meth c H locs (7 + j) (128 + 3 * j) (os_End D cA bs below s σ ad { frames := 3, cells := 15, slots := 152, locals := 40 } (fun r σ' _ => rfI σ = σ' ∧ r = .inl none)) (F0 m 62 ls []) := by
      intro n
      induction n with
      | zero => intro j  τ α ls H locs h1 h2; exact absurd h2 (by omega)
      | succ n loop_ih =>
        intro j  τ α ls H locs loop_j loop_n loop_i loop_s hV hl
        have hr_37 : 0 < os_n τ 0 := Nat.lt_of_lt_of_le h0 (hV.2.1.1 0)
        have h9 : os_n τ 3 = 1 := (by rw [← loop_s, ruS_n2 (by decide)]; exact h9)
        have h10 : os_r τ 0 1 0 = some 0 := (by rw [← loop_s, ruS_r (by decide) (by decide)]; exact h10)
        have h11 : os_l τ 3 0 = 8 := (by rw [← loop_s, ruS_l (by decide)]; exact h11)
        have h12 : 0 < os_n τ 3 := (by rw [h9]; decide)
        refine lv_iload_n hx hb d_RF_init_62 rfl (lv_at hl 1 rfl) ?_
        refine lv_bipush (v := 8) hx hb d_RF_init_63 (by decide) ?_
        refine lv_icmp_ge (tgt := 87) hx hb d_RF_init_65 (by decide) (fun c_38 => ?_) (fun c_38 => ?_)
        · skip
          refine os_vret hx hb hr hlocks hV (by show 7 + j ≤ 15; omega) (by show 128 + 3 * j ≤ 152; omega) d_RF_init_87 ?_
          have hj := eq_of_le c_38 loop_j
          subst hj
          subst loop_s
          subst hs_35
          subst hs_30
          subst hs_25
          subst hs_20
          subst hs_15
          subst hs_10
          subst z_3s
          exact ⟨rfl, rfl⟩
        · skip
          have hj9 : j < 8 := lt_of_nle c_38 loop_j
          refine lv_aload_n hx hb d_RF_init_68 rfl (lv_at hl 0 rfl) ?_
          refine os_get (C := "RobotFaults") (T := F_RF) (N := 11) (ci := 0) (K := 0) (j := 1) (i := 0) (v := .ref (α 3 0)) hx hb hts i_RF hown hK hV rfl rfl (by decide) hr_37 (hts _ k_69) (congrArg (fun z => va_rf (Option.map (α 3) z)) h10) d_RF_init_69 ?_
          refine lv_iload_n hx hb d_RF_init_72 rfl (lv_at hl 1 rfl) ?_
          refine os_new (C := "RobotFaults$Rule") (T := F_Rule) (N := 3) (ci := 2) (K := 8) hx hb hts i_Rule t_Rule t_Rule_ok hown (hts _ k_40) (hts _ k_50) (hts _ k_3) hK hbs hV rfl rfl (by decide) (by show 7 + j + 1 ≤ 15; omega) (by show 128 + 3 * j + 3 ≤ 152; omega) d_RF_init_73 (fun ad_39 H hV hAd_40 => ?_)
          have hl : lv_has ls 2 [(0, .ref (ad_39 0 0)), (1, .int (nI j))] := by rw [hAd_40 0 0 hr_37]; exact hl
          refine W.eq (g2 := F0 m 76 ls [.ref (ad_39 8 (os_n τ 8)), .int (nI j), .ref (ad_39 3 0)]) (by rw [hAd_40 3 0 h12]) ?_
          refine lv_dup hx hb d_RF_init_76 rfl ?_
          refine os_call (c_Rule_init l hlt D cA bs (os_nw τ 8 0) ad_39 (os_n τ 8) (os_n_new (σ := τ) (K := 8) (L := 0))) hE hV k_53 k_3 (os_inIN (n := 0) (bytes := prog_6_method_1_code) (maxL := 1) hx hb hown (hts _ k_51) rfl (hts _ k_52) (hts _ k_53) (by decide +kernel) rfl rfl d_RF_init_77) (hl.1.trans hml.symm) (Nat.le_of_ble_eq_true rfl) (Nat.le_of_ble_eq_true rfl) (Nat.le_of_ble_eq_true rfl) (by show 7 + j + 1 + 0 ≤ 15; omega) (by show 128 + 3 * j + 3 + 0 ≤ 152; omega) (fun v σ1 ad1 H locs hp hext hV => ?_) (fun E q ce σ1 ad1 H locs hp hext hV hce hcv hcl => ?_)
          · obtain ⟨rfl, rfl, hp⟩ := hp
            cases hp
            refine W.eq (g2 := F0 m 80 ls [.ref (ad_39 8 (os_n τ 8)), .int (nI j), .ref (ad_39 3 0)]) rfl ?_
            refine os_aastK (K := 3) (i := 0) (t0 := 3) (n := j) hx hb hK hV rfl rfl rfl rfl h12 (os_n_new (σ := τ) (K := 8) (L := 0)) rfl (by rw [show os_l (os_sg (os_sg (os_sg (os_nw τ 8 0) 8 0 (os_n τ 8) 1) 8 1 (os_n τ 8) 0) 8 2 (os_n τ 8) 3) 3 0 = 8 from h11]; exact (lt_of_nle c_38 loop_j)) (by rw [show os_l (os_sg (os_sg (os_sg (os_nw τ 8 0) 8 0 (os_n τ 8) 1) 8 1 (os_n τ 8) 0) 8 2 (os_n τ 8) 3) 3 0 = 8 from h11]; decide) d_RF_init_80 (fun H locs hV => ?_)
            refine lv_iinc (v := nI (j + 1)) (lv' := [(1, .int (nI (j + 1))), (0, .ref (ad_39 0 0))]) hx hb d_RF_init_81 hl (k := 1) rfl (nI_1 j) (by decide) rfl (fun ls hl => ?_)
            refine lv_goto (tgt := 62) hx hb d_RF_init_84 (by decide) ?_
            exact loop_ih (j + 1)  _ _ ls H locs (Nat.succ_le_of_lt (lt_of_nle c_38 loop_j)) (by omega) trivial (by rw [ruS, loop_s]; rfl) hV (lv_sub hl [1, 0] rfl)
          · exact absurd hp.2.2 (fun h => by cases h)
    exact loop (8 + 1) 0  _ _ ls _ _ (by omega) (by omega) trivial rfl hV (lv_sub hl [1, 0] rfl)
  · exact absurd hp.2 (fun h => by cases h)
