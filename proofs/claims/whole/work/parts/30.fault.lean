/-! A NEW FAULT -/
/-- the rules' tests are yes or no -/
def rfT (σ : os_S) : Prop := ∀ k, k < 8 → os_g σ 8 1 k = bz (decide (os_g σ 8 1 k = 1))
theorem nfB_T {σ : os_S} {i a : Nat} {b : Bool} (h : rfT σ) : rfT (nfB σ i a b) := by
  intro k hk
  have e : os_g (nfB σ i a b) 8 1 k = os_g σ 8 1 k := by simp [nfB, fNew, os_g_sg, os_g_sr, os_g_nw]
  rw [e]; exact h k hk
theorem aJoin_n {σ : os_S} {t f K : Nat} : os_n (aJoin σ t f) K = os_n σ K := rfl
theorem aNew_n {σ : os_S} {f r9 K : Nat} {q : Int32} : os_n (aNew σ f r9 q) K = if K = 11 then os_n σ 11 + 1 else os_n σ K := rfl
theorem aJoin_T {σ : os_S} {t f : Nat} (h : rfT σ) : rfT (aJoin σ t f) := by
  intro k hk
  have e : os_g (aJoin σ t f) 8 1 k = os_g σ 8 1 k := by simp [aJoin, os_g_sg, os_g_sr, os_g_nw]
  rw [e]; exact h k hk
theorem aNew_T {σ : os_S} {f r9 : Nat} {q : Int32} (h : rfT σ) : rfT (aNew σ f r9 q) := by
  intro k hk
  have e : os_g (aNew σ f r9 q) 8 1 k = os_g σ 8 1 k := by simp [aNew, os_g_sg, os_g_sr, os_g_nw]
  rw [e]; exact h k hk
/-- a new fault that joins the alarm t -/
def nfJ (σ : os_S) (i a : Nat) (b : Bool) (t : Nat) : os_S := (rSuf (os_sg (aJoin (nfB σ i a b) t (os_n σ 10)) 10 8 (os_n σ 10) (os_g (nfB σ i a b) 11 0 t)) i (nI a) (os_g (aJoin (nfB σ i a b) t (os_n σ 10)) 0 10 0) (decide (os_g (aJoin (nfB σ i a b) t (os_n σ 10)) 8 1 a = 1)))
/-- a new fault with a new alarm -/
def nfN (σ : os_S) (i a : Nat) (b : Bool) : os_S := (rSuf (os_sg (aNew (nfB σ i a b) (os_n σ 10) i (os_g (nfB σ i a b) 8 2 a)) 10 8 (os_n σ 10) (os_g (nfB σ i a b) 0 8 0)) i (nI a) (os_g (aNew (nfB σ i a b) (os_n σ 10) i (os_g (nfB σ i a b) 8 2 a)) 0 10 0) (decide (os_g (aNew (nfB σ i a b) (os_n σ 10) i (os_g (nfB σ i a b) 8 2 a)) 8 1 a = 1)))
def q_newFault (σ : os_S) (i a : Nat) (b : Bool) : os_O → os_S → (Nat → Nat → Nat) → Prop := fun r σ' _ => (∃ t, aJn (nfB σ i a b) (os_n σ 10) i t ∧ nfJ σ i a b t = σ' ∧ r = .inl (some (.int (os_g (nfJ σ i a b t) 10 0 (os_n σ 10))))) ∨ ((∀ t, ¬ aJn (nfB σ i a b) (os_n σ 10) i t) ∧ nfN σ i a b = σ' ∧ r = .inl (some (.int (os_g (nfN σ i a b) 10 0 (os_n σ 10)))))
set_option maxHeartbeats 4000000 in
set_option maxRecDepth 100000 in
theorem c_RF_newFault (l : Launch) (hlt : l.stackTraces = false) (D : va_G) (cA : Nat → ClassId) (bs : Nat) (σ : os_S) (ad : Nat → Nat → Nat) (i a : Nat) (b : Bool) (hA : rfA σ) (hF : rfF σ) (hL : rfL σ) (hT : rfT σ) (hi : i < os_n σ 9) (ha : a < 8) (hn : os_n σ 10 < 40) (hm : os_n σ 11 < 40) : os_Met l y_RF_newFault prog_1_method_35_code 6 (some .int) { frames := 3, cells := 2, slots := 19, locals := 90 } D cA bs [.ref (ad 0 0), .ref (ad 9 i), .int (nI a), .int (bz b)] σ ad (q_newFault σ i a b) := by
  refine os_ofW (by decide) ?_
  intro p e s m below meth c hx hb hr hml hown hlocks hmn hout hE hV
  have hts := hE.hts (args := ([.ref (ad 0 0), .ref (ad 9 i), .int (nI a), .int (bz b)] : List Value).toArray)
  have hK := hE.2.1
  have hbs := hE.2.2.1
  have hown : s.vm.findClass "RobotFaults" = some m.cls := hown
  have hl := lv_entry ([.ref (ad 0 0), .ref (ad 9 i), .int (nI a), .int (bz b)]) (n := 6) (Nat.le_of_ble_eq_true rfl)
  rw [lg_entry_eq]
  generalize (lg_sl ([.ref (ad 0 0), .ref (ad 9 i), .int (nI a), .int (bz b)]) ++ List.replicate (6 - (lg_sl ([.ref (ad 0 0), .ref (ad 9 i), .int (nI a), .int (bz b)])).length) Slot.unset).toArray = ls at hl ⊢
  have hl : lv_has ls 6 [(0, .ref (ad 0 0)), (1, .ref (ad 9 i)), (2, .int (nI a)), (3, .int (bz b))] := hl
  refine lv_aload_n hx hb d_RF_newFault_0 rfl (lv_at hl 0 rfl) ?_
  refine os_get (C := "RobotFaults") (T := F_RF) (N := 11) (ci := 0) (K := 0) (j := 1) (i := 0) (v := .ref (ad 3 0)) hx hb hts i_RF hown hK hV rfl rfl (by decide) (hA.n 0 (by decide)) (hts _ k_69) (congrArg (fun z => va_rf (Option.map (ad 3) z)) (hA.r 1 (by decide))) d_RF_newFault_1 ?_
  refine lv_iload_n hx hb d_RF_newFault_4 rfl (lv_at hl 2 rfl) ?_
  refine os_aaldN (K := 3) (i := 0) (t0 := 3) (n := a) hx hb hK hV rfl rfl (hA.n 3 (by decide)) rfl (by rw [show os_l σ 3 0 = 8 from hA.l3]; exact ha) (by rw [show os_l σ 3 0 = 8 from hA.l3]; decide) d_RF_newFault_5 ?_
  refine W.eq (g2 := F0 m 6 ls [.ref (ad 8 a)]) (by rw [hA.ru a ha]; rfl) ?_
  refine lv_astore (lv' := [(4, .ref (ad 8 a)), (0, .ref (ad 0 0)), (1, .ref (ad 9 i)), (2, .int (nI a)), (3, .int (bz b))]) hx hb d_RF_newFault_6 hl (by decide) rfl (fun ls hl => ?_)
  refine os_new (C := "RobotFaults$Fault") (T := F_Fault) (N := 11) (ci := 4) (K := 10) hx hb hts i_Fault t_Fault t_Fault_ok hown (hts _ k_44) (hts _ k_412) (hts _ k_13) hK hbs hV rfl rfl (by decide) (Nat.le_of_ble_eq_true rfl) (Nat.le_of_ble_eq_true rfl) d_RF_newFault_8 (fun ad_1 H hV hAd_2 => ?_)
  have hl : lv_has ls 6 [(4, .ref (ad_1 8 a)), (0, .ref (ad_1 0 0)), (1, .ref (ad_1 9 i)), (2, .int (nI a)), (3, .int (bz b))] := by rw [hAd_2 8 a (show a < os_n σ 8 by rw [hA.2.1]; exact ha), hAd_2 0 0 (hA.n 0 (by decide)), hAd_2 9 i hi]; exact hl
  refine W.eq (g2 := F0 m 11 ls [.ref (ad_1 10 (os_n σ 10))]) rfl ?_
  refine lv_dup hx hb d_RF_newFault_11 rfl ?_
  refine lv_aload_n hx hb d_RF_newFault_12 rfl (lv_at hl 1 rfl) ?_
  refine os_get (C := "RobotFaults") (T := F_RF) (N := 11) (ci := 0) (K := 0) (j := 7) (i := 0) (v := .int (os_g σ 0 7 0)) hx hb hts i_RF hown hK hV rfl rfl (by decide) (hA.n 0 (by decide)) (hts _ k_75) rfl d_RF_newFault_13 ?_
  refine lv_iconst (v := 1) hx hb d_RF_newFault_16 (by decide) ?_
  refine lv_iadd hx hb d_RF_newFault_17 ?_
  refine lv_aload_n hx hb d_RF_newFault_18 rfl (lv_at hl 2 rfl) ?_
  refine lv_iload_n hx hb d_RF_newFault_19 rfl (lv_at hl 3 rfl) ?_
  refine lv_aload_n hx hb d_RF_newFault_20 rfl (lv_at hl 1 rfl) ?_
  refine os_get (C := "RobotFaults") (T := F_RF) (N := 11) (ci := 0) (K := 0) (j := 10) (i := 0) (v := .int (os_g σ 0 10 0)) hx hb hts i_RF hown hK hV rfl rfl (by decide) (hA.n 0 (by decide)) (hts _ k_78) rfl d_RF_newFault_21 ?_
  refine lv_aload hx hb d_RF_newFault_24 (lv_at hl 0 rfl) ?_
  refine os_getN (C := "RobotFaults$Rule") (T := F_Rule) (N := 3) (ci := 2) (K := 8) (j := 0) (i := a) (v := .int (os_g σ 8 0 a)) hx hb hts i_Rule hown hK hV rfl rfl (by decide) (show a < os_n σ 8 by rw [hA.2.1]; exact ha) (hts _ k_56) rfl d_RF_newFault_26 ?_
  refine lv_iload_n hx hb d_RF_newFault_29 rfl (lv_at hl 4 rfl) ?_
  refine os_call (c_Fault_init l hlt D cA bs (os_nw σ 10 0) ad_1 (os_n σ 10) i ((os_g σ 0 7 0) + 1) (nI a) (os_g σ 0 10 0) (os_g σ 8 0 a) b (os_n_new (σ := σ) (K := 10) (L := 0)) hi) hE hV k_415 k_13 (os_inI (n := 6) (bytes := prog_3_method_1_code) (maxL := 7) hx hb hown (hts _ k_413) rfl (hts _ k_414) (hts _ k_415) (by decide +kernel) rfl rfl d_RF_newFault_30) (hl.1.trans hml.symm) (Nat.le_of_ble_eq_true rfl) (Nat.le_of_ble_eq_true rfl) (Nat.le_of_ble_eq_true rfl) (Nat.le_of_ble_eq_true rfl) (Nat.le_of_ble_eq_true rfl) (fun v σ1 ad1 H locs hp hext hV => ?_) (fun E q ce σ1 ad1 H locs hp hext hV hce hcv hcl => ?_)
  · obtain ⟨rfl, rfl, hp⟩ := hp
    cases hp
    refine W.eq (g2 := F0 m 33 ls [.ref (ad_1 10 (os_n σ 10))]) rfl ?_
    refine lv_astore (lv' := [(5, .ref (ad_1 10 (os_n σ 10))), (4, .ref (ad_1 8 a)), (0, .ref (ad_1 0 0)), (1, .ref (ad_1 9 i)), (2, .int (nI a)), (3, .int (bz b))]) hx hb d_RF_newFault_33 hl (by decide) rfl (fun ls hl => ?_)
    refine lv_aload_n hx hb d_RF_newFault_35 rfl (lv_at hl 2 rfl) ?_
    refine os_get (C := "RobotFaults") (T := F_RF) (N := 11) (ci := 0) (K := 0) (j := 3) (i := 0) (v := .ref (ad_1 5 0)) hx hb hts i_RF hown hK hV rfl rfl (by decide) (hA.n 0 (by decide)) (hts _ k_71) (congrArg (fun z => va_rf (Option.map (ad_1 5) z)) (hA.r 3 (by decide))) d_RF_newFault_36 ?_
    refine lv_aload_n hx hb d_RF_newFault_39 rfl (lv_at hl 2 rfl) ?_
    refine os_get (C := "RobotFaults") (T := F_RF) (N := 11) (ci := 0) (K := 0) (j := 7) (i := 0) (v := .int (os_g σ 0 7 0)) hx hb hts i_RF hown hK hV rfl rfl (by decide) (hA.n 0 (by decide)) (hts _ k_75) rfl d_RF_newFault_40 ?_
    refine lv_aload hx hb d_RF_newFault_43 (lv_at hl 0 rfl) ?_
    refine os_aastK (K := 5) (i := 0) (t0 := 5) (n := (os_n σ 10)) hx hb hK hV rfl rfl rfl rfl (hA.n 5 (by decide)) (os_n_new (σ := σ) (K := 10) (L := 0)) (show os_g σ 0 7 0 = nI (os_n σ 10) from hF.1.2.1) (by rw [show os_l (fNew (os_nw σ 10 0) (os_n σ 10) i ((os_g σ 0 7 0) + 1) (nI a) (os_g σ 0 10 0) (os_g σ 8 0 a) b) 5 0 = 40 from hA.l5]; exact hn) (by rw [show os_l (fNew (os_nw σ 10 0) (os_n σ 10) i ((os_g σ 0 7 0) + 1) (nI a) (os_g σ 0 10 0) (os_g σ 8 0 a) b) 5 0 = 40 from hA.l5]; decide) d_RF_newFault_45 (fun H locs hV => ?_)
    refine lv_aload_n hx hb d_RF_newFault_46 rfl (lv_at hl 2 rfl) ?_
    refine lv_dup hx hb d_RF_newFault_47 rfl ?_
    refine os_get (C := "RobotFaults") (T := F_RF) (N := 11) (ci := 0) (K := 0) (j := 7) (i := 0) (v := .int (os_g σ 0 7 0)) hx hb hts i_RF hown hK hV rfl rfl (by decide) (hA.n 0 (by decide)) (hts _ k_75) rfl d_RF_newFault_48 ?_
    refine lv_iconst (v := 1) hx hb d_RF_newFault_51 (by decide) ?_
    refine lv_iadd hx hb d_RF_newFault_52 ?_
    refine os_putI (C := "RobotFaults") (T := F_RF) (N := 11) (ci := 0) (K := 0) (j := 7) (i := 0) (v := (os_g σ 0 7 0) + 1) (ty := .int) hx hb hts i_RF t_RF t_RF_ok n_RF hown hK hV rfl rfl (by decide) (hA.n 0 (by decide)) (hts _ k_75) rfl rfl rfl (by decide +kernel) rfl rfl d_RF_newFault_53 (fun H locs hV => ?_)
    obtain ⟨σ_3, hs_4⟩ : ∃ z, nfB σ i a b = z := ⟨_, rfl⟩
    have hV : os_V D cA bs σ ad s σ_3 ad_1 H locs := by rw [← hs_4]; exact hV
    have hr_5 : os_n σ 10 < os_n σ_3 10 := by rw [← hs_4]; exact nfB_10
    have hr_6 : a < os_n σ_3 8 := by rw [← hs_4]; exact nfB_8 (show a < os_n σ 8 by rw [hA.2.1]; exact ha)
    have hr_7 : 0 < os_n σ_3 0 := by rw [← hs_4]; exact nfB_0 hA
    have hr_8 : i < os_n σ_3 9 := by rw [← hs_4]; exact nfB_9 hi
    have hA : rfA σ_3 := by rw [← hs_4]; exact nfB_A hA
    have hL : rfL σ_3 := by rw [← hs_4]; exact nfB_L hL
    have hT : rfT σ_3 := by rw [← hs_4]; exact nfB_T hT
    have hi : i < os_n σ_3 9 := by rw [← hs_4]; exact nfB_9 hi
    have hm : os_n σ_3 11 < 40 := by rw [← hs_4]; exact (by rw [nfB_n, if_neg (by decide)]; exact hm)
    have hfr : os_r σ_3 10 1 (os_n σ 10) = some i := by rw [← hs_4]; exact nfB_r
    refine lv_aload hx hb d_RF_newFault_56 (lv_at hl 0 rfl) ?_
    refine lv_aload_n hx hb d_RF_newFault_58 rfl (lv_at hl 2 rfl) ?_
    refine lv_aload hx hb d_RF_newFault_59 (lv_at hl 0 rfl) ?_
    refine lv_aload hx hb d_RF_newFault_61 (lv_at hl 1 rfl) ?_
    refine os_getN (C := "RobotFaults$Rule") (T := F_Rule) (N := 3) (ci := 2) (K := 8) (j := 2) (i := a) (v := .int (os_g σ_3 8 2 a)) hx hb hts i_Rule hown hK hV rfl rfl (by decide) hr_6 (hts _ k_60) rfl d_RF_newFault_63 ?_
    refine os_call (c_RF_alarmFor l hlt D cA bs σ_3 ad_1 (os_n σ 10) i (os_g σ_3 8 2 a) hA hL hr_5 hi hfr hm) hE hV k_467 k_1 (os_inV (C := "RobotFaults") (n := 2) (bytes := prog_1_method_36_code) (maxL := 5) (ret := (some .int)) hx hb hown (hts _ k_464) (hts _ k_466) (hts _ k_s10) (hts _ k_467) (by decide +kernel) rfl (os_recv hK hV rfl rfl hr_7) rfl d_RF_newFault_66) (hl.1.trans hml.symm) (Nat.le_of_ble_eq_true rfl) (Nat.le_of_ble_eq_true rfl) (Nat.le_of_ble_eq_true rfl) (Nat.le_of_ble_eq_true rfl) (Nat.le_of_ble_eq_true rfl) (fun v σ1 ad1 H locs hp hext hV => ?_) (fun E q ce σ1 ad1 H locs hp hext hV hce hcv hcl => ?_)
    · rcases hp with ⟨z_9t, z_9h, z_9s, hp⟩ | ⟨z_9h, z_9s, hp⟩ <;> cases hp
      · skip
        obtain ⟨σ_10, rfl⟩ : ∃ z, z = σ1 := ⟨_, rfl⟩
        obtain ⟨ad_11, rfl⟩ : ∃ z, z = ad1 := ⟨_, rfl⟩
        have he_12 := hext
        have hl : lv_has ls 6 [(5, .ref (ad_11 10 (os_n σ 10))), (4, .ref (ad_11 8 a)), (0, .ref (ad_11 0 0)), (1, .ref (ad_11 9 i)), (2, .int (nI a)), (3, .int (bz b))] := by rw [he_12.2.1 10 (os_n σ 10) hr_5, he_12.2.1 8 a hr_6, he_12.2.1 0 0 hr_7, he_12.2.1 9 i hr_8]; exact hl
        refine W.eq (g2 := F0 m 69 ls [.int (os_g σ_3 11 0 z_9t), .ref (ad_11 10 (os_n σ 10))]) (by rw [he_12.2.1 10 (os_n σ 10) hr_5]; rfl) ?_
        have hr_13 : os_n σ 10 < os_n σ_10 10 := Nat.lt_of_lt_of_le hr_5 (he_12.1 10)
        have hr_14 : a < os_n σ_10 8 := Nat.lt_of_lt_of_le hr_6 (he_12.1 8)
        have hr_15 : 0 < os_n σ_10 0 := Nat.lt_of_lt_of_le hr_7 (he_12.1 0)
        have hr_16 : i < os_n σ_10 9 := Nat.lt_of_lt_of_le hr_8 (he_12.1 9)
        have hT : rfT σ_10 := z_9s ▸ aJoin_T hT
        refine os_putIN (C := "RobotFaults$Fault") (T := F_Fault) (N := 11) (ci := 4) (K := 10) (j := 8) (i := (os_n σ 10)) (v := os_g σ_3 11 0 z_9t) (ty := .int) hx hb hts i_Fault t_Fault t_Fault_ok n_Fault hown hK hV rfl rfl (by decide) hr_13 (hts _ k_436) rfl rfl rfl (by decide +kernel) rfl rfl d_RF_newFault_69 (fun H locs hV => ?_)
        refine lv_aload_n hx hb d_RF_newFault_72 rfl (lv_at hl 3 rfl) ?_
        refine lv_iload_n hx hb d_RF_newFault_73 rfl (lv_at hl 4 rfl) ?_
        refine lv_aload_n hx hb d_RF_newFault_74 rfl (lv_at hl 2 rfl) ?_
        refine os_get (C := "RobotFaults") (T := F_RF) (N := 11) (ci := 0) (K := 0) (j := 10) (i := 0) (v := .int (os_g σ_10 0 10 0)) hx hb hts i_RF hown hK hV rfl rfl (by decide) hr_15 (hts _ k_78) rfl d_RF_newFault_75 ?_
        refine lv_aload hx hb d_RF_newFault_78 (lv_at hl 1 rfl) ?_
        refine os_getN (C := "RobotFaults$Rule") (T := F_Rule) (N := 3) (ci := 2) (K := 8) (j := 1) (i := a) (v := .int (os_g σ_10 8 1 a)) hx hb hts i_Rule hown hK hV rfl rfl (by decide) hr_14 (hts _ k_58) rfl d_RF_newFault_80 ?_
        refine W.eq (g2 := F0 m 83 ls [.int (bz (decide (os_g σ_10 8 1 a = 1))), .int (os_g σ_10 0 10 0), .int (nI a), .ref (ad_11 9 i)]) (congrArg (fun z => F0 m 83 ls (.int z :: [.int (os_g σ_10 0 10 0), .int (nI a), .ref (ad_11 9 i)])) (hT a ha)) ?_
        refine os_call (c_Robot_suffer l hlt D cA bs (os_sg σ_10 10 8 (os_n σ 10) (os_g σ_3 11 0 z_9t)) ad_11 i (nI a) (os_g σ_10 0 10 0) (decide (os_g σ_10 8 1 a = 1)) hr_16) hE hV k_517 k_11 (os_inV (C := "RobotFaults$Robot") (n := 3) (bytes := prog_5_method_2_code) (maxL := 4) (ret := none) hx hb hown (hts _ k_514) (hts _ k_515) (hts _ k_516) (hts _ k_517) (by decide +kernel) rfl (os_recv hK hV rfl rfl hr_16) rfl d_RF_newFault_83) (hl.1.trans hml.symm) (Nat.le_of_ble_eq_true rfl) (Nat.le_of_ble_eq_true rfl) (Nat.le_of_ble_eq_true rfl) (Nat.le_of_ble_eq_true rfl) (Nat.le_of_ble_eq_true rfl) (fun v σ1 ad1 H locs hp hext hV => ?_) (fun E q ce σ1 ad1 H locs hp hext hV hce hcv hcl => ?_)
        · obtain ⟨zs_17, rfl, hp⟩ := hp
          cases hp
          obtain ⟨σ_18, rfl⟩ : ∃ z, z = σ1 := ⟨_, rfl⟩
          have he_19 := hext
          have hr_20 : os_n σ 10 < os_n σ_18 10 := Nat.lt_of_lt_of_le hr_13 (he_19.1 10)
          have hr_21 : a < os_n σ_18 8 := Nat.lt_of_lt_of_le hr_14 (he_19.1 8)
          have hr_22 : 0 < os_n σ_18 0 := Nat.lt_of_lt_of_le hr_15 (he_19.1 0)
          have hr_23 : i < os_n σ_18 9 := Nat.lt_of_lt_of_le hr_16 (he_19.1 9)
          refine W.eq (g2 := F0 m 86 ls []) rfl ?_
          refine lv_aload hx hb d_RF_newFault_86 (lv_at hl 0 rfl) ?_
          refine os_getN (C := "RobotFaults$Fault") (T := F_Fault) (N := 11) (ci := 4) (K := 10) (j := 0) (i := (os_n σ 10)) (v := .int (os_g σ_18 10 0 (os_n σ 10))) hx hb hts i_Fault hown hK hV rfl rfl (by decide) hr_20 (hts _ k_418) rfl d_RF_newFault_88 ?_
          refine os_iret hx hb hr hlocks hV (Nat.le_of_ble_eq_true rfl) (Nat.le_of_ble_eq_true rfl) d_RF_newFault_91 ?_
          subst zs_17
          subst z_9s
          subst hs_4
          exact Or.inl ⟨z_9t, z_9h, rfl, rfl⟩
        · exact absurd hp.2.2 (fun h => by cases h)
      · skip
        obtain ⟨σ_24, rfl⟩ : ∃ z, z = σ1 := ⟨_, rfl⟩
        obtain ⟨ad_25, rfl⟩ : ∃ z, z = ad1 := ⟨_, rfl⟩
        have he_26 := hext
        have hl : lv_has ls 6 [(5, .ref (ad_25 10 (os_n σ 10))), (4, .ref (ad_25 8 a)), (0, .ref (ad_25 0 0)), (1, .ref (ad_25 9 i)), (2, .int (nI a)), (3, .int (bz b))] := by rw [he_26.2.1 10 (os_n σ 10) hr_5, he_26.2.1 8 a hr_6, he_26.2.1 0 0 hr_7, he_26.2.1 9 i hr_8]; exact hl
        refine W.eq (g2 := F0 m 69 ls [.int (os_g σ_3 0 8 0), .ref (ad_25 10 (os_n σ 10))]) (by rw [he_26.2.1 10 (os_n σ 10) hr_5]; rfl) ?_
        have hr_27 : os_n σ 10 < os_n σ_24 10 := Nat.lt_of_lt_of_le hr_5 (he_26.1 10)
        have hr_28 : a < os_n σ_24 8 := Nat.lt_of_lt_of_le hr_6 (he_26.1 8)
        have hr_29 : 0 < os_n σ_24 0 := Nat.lt_of_lt_of_le hr_7 (he_26.1 0)
        have hr_30 : i < os_n σ_24 9 := Nat.lt_of_lt_of_le hr_8 (he_26.1 9)
        have hT : rfT σ_24 := z_9s ▸ aNew_T hT
        refine os_putIN (C := "RobotFaults$Fault") (T := F_Fault) (N := 11) (ci := 4) (K := 10) (j := 8) (i := (os_n σ 10)) (v := os_g σ_3 0 8 0) (ty := .int) hx hb hts i_Fault t_Fault t_Fault_ok n_Fault hown hK hV rfl rfl (by decide) hr_27 (hts _ k_436) rfl rfl rfl (by decide +kernel) rfl rfl d_RF_newFault_69 (fun H locs hV => ?_)
        refine lv_aload_n hx hb d_RF_newFault_72 rfl (lv_at hl 3 rfl) ?_
        refine lv_iload_n hx hb d_RF_newFault_73 rfl (lv_at hl 4 rfl) ?_
        refine lv_aload_n hx hb d_RF_newFault_74 rfl (lv_at hl 2 rfl) ?_
        refine os_get (C := "RobotFaults") (T := F_RF) (N := 11) (ci := 0) (K := 0) (j := 10) (i := 0) (v := .int (os_g σ_24 0 10 0)) hx hb hts i_RF hown hK hV rfl rfl (by decide) hr_29 (hts _ k_78) rfl d_RF_newFault_75 ?_
        refine lv_aload hx hb d_RF_newFault_78 (lv_at hl 1 rfl) ?_
        refine os_getN (C := "RobotFaults$Rule") (T := F_Rule) (N := 3) (ci := 2) (K := 8) (j := 1) (i := a) (v := .int (os_g σ_24 8 1 a)) hx hb hts i_Rule hown hK hV rfl rfl (by decide) hr_28 (hts _ k_58) rfl d_RF_newFault_80 ?_
        refine W.eq (g2 := F0 m 83 ls [.int (bz (decide (os_g σ_24 8 1 a = 1))), .int (os_g σ_24 0 10 0), .int (nI a), .ref (ad_25 9 i)]) (congrArg (fun z => F0 m 83 ls (.int z :: [.int (os_g σ_24 0 10 0), .int (nI a), .ref (ad_25 9 i)])) (hT a ha)) ?_
        refine os_call (c_Robot_suffer l hlt D cA bs (os_sg σ_24 10 8 (os_n σ 10) (os_g σ_3 0 8 0)) ad_25 i (nI a) (os_g σ_24 0 10 0) (decide (os_g σ_24 8 1 a = 1)) hr_30) hE hV k_517 k_11 (os_inV (C := "RobotFaults$Robot") (n := 3) (bytes := prog_5_method_2_code) (maxL := 4) (ret := none) hx hb hown (hts _ k_514) (hts _ k_515) (hts _ k_516) (hts _ k_517) (by decide +kernel) rfl (os_recv hK hV rfl rfl hr_30) rfl d_RF_newFault_83) (hl.1.trans hml.symm) (Nat.le_of_ble_eq_true rfl) (Nat.le_of_ble_eq_true rfl) (Nat.le_of_ble_eq_true rfl) (Nat.le_of_ble_eq_true rfl) (Nat.le_of_ble_eq_true rfl) (fun v σ1 ad1 H locs hp hext hV => ?_) (fun E q ce σ1 ad1 H locs hp hext hV hce hcv hcl => ?_)
        · obtain ⟨zs_31, rfl, hp⟩ := hp
          cases hp
          obtain ⟨σ_32, rfl⟩ : ∃ z, z = σ1 := ⟨_, rfl⟩
          have he_33 := hext
          have hr_34 : os_n σ 10 < os_n σ_32 10 := Nat.lt_of_lt_of_le hr_27 (he_33.1 10)
          have hr_35 : a < os_n σ_32 8 := Nat.lt_of_lt_of_le hr_28 (he_33.1 8)
          have hr_36 : 0 < os_n σ_32 0 := Nat.lt_of_lt_of_le hr_29 (he_33.1 0)
          have hr_37 : i < os_n σ_32 9 := Nat.lt_of_lt_of_le hr_30 (he_33.1 9)
          refine W.eq (g2 := F0 m 86 ls []) rfl ?_
          refine lv_aload hx hb d_RF_newFault_86 (lv_at hl 0 rfl) ?_
          refine os_getN (C := "RobotFaults$Fault") (T := F_Fault) (N := 11) (ci := 4) (K := 10) (j := 0) (i := (os_n σ 10)) (v := .int (os_g σ_32 10 0 (os_n σ 10))) hx hb hts i_Fault hown hK hV rfl rfl (by decide) hr_34 (hts _ k_418) rfl d_RF_newFault_88 ?_
          refine os_iret hx hb hr hlocks hV (Nat.le_of_ble_eq_true rfl) (Nat.le_of_ble_eq_true rfl) d_RF_newFault_91 ?_
          subst zs_31
          subst z_9s
          subst hs_4
          exact Or.inr ⟨z_9h, rfl, rfl⟩
        · exact absurd hp.2.2 (fun h => by cases h)
    · rcases hp with ⟨_, _, _, hp⟩ | ⟨_, _, hp⟩ <;> cases hp
  · exact absurd hp.2.2 (fun h => by cases h)
