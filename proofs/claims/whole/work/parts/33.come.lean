/-! FAULTS THAT COME; robots and planted faults that are made -/
def jnA (σ : os_S) (f r9 : Nat) : Option Nat := match laA σ r9 (os_g σ 10 2 f) 40 with
  | none => none
  | some t => if 60 < os_g σ 0 10 0 - os_g σ 10 3 (aL σ t) then none else some t
/-- a new fault -/
def nfS (σ : os_S) (i a : Nat) (b : Bool) : os_S := match jnA (nfB σ i a b) (os_n σ 10) i with
  | none => nfN σ i a b
  | some t => nfJ σ i a b t
theorem q_nf {σ σ' : os_S} {i a : Nat} {b : Bool} {r : os_O} {ad' : Nat → Nat → Nat} (h : q_newFault σ i a b r σ' ad') : nfS σ i a b = σ' ∧ r = .inl (some (.int (os_g (nfS σ i a b) 10 0 (os_n σ 10)))) := by
  rcases h with ⟨t, h1, h2, h3⟩ | ⟨h1, h2, h3⟩
  · have e : jnA (nfB σ i a b) (os_n σ 10) i = some t := by
      unfold jnA
      rw [h1.1]
      exact if_neg h1.2
    have e2 : nfS σ i a b = nfJ σ i a b t := by unfold nfS; rw [e]
    rw [e2]
    exact ⟨h2, h3⟩
  · have e : jnA (nfB σ i a b) (os_n σ 10) i = none := by
      unfold jnA
      split
      · rfl
      · rename_i t ht
        by_cases hc : 60 < os_g (nfB σ i a b) 0 10 0 - os_g (nfB σ i a b) 10 3 (aL (nfB σ i a b) t)
        · exact if_pos hc
        · exact absurd ⟨ht, hc⟩ (h1 t)
    have e2 : nfS σ i a b = nfN σ i a b := by unfold nfS; rw [e]
    rw [e2]
    exact ⟨h2, h3⟩
def q_oon (σ : os_S) (i a : Nat) (b : Bool) : os_O → os_S → (Nat → Nat → Nat) → Prop := fun r σ' _ => (∃ t, ofA σ i (nI a) 40 = some t ∧ σ = σ' ∧ r = .inl (some (.int (-(os_g σ 10 0 t))))) ∨ (ofA σ i (nI a) 40 = none ∧ nfS σ i a b = σ' ∧ r = .inl (some (.int (os_g (nfS σ i a b) 10 0 (os_n σ 10)))))
def nlF (σ : os_S) (i : Nat) (k : Int32) : Bool := decide (k = 2) && decide (os_g σ 9 3 i = -1)
def rmF (σ : os_S) : Bool := decide (¬ 40 ≤ os_g σ 0 7 0 ∧ ¬ 40 ≤ os_g σ 0 8 0)
theorem rmF.f {σ : os_S} (h : rmF σ = true) (hF : rfS σ 5 10 40 7) : os_n σ 10 < 40 := by
  have h1 := (of_decide_eq_true h).1
  rw [hF.2.1] at h1
  exact lt_of_nle h1 hF.1
theorem rmF.l {σ : os_S} (h : rmF σ = true) (hL : rfS σ 6 11 40 8) : os_n σ 11 < 40 := by
  have h1 := (of_decide_eq_true h).2
  rw [hL.2.1] at h1
  exact lt_of_nle h1 hL.1
set_option maxHeartbeats 4000000 in
set_option maxRecDepth 100000 in
theorem c_RF_openOrNewFault (l : Launch) (hlt : l.stackTraces = false) (D : va_G) (cA : Nat → ClassId) (bs : Nat) (σ : os_S) (ad : Nat → Nat → Nat) (i a : Nat) (b : Bool) (hA : rfA σ) (hF : rfF σ) (hL : rfL σ) (hT : rfT σ) (hi : i < os_n σ 9) (ha : a < 8) (hn : os_n σ 10 < 40) (hm : os_n σ 11 < 40) : os_Met l y_RF_openOrNewFault prog_1_method_33_code 5 (some .int) { frames := 4, cells := 2, slots := 19, locals := 116 } D cA bs [.ref (ad 0 0), .ref (ad 9 i), .int (nI a), .int (bz b)] σ ad (q_oon σ i a b) := by
  refine os_ofW (by decide) ?_
  intro p e s m below meth c hx hb hr hml hown hlocks hmn hout hE hV
  have hts := hE.hts (args := ([.ref (ad 0 0), .ref (ad 9 i), .int (nI a), .int (bz b)] : List Value).toArray)
  have hK := hE.2.1
  have hbs := hE.2.2.1
  have hown : s.vm.findClass "RobotFaults" = some m.cls := hown
  have hl := lv_entry ([.ref (ad 0 0), .ref (ad 9 i), .int (nI a), .int (bz b)]) (n := 5) (Nat.le_of_ble_eq_true rfl)
  rw [lg_entry_eq]
  generalize (lg_sl ([.ref (ad 0 0), .ref (ad 9 i), .int (nI a), .int (bz b)]) ++ List.replicate (5 - (lg_sl ([.ref (ad 0 0), .ref (ad 9 i), .int (nI a), .int (bz b)])).length) Slot.unset).toArray = ls at hl ⊢
  have hl : lv_has ls 5 [(0, .ref (ad 0 0)), (1, .ref (ad 9 i)), (2, .int (nI a)), (3, .int (bz b))] := hl
  refine lv_aload_n hx hb d_RF_openOrNewFault_0 rfl (lv_at hl 0 rfl) ?_
  refine lv_aload_n hx hb d_RF_openOrNewFault_1 rfl (lv_at hl 1 rfl) ?_
  refine lv_iload_n hx hb d_RF_openOrNewFault_2 rfl (lv_at hl 2 rfl) ?_
  refine os_call (c_RF_openFault l hlt D cA bs σ ad i (nI a) hA hF hi) hE hV k_407 k_1 (os_inV (C := "RobotFaults") (n := 2) (bytes := prog_1_method_34_code) (maxL := 7) (ret := (some (.object "RobotFaults$Fault"))) hx hb hown (hts _ k_404) (hts _ k_406) (hts _ k_s8) (hts _ k_407) (by decide +kernel) rfl (os_recv hK hV rfl rfl (hA.n 0 (by decide))) rfl d_RF_openOrNewFault_3) (hl.1.trans hml.symm) (Nat.le_of_ble_eq_true rfl) (Nat.le_of_ble_eq_true rfl) (Nat.le_of_ble_eq_true rfl) (Nat.le_of_ble_eq_true rfl) (Nat.le_of_ble_eq_true rfl) (fun v σ1 ad1 H locs hp hext hV => ?_) (fun E q ce σ1 ad1 H locs hp hext hV hce hcv hcl => ?_)
  · obtain ⟨rfl, rfl, hp⟩ := hp
    cases hp
    cases q_1 : ofA σ i (nI a) 40 with
    | none =>
      refine W.eq (g2 := F0 m 6 ls [.null]) rfl ?_
      refine lv_astoreN (lv' := [(4, .null), (0, .ref (ad 0 0)), (1, .ref (ad 9 i)), (2, .int (nI a)), (3, .int (bz b))]) hx hb d_RF_openOrNewFault_6 hl (by decide) rfl (fun ls hl => ?_)
      refine lv_aloadN hx hb d_RF_openOrNewFault_8 (lv_at hl 0 rfl) ?_
      refine lv_ifnonnullN hx hb d_RF_openOrNewFault_10 ?_
      refine lv_aload_n hx hb d_RF_openOrNewFault_13 rfl (lv_at hl 1 rfl) ?_
      refine lv_aload_n hx hb d_RF_openOrNewFault_14 rfl (lv_at hl 2 rfl) ?_
      refine lv_iload_n hx hb d_RF_openOrNewFault_15 rfl (lv_at hl 3 rfl) ?_
      refine lv_iload_n hx hb d_RF_openOrNewFault_16 rfl (lv_at hl 4 rfl) ?_
      refine os_call (c_RF_newFault l hlt D cA bs σ ad i a b hA hF hL hT hi ha hn hm) hE hV k_411 k_1 (os_inV (C := "RobotFaults") (n := 3) (bytes := prog_1_method_35_code) (maxL := 6) (ret := (some .int)) hx hb hown (hts _ k_408) (hts _ k_410) (hts _ k_s9) (hts _ k_411) (by decide +kernel) rfl (os_recv hK hV rfl rfl (hA.n 0 (by decide))) rfl d_RF_openOrNewFault_17) (hl.1.trans hml.symm) (Nat.le_of_ble_eq_true rfl) (Nat.le_of_ble_eq_true rfl) (Nat.le_of_ble_eq_true rfl) (Nat.le_of_ble_eq_true rfl) (Nat.le_of_ble_eq_true rfl) (fun v σ1 ad1 H locs hp hext hV => ?_) (fun E q ce σ1 ad1 H locs hp hext hV hce hcv hcl => ?_)
      · obtain ⟨z_3s, hp⟩ := q_nf hp
        cases hp
        obtain ⟨σ_4, rfl⟩ : ∃ z, z = σ1 := ⟨_, rfl⟩
        obtain ⟨ad_5, rfl⟩ : ∃ z, z = ad1 := ⟨_, rfl⟩
        have he_6 := hext
        have hl : lv_has ls 5 [(4, .null), (0, .ref (ad_5 0 0)), (1, .ref (ad_5 9 i)), (2, .int (nI a)), (3, .int (bz b))] := by rw [he_6.2.1 0 0 (hA.n 0 (by decide)), he_6.2.1 9 i hi]; exact hl
        refine W.eq (g2 := F0 m 20 ls [.int (os_g (nfS σ i a b) 10 0 (os_n σ 10))]) rfl ?_
        have hr_7 : 0 < os_n σ_4 0 := Nat.lt_of_lt_of_le (hA.n 0 (by decide)) (he_6.1 0)
        have hr_8 : i < os_n σ_4 9 := Nat.lt_of_lt_of_le hi (he_6.1 9)
        refine lv_goto (tgt := 29) hx hb d_RF_openOrNewFault_20 (by decide) ?_
        refine os_iret hx hb hr hlocks hV (Nat.le_of_ble_eq_true rfl) (Nat.le_of_ble_eq_true rfl) d_RF_openOrNewFault_29 ?_
        subst z_3s
        exact Or.inr ⟨q_1, rfl, rfl⟩
      · obtain ⟨_, hp⟩ := q_nf hp; cases hp
    | some t_2 =>
      refine W.eq (g2 := F0 m 6 ls [.ref (ad 10 t_2)]) rfl ?_
      refine lv_astore (lv' := [(4, .ref (ad 10 t_2)), (0, .ref (ad 0 0)), (1, .ref (ad 9 i)), (2, .int (nI a)), (3, .int (bz b))]) hx hb d_RF_openOrNewFault_6 hl (by decide) rfl (fun ls hl => ?_)
      refine lv_aload hx hb d_RF_openOrNewFault_8 (lv_at hl 0 rfl) ?_
      refine lv_ifnonnull (tgt := 23) hx hb d_RF_openOrNewFault_10 (by decide) ?_
      refine lv_aload hx hb d_RF_openOrNewFault_23 (lv_at hl 0 rfl) ?_
      refine os_getN (C := "RobotFaults$Fault") (T := F_Fault) (N := 11) (ci := 4) (K := 10) (j := 0) (i := t_2) (v := .int (os_g σ 10 0 t_2)) hx hb hts i_Fault hown hK hV rfl rfl (by decide) (ofA_is q_1).2.1 (hts _ k_418) rfl d_RF_openOrNewFault_25 ?_
      refine lv_ineg hx hb d_RF_openOrNewFault_28 ?_
      refine os_iret hx hb hr hlocks hV (Nat.le_of_ble_eq_true rfl) (Nat.le_of_ble_eq_true rfl) d_RF_openOrNewFault_29 ?_
      exact Or.inl ⟨t_2, q_1, rfl, rfl⟩
  · exact absurd hp.2.2 (fun h => by cases h)
def q_fault (σ : os_S) (ad : Nat → Nat → Nat) (x y : Int32) : os_O → os_S → (Nat → Nat → Nat) → Prop := fun r σ' ad' => (noR σ x ∧ σ = σ' ∧ r = .inr "java/util/NoSuchElementException") ∨
  ∃ i, isR σ x i ∧ ((¬ (¬ y < 0 ∧ y < 8) ∧ σ = σ' ∧ r = .inr "java/lang/IllegalArgumentException") ∨ ∃ a, a < 8 ∧ y = nI a ∧ ((nlF σ i y = true ∧ σ = σ' ∧ r = .inr "java/lang/IllegalStateException") ∨ (¬ nlF σ i y = true ∧ ¬ rmF σ = true ∧ σ = σ' ∧ r = .inr "java/lang/UnsupportedOperationException") ∨ (¬ nlF σ i y = true ∧ rmF σ = true ∧ q_oon σ i a false r σ' ad')))
set_option maxHeartbeats 4000000 in
set_option maxRecDepth 100000 in
theorem c_RF_fault (l : Launch) (hlt : l.stackTraces = false) (D : va_G) (cA : Nat → ClassId) (bs : Nat) (σ : os_S) (ad : Nat → Nat → Nat) (x y : Int32) (hA : rfA σ) (hR : rfS σ 4 9 8 6) (hF : rfF σ) (hL : rfL σ) (hT : rfT σ) : os_Met l y_RF_fault prog_1_method_8_code 4 (some .int) { frames := 7, cells := 6, slots := 43, locals := 140 } D cA bs [.ref (ad 0 0), .int x, .int y] σ ad (q_fault σ ad x y) := by
  refine os_ofW (by decide) ?_
  intro p e s m below meth c hx hb hr hml hown hlocks hmn hout hE hV
  have hts := hE.hts (args := ([.ref (ad 0 0), .int x, .int y] : List Value).toArray)
  have hK := hE.2.1
  have hbs := hE.2.2.1
  have hown : s.vm.findClass "RobotFaults" = some m.cls := hown
  have hl := lv_entry ([.ref (ad 0 0), .int x, .int y]) (n := 4) (Nat.le_of_ble_eq_true rfl)
  rw [lg_entry_eq]
  generalize (lg_sl ([.ref (ad 0 0), .int x, .int y]) ++ List.replicate (4 - (lg_sl ([.ref (ad 0 0), .int x, .int y])).length) Slot.unset).toArray = ls at hl ⊢
  have hl : lv_has ls 4 [(0, .ref (ad 0 0)), (1, .int x), (2, .int y)] := hl
  refine lv_aload_n hx hb d_RF_fault_0 rfl (lv_at hl 0 rfl) ?_
  refine lv_iload_n hx hb d_RF_fault_1 rfl (lv_at hl 1 rfl) ?_
  refine os_call (c_RF_robotAt l hlt D cA bs σ ad x hA hR) hE hV k_349 k_1 (os_inV (C := "RobotFaults") (n := 1) (bytes := prog_1_method_24_code) (maxL := 3) (ret := (some (.object "RobotFaults$Robot"))) hx hb hown (hts _ k_346) (hts _ k_348) (hts _ k_s5) (hts _ k_349) (by decide +kernel) rfl (os_recv hK hV rfl rfl (hA.n 0 (by decide))) rfl d_RF_fault_2) (hl.1.trans hml.symm) (Nat.le_of_ble_eq_true rfl) (Nat.le_of_ble_eq_true rfl) (Nat.le_of_ble_eq_true rfl) (Nat.le_of_ble_eq_true rfl) (Nat.le_of_ble_eq_true rfl) (fun v σ1 ad1 H locs hp hext hV => ?_) (fun E q ce σ1 ad1 H locs hp hext hV hce hcv hcl => ?_)
  · obtain ⟨rfl, rfl, ⟨i_1, hi_2, hx_3, hp⟩ | ⟨hx_3, hp⟩⟩ := hp <;> cases hp
    refine W.eq (g2 := F0 m 5 ls [.ref (ad 9 i_1)]) rfl ?_
    refine lv_astore_n (lv' := [(3, .ref (ad 9 i_1)), (0, .ref (ad 0 0)), (1, .int x), (2, .int y)]) hx hb d_RF_fault_5 rfl hl (by decide) rfl (fun ls hl => ?_)
    refine lv_iload_n hx hb d_RF_fault_6 rfl (lv_at hl 3 rfl) ?_
    refine os_call (c_RF_needKind l hlt D cA bs σ ad y) hE hV k_330 k_1 (os_inS (n := 1) (bytes := prog_1_method_27_code) (maxL := 1) (ret := none) hx hb hown (hts _ k_328) (hts _ k_329) (hts _ k_1) (hts _ k_330) (by decide +kernel) rfl rfl d_RF_fault_7) (hl.1.trans hml.symm) (Nat.le_of_ble_eq_true rfl) (Nat.le_of_ble_eq_true rfl) (Nat.le_of_ble_eq_true rfl) (Nat.le_of_ble_eq_true rfl) (Nat.le_of_ble_eq_true rfl) (fun v σ1 ad1 H locs hp hext hV => ?_) (fun E q ce σ1 ad1 H locs hp hext hV hce hcv hcl => ?_)
    · obtain ⟨rfl, rfl, ⟨g_4, hp⟩ | ⟨g_4, hp⟩⟩ := hp <;> cases hp
      refine W.eq (g2 := F0 m 10 ls []) rfl ?_
      obtain ⟨a, ha, rfl⟩ := rng (N := 8) rfl (by decide) g_4.1 (Int32.not_le.mpr g_4.2)
      refine lv_aload_n hx hb d_RF_fault_10 rfl (lv_at hl 0 rfl) ?_
      refine lv_iload_n hx hb d_RF_fault_11 rfl (lv_at hl 3 rfl) ?_
      refine os_call (c_RF_hasNoLoadToLose l hlt D cA bs σ ad i_1 (nI a) hi_2) hE hV k_393 k_1 (os_inS (n := 2) (bytes := prog_1_method_31_code) (maxL := 2) (ret := (some .boolean)) hx hb hown (hts _ k_391) (hts _ k_392) (hts _ k_1) (hts _ k_393) (by decide +kernel) rfl rfl d_RF_fault_12) (hl.1.trans hml.symm) (Nat.le_of_ble_eq_true rfl) (Nat.le_of_ble_eq_true rfl) (Nat.le_of_ble_eq_true rfl) (Nat.le_of_ble_eq_true rfl) (Nat.le_of_ble_eq_true rfl) (fun v σ1 ad1 H locs hp hext hV => ?_) (fun E q ce σ1 ad1 H locs hp hext hV hce hcv hcl => ?_)
      · obtain ⟨rfl, rfl, hp⟩ := hp
        cases hp
        refine W.eq (g2 := F0 m 15 ls [.int (bz (decide (nI a = 2) && decide (os_g σ 9 3 i_1 = -1)))]) rfl ?_
        refine lv_if_eq (tgt := 28) hx hb d_RF_fault_15 (by decide) (fun c_5 => ?_) (fun c_5 => ?_)
        · skip
          refine lv_aload_n hx hb d_RF_fault_28 rfl (lv_at hl 1 rfl) ?_
          refine os_call (c_RF_hasRoomForFault l hlt D cA bs σ ad hA) hE hV k_398 k_1 (os_inV (C := "RobotFaults") (n := 0) (bytes := prog_1_method_32_code) (maxL := 1) (ret := (some .boolean)) hx hb hown (hts _ k_395) (hts _ k_397) (hts _ k_s6) (hts _ k_398) (by decide +kernel) rfl (os_recv hK hV rfl rfl (hA.n 0 (by decide))) rfl d_RF_fault_29) (hl.1.trans hml.symm) (Nat.le_of_ble_eq_true rfl) (Nat.le_of_ble_eq_true rfl) (Nat.le_of_ble_eq_true rfl) (Nat.le_of_ble_eq_true rfl) (Nat.le_of_ble_eq_true rfl) (fun v σ1 ad1 H locs hp hext hV => ?_) (fun E q ce σ1 ad1 H locs hp hext hV hce hcv hcl => ?_)
          · obtain ⟨rfl, rfl, hp⟩ := hp
            cases hp
            refine W.eq (g2 := F0 m 32 ls [.int (bz (decide (¬ 40 ≤ os_g σ 0 7 0 ∧ ¬ 40 ≤ os_g σ 0 8 0)))]) rfl ?_
            refine lv_if_ne (tgt := 45) hx hb d_RF_fault_32 (by decide) (fun c_6 => ?_) (fun c_6 => ?_)
            · skip
              refine lv_aload_n hx hb d_RF_fault_45 rfl (lv_at hl 1 rfl) ?_
              refine lv_aload_n hx hb d_RF_fault_46 rfl (lv_at hl 0 rfl) ?_
              refine lv_iload_n hx hb d_RF_fault_47 rfl (lv_at hl 3 rfl) ?_
              refine lv_iconst (v := 0) hx hb d_RF_fault_48 (by decide) ?_
              refine W.eq (g2 := F0 m 49 ls [.int (bz false), .int (nI a), .ref (ad 9 i_1), .ref (ad 0 0)]) rfl ?_
              refine os_call (c_RF_openOrNewFault l hlt D cA bs σ ad i_1 a false hA hF hL hT hi_2 ha (rmF.f (bz_1 c_6) hF.1) (rmF.l (bz_1 c_6) hL.1)) hE hV k_403 k_1 (os_inV (C := "RobotFaults") (n := 3) (bytes := prog_1_method_33_code) (maxL := 5) (ret := (some .int)) hx hb hown (hts _ k_400) (hts _ k_402) (hts _ k_s7) (hts _ k_403) (by decide +kernel) rfl (os_recv hK hV rfl rfl (hA.n 0 (by decide))) rfl d_RF_fault_49) (hl.1.trans hml.symm) (Nat.le_of_ble_eq_true rfl) (Nat.le_of_ble_eq_true rfl) (Nat.le_of_ble_eq_true rfl) (Nat.le_of_ble_eq_true rfl) (Nat.le_of_ble_eq_true rfl) (fun v σ1 ad1 H locs hp hext hV => ?_) (fun E q ce σ1 ad1 H locs hp hext hV hce hcv hcl => ?_)
              · have z_7q := hp
                have hp9 : ∃ v9, v = some (.int v9) := by rcases hp with ⟨_, _, _, hp⟩ | ⟨_, _, hp⟩ <;> (cases hp; exact ⟨_, rfl⟩)
                obtain ⟨z_7v, rfl⟩ := hp9
                obtain ⟨σ_8, rfl⟩ : ∃ z, z = σ1 := ⟨_, rfl⟩
                obtain ⟨ad_9, rfl⟩ : ∃ z, z = ad1 := ⟨_, rfl⟩
                have he_10 := hext
                have hl : lv_has ls 4 [(3, .ref (ad_9 9 i_1)), (0, .ref (ad_9 0 0)), (1, .int x), (2, .int (nI a))] := by rw [he_10.2.1 9 i_1 hi_2, he_10.2.1 0 0 (hA.n 0 (by decide))]; exact hl
                refine W.eq (g2 := F0 m 52 ls [.int z_7v]) rfl ?_
                have hr_11 : i_1 < os_n σ_8 9 := Nat.lt_of_lt_of_le hi_2 (he_10.1 9)
                have hr_12 : 0 < os_n σ_8 0 := Nat.lt_of_lt_of_le (hA.n 0 (by decide)) (he_10.1 0)
                refine os_iret hx hb hr hlocks hV (Nat.le_of_ble_eq_true rfl) (Nat.le_of_ble_eq_true rfl) d_RF_fault_52 ?_
                exact Or.inr ⟨i_1, ⟨hi_2, hx_3⟩, Or.inr ⟨a, ha, rfl, Or.inr (Or.inr ⟨bz_t c_5, bz_1 c_6, z_7q⟩)⟩⟩
              · rcases hp with ⟨_, _, _, hp⟩ | ⟨_, _, hp⟩ <;> cases hp
            · skip
              refine os_throw (own := "RobotFaults") (cls := "java/lang/UnsupportedOperationException") (text := "no room for another fault") (names := ["java/lang/RuntimeException", "java/lang/Exception"]) hx hb hlt hown (by decide) (by decide) hE hV k_155 k_8 (by decide +kernel) th_UnsupportedOperationException (hl.1.trans hml.symm) d_RF_fault_35 d_RF_fault_38 d_RF_fault_39 d_RF_fault_41 d_RF_fault_44 hout hlocks (Nat.le_of_ble_eq_true rfl) (Nat.le_of_ble_eq_true rfl) (Nat.le_of_ble_eq_true rfl) (Nat.le_of_ble_eq_true rfl) (Nat.le_of_ble_eq_true rfl) (Nat.le_of_ble_eq_true rfl) ?_
              exact Or.inr ⟨i_1, ⟨hi_2, hx_3⟩, Or.inr ⟨a, ha, rfl, Or.inr (Or.inl ⟨bz_t c_5, bz_t (by unfold rmF; simpa using c_6), rfl, rfl⟩)⟩⟩
          · exact absurd hp.2.2 (fun h => by cases h)
        · skip
          refine os_throw (own := "RobotFaults") (cls := "java/lang/IllegalStateException") (text := "the robot carries nothing that it could lose") (names := ["java/lang/RuntimeException", "java/lang/Exception"]) hx hb hlt hown (by decide) (by decide) hE hV k_351 k_12 (by decide +kernel) th_IllegalStateException (hl.1.trans hml.symm) d_RF_fault_18 d_RF_fault_21 d_RF_fault_22 d_RF_fault_24 d_RF_fault_27 hout hlocks (Nat.le_of_ble_eq_true rfl) (Nat.le_of_ble_eq_true rfl) (Nat.le_of_ble_eq_true rfl) (Nat.le_of_ble_eq_true rfl) (Nat.le_of_ble_eq_true rfl) (Nat.le_of_ble_eq_true rfl) ?_
          exact Or.inr ⟨i_1, ⟨hi_2, hx_3⟩, Or.inr ⟨a, ha, rfl, Or.inl ⟨bz_1 c_5, rfl, rfl⟩⟩⟩
      · exact absurd hp.2.2 (fun h => by cases h)
    · obtain ⟨rfl, rfl, ⟨g_4, hp⟩ | ⟨g_4, hp⟩⟩ := hp <;> cases hp
      refine os_out hout hlocks hV hce hcv hcl (Nat.le_of_ble_eq_true rfl) (Nat.le_of_ble_eq_true rfl) ?_
      exact Or.inr ⟨i_1, ⟨hi_2, hx_3⟩, Or.inl ⟨g_4, rfl, rfl⟩⟩
  · obtain ⟨rfl, rfl, ⟨i_1, hi_2, hx_3, hp⟩ | ⟨hx_3, hp⟩⟩ := hp <;> cases hp
    refine os_out hout hlocks hV hce hcv hcl (Nat.le_of_ble_eq_true rfl) (Nat.le_of_ble_eq_true rfl) ?_
    exact Or.inl ⟨hx_3, rfl, rfl⟩
/-- a planted fault comes -/
def brS (σ : os_S) (p a : Nat) : os_S := if ¬ nlF σ (pR σ p) (nI a) = true ∧ rmF σ = true then (match ofA σ (pR σ p) (nI a) 40 with
  | some _ => σ
  | none => nfS σ (pR σ p) a true) else σ
theorem brS_of {σ σ' : os_S} {p a : Nat} {r : os_O} {ad' : Nat → Nat → Nat} (h1 : ¬ nlF σ (pR σ p) (nI a) = true) (h2 : rmF σ = true) (h : q_oon σ (pR σ p) a true r σ' ad') : brS σ p a = σ' := by
  unfold brS
  rw [if_pos ⟨h1, h2⟩]
  rcases h with ⟨t, h, h3, _⟩ | ⟨h, h3, _⟩
  · rw [h]; exact h3
  · rw [h]; exact h3
set_option maxHeartbeats 4000000 in
set_option maxRecDepth 100000 in
theorem c_RF_bring (l : Launch) (hlt : l.stackTraces = false) (D : va_G) (cA : Nat → ClassId) (bs : Nat) (σ : os_S) (ad : Nat → Nat → Nat) (pp a : Nat) (hA : rfA σ) (hF : rfF σ) (hL : rfL σ) (hT : rfT σ) (hp0 : pp < os_n σ 12) (hpr : os_r σ 12 0 pp = some (pR σ pp)) (hrp : pR σ pp < os_n σ 9) (ha : a < 8) (hk : os_g σ 12 1 pp = nI a) : os_Met l y_RF_bring prog_1_method_42_code 2 none { frames := 5, cells := 2, slots := 19, locals := 140 } D cA bs [.ref (ad 0 0), .ref (ad 12 pp)] σ ad (fun r σ' ad' => brS σ pp a = σ' ∧ r = .inl none) := by
  refine os_ofW (by decide) ?_
  intro p e s m below meth c hx hb hr hml hown hlocks hmn hout hE hV
  have hts := hE.hts (args := ([.ref (ad 0 0), .ref (ad 12 pp)] : List Value).toArray)
  have hK := hE.2.1
  have hbs := hE.2.2.1
  have hown : s.vm.findClass "RobotFaults" = some m.cls := hown
  have hl := lv_entry ([.ref (ad 0 0), .ref (ad 12 pp)]) (n := 2) (Nat.le_of_ble_eq_true rfl)
  rw [lg_entry_eq]
  generalize (lg_sl ([.ref (ad 0 0), .ref (ad 12 pp)]) ++ List.replicate (2 - (lg_sl ([.ref (ad 0 0), .ref (ad 12 pp)])).length) Slot.unset).toArray = ls at hl ⊢
  have hl : lv_has ls 2 [(0, .ref (ad 0 0)), (1, .ref (ad 12 pp))] := hl
  refine lv_aload_n hx hb d_RF_bring_0 rfl (lv_at hl 1 rfl) ?_
  refine os_getN (C := "RobotFaults$Planted") (T := F_Planted) (N := 3) (ci := 6) (K := 12) (j := 0) (i := pp) (v := .ref (ad 9 (pR σ pp))) hx hb hts i_Planted hown hK hV rfl rfl (by decide) hp0 (hts _ k_627) (congrArg (fun z => va_rf (Option.map (ad 9) z)) hpr) d_RF_bring_1 ?_
  refine lv_aload_n hx hb d_RF_bring_4 rfl (lv_at hl 1 rfl) ?_
  refine os_getN (C := "RobotFaults$Planted") (T := F_Planted) (N := 3) (ci := 6) (K := 12) (j := 1) (i := pp) (v := .int (os_g σ 12 1 pp)) hx hb hts i_Planted hown hK hV rfl rfl (by decide) hp0 (hts _ k_629) rfl d_RF_bring_5 ?_
  rw [hk]
  refine os_call (c_RF_hasNoLoadToLose l hlt D cA bs σ ad (pR σ pp) (nI a) hrp) hE hV k_393 k_1 (os_inS (n := 2) (bytes := prog_1_method_31_code) (maxL := 2) (ret := (some .boolean)) hx hb hown (hts _ k_391) (hts _ k_392) (hts _ k_1) (hts _ k_393) (by decide +kernel) rfl rfl d_RF_bring_8) (hl.1.trans hml.symm) (Nat.le_of_ble_eq_true rfl) (Nat.le_of_ble_eq_true rfl) (Nat.le_of_ble_eq_true rfl) (Nat.le_of_ble_eq_true rfl) (Nat.le_of_ble_eq_true rfl) (fun v σ1 ad1 H locs hp hext hV => ?_) (fun E q ce σ1 ad1 H locs hp hext hV hce hcv hcl => ?_)
  · obtain ⟨rfl, rfl, hp⟩ := hp
    cases hp
    refine W.eq (g2 := F0 m 11 ls [.int (bz (decide (nI a = 2) && decide (os_g σ 9 3 (pR σ pp) = -1)))]) rfl ?_
    refine lv_if_ne (tgt := 35) hx hb d_RF_bring_11 (by decide) (fun c_1 => ?_) (fun c_1 => ?_)
    · skip
      refine os_vret hx hb hr hlocks hV (Nat.le_of_ble_eq_true rfl) (Nat.le_of_ble_eq_true rfl) d_RF_bring_35 ?_
      exact ⟨if_neg (fun h => h.1 (bz_1 c_1)), rfl⟩
    · skip
      refine lv_aload_n hx hb d_RF_bring_14 rfl (lv_at hl 0 rfl) ?_
      refine os_call (c_RF_hasRoomForFault l hlt D cA bs σ ad hA) hE hV k_398 k_1 (os_inV (C := "RobotFaults") (n := 0) (bytes := prog_1_method_32_code) (maxL := 1) (ret := (some .boolean)) hx hb hown (hts _ k_395) (hts _ k_397) (hts _ k_s6) (hts _ k_398) (by decide +kernel) rfl (os_recv hK hV rfl rfl (hA.n 0 (by decide))) rfl d_RF_bring_15) (hl.1.trans hml.symm) (Nat.le_of_ble_eq_true rfl) (Nat.le_of_ble_eq_true rfl) (Nat.le_of_ble_eq_true rfl) (Nat.le_of_ble_eq_true rfl) (Nat.le_of_ble_eq_true rfl) (fun v σ1 ad1 H locs hp hext hV => ?_) (fun E q ce σ1 ad1 H locs hp hext hV hce hcv hcl => ?_)
      · obtain ⟨rfl, rfl, hp⟩ := hp
        cases hp
        refine W.eq (g2 := F0 m 18 ls [.int (bz (decide (¬ 40 ≤ os_g σ 0 7 0 ∧ ¬ 40 ≤ os_g σ 0 8 0)))]) rfl ?_
        refine lv_if_eq (tgt := 35) hx hb d_RF_bring_18 (by decide) (fun c_2 => ?_) (fun c_2 => ?_)
        · skip
          refine os_vret hx hb hr hlocks hV (Nat.le_of_ble_eq_true rfl) (Nat.le_of_ble_eq_true rfl) d_RF_bring_35 ?_
          exact ⟨if_neg (fun h => bz_t c_2 h.2), rfl⟩
        · skip
          refine lv_aload_n hx hb d_RF_bring_21 rfl (lv_at hl 0 rfl) ?_
          refine lv_aload_n hx hb d_RF_bring_22 rfl (lv_at hl 1 rfl) ?_
          refine os_getN (C := "RobotFaults$Planted") (T := F_Planted) (N := 3) (ci := 6) (K := 12) (j := 0) (i := pp) (v := .ref (ad 9 (pR σ pp))) hx hb hts i_Planted hown hK hV rfl rfl (by decide) hp0 (hts _ k_627) (congrArg (fun z => va_rf (Option.map (ad 9) z)) hpr) d_RF_bring_23 ?_
          refine lv_aload_n hx hb d_RF_bring_26 rfl (lv_at hl 1 rfl) ?_
          refine os_getN (C := "RobotFaults$Planted") (T := F_Planted) (N := 3) (ci := 6) (K := 12) (j := 1) (i := pp) (v := .int (os_g σ 12 1 pp)) hx hb hts i_Planted hown hK hV rfl rfl (by decide) hp0 (hts _ k_629) rfl d_RF_bring_27 ?_
          refine lv_iconst (v := 1) hx hb d_RF_bring_30 (by decide) ?_
          rw [hk]
          refine W.eq (g2 := F0 m 31 ls [.int (bz true), .int (nI a), .ref (ad 9 (pR σ pp)), .ref (ad 0 0)]) rfl ?_
          refine os_call (c_RF_openOrNewFault l hlt D cA bs σ ad (pR σ pp) a true hA hF hL hT hrp ha (rmF.f (bz_1 c_2) hF.1) (rmF.l (bz_1 c_2) hL.1)) hE hV k_403 k_1 (os_inV (C := "RobotFaults") (n := 3) (bytes := prog_1_method_33_code) (maxL := 5) (ret := (some .int)) hx hb hown (hts _ k_400) (hts _ k_402) (hts _ k_s7) (hts _ k_403) (by decide +kernel) rfl (os_recv hK hV rfl rfl (hA.n 0 (by decide))) rfl d_RF_bring_31) (hl.1.trans hml.symm) (Nat.le_of_ble_eq_true rfl) (Nat.le_of_ble_eq_true rfl) (Nat.le_of_ble_eq_true rfl) (Nat.le_of_ble_eq_true rfl) (Nat.le_of_ble_eq_true rfl) (fun v σ1 ad1 H locs hp hext hV => ?_) (fun E q ce σ1 ad1 H locs hp hext hV hce hcv hcl => ?_)
          · have z_3q := hp
            have hp9 : ∃ v9, v = some (.int v9) := by rcases hp with ⟨_, _, _, hp⟩ | ⟨_, _, hp⟩ <;> (cases hp; exact ⟨_, rfl⟩)
            obtain ⟨z_3v, rfl⟩ := hp9
            obtain ⟨σ_4, rfl⟩ : ∃ z, z = σ1 := ⟨_, rfl⟩
            obtain ⟨ad_5, rfl⟩ : ∃ z, z = ad1 := ⟨_, rfl⟩
            have he_6 := hext
            have hl : lv_has ls 2 [(0, .ref (ad_5 0 0)), (1, .ref (ad_5 12 pp))] := by rw [he_6.2.1 0 0 (hA.n 0 (by decide)), he_6.2.1 12 pp hp0]; exact hl
            refine W.eq (g2 := F0 m 34 ls [.int z_3v]) rfl ?_
            have hr_7 : 0 < os_n σ_4 0 := Nat.lt_of_lt_of_le (hA.n 0 (by decide)) (he_6.1 0)
            have hr_8 : pp < os_n σ_4 12 := Nat.lt_of_lt_of_le hp0 (he_6.1 12)
            refine lv_pop hx hb d_RF_bring_34 rfl ?_
            refine os_vret hx hb hr hlocks hV (Nat.le_of_ble_eq_true rfl) (Nat.le_of_ble_eq_true rfl) d_RF_bring_35 ?_
            exact ⟨brS_of (bz_t c_1) (bz_1 c_2) z_3q, rfl⟩
          · rcases hp with ⟨_, _, _, hp⟩ | ⟨_, _, hp⟩ <;> cases hp
      · exact absurd hp.2.2 (fun h => by cases h)
  · exact absurd hp.2.2 (fun h => by cases h)
/-- a robot more -/
def roS (σ : os_S) (x : Int32) : os_S := os_sg (os_sr (os_sg (os_sg (os_sg (os_sg (os_sg (os_sg (os_nw σ 9 0) 9 2 (os_n σ 9) 0) 9 3 (os_n σ 9) (-1)) 9 4 (os_n σ 9) 0) 9 5 (os_n σ 9) 0) 9 0 (os_n σ 9) (os_g σ 0 6 0)) 9 1 (os_n σ 9) x) 4 (os_n σ 9) 0 (some (os_n σ 9))) 0 6 0 ((os_g σ 0 6 0) + 1)
def q_robot (σ : os_S) (x : Int32) : os_O → os_S → (Nat → Nat → Nat) → Prop := fun r σ' _ => (¬ isP σ x ∧ σ = σ' ∧ r = .inr "java/util/NoSuchElementException") ∨ (isP σ x ∧ ¬ os_g σ 0 6 0 < 8 ∧ σ = σ' ∧ r = .inr "java/lang/UnsupportedOperationException") ∨ (isP σ x ∧ os_g σ 0 6 0 < 8 ∧ roS σ x = σ' ∧ r = .inl (some (.int (os_g σ 0 6 0))))
set_option maxHeartbeats 4000000 in
set_option maxRecDepth 100000 in
theorem c_RF_robot (l : Launch) (hlt : l.stackTraces = false) (D : va_G) (cA : Nat → ClassId) (bs : Nat) (σ : os_S) (ad : Nat → Nat → Nat) (x : Int32) (hA : rfA σ) (hR : rfS σ 4 9 8 6) : os_Met l y_RF_robot prog_1_method_4_code 3 (some .int) { frames := 7, cells := 3, slots := 18, locals := 118 } D cA bs [.ref (ad 0 0), .int x] σ ad (q_robot σ x) := by
  refine os_ofW (by decide) ?_
  intro p e s m below meth c hx hb hr hml hown hlocks hmn hout hE hV
  have hts := hE.hts (args := ([.ref (ad 0 0), .int x] : List Value).toArray)
  have hK := hE.2.1
  have hbs := hE.2.2.1
  have hown : s.vm.findClass "RobotFaults" = some m.cls := hown
  have hl := lv_entry ([.ref (ad 0 0), .int x]) (n := 3) (Nat.le_of_ble_eq_true rfl)
  rw [lg_entry_eq]
  generalize (lg_sl ([.ref (ad 0 0), .int x]) ++ List.replicate (3 - (lg_sl ([.ref (ad 0 0), .int x])).length) Slot.unset).toArray = ls at hl ⊢
  have hl : lv_has ls 3 [(0, .ref (ad 0 0)), (1, .int x)] := hl
  refine lv_aload_n hx hb d_RF_robot_0 rfl (lv_at hl 0 rfl) ?_
  refine lv_iload_n hx hb d_RF_robot_1 rfl (lv_at hl 1 rfl) ?_
  refine os_call (c_RF_needPiece l hlt D cA bs σ ad x hA) hE hV k_240 k_1 (os_inV (C := "RobotFaults") (n := 1) (bytes := prog_1_method_23_code) (maxL := 2) (ret := none) hx hb hown (hts _ k_237) (hts _ k_239) (hts _ k_s4) (hts _ k_240) (by decide +kernel) rfl (os_recv hK hV rfl rfl (hA.n 0 (by decide))) rfl d_RF_robot_2) (hl.1.trans hml.symm) (Nat.le_of_ble_eq_true rfl) (Nat.le_of_ble_eq_true rfl) (Nat.le_of_ble_eq_true rfl) (Nat.le_of_ble_eq_true rfl) (Nat.le_of_ble_eq_true rfl) (fun v σ1 ad1 H locs hp hext hV => ?_) (fun E q ce σ1 ad1 H locs hp hext hV hce hcv hcl => ?_)
  · obtain ⟨rfl, rfl, ⟨g_1, hp⟩ | ⟨g_1, hp⟩⟩ := hp <;> cases hp
    refine W.eq (g2 := F0 m 5 ls []) rfl ?_
    refine lv_aload_n hx hb d_RF_robot_5 rfl (lv_at hl 0 rfl) ?_
    refine os_get (C := "RobotFaults") (T := F_RF) (N := 11) (ci := 0) (K := 0) (j := 6) (i := 0) (v := .int (os_g σ 0 6 0)) hx hb hts i_RF hown hK hV rfl rfl (by decide) (hA.n 0 (by decide)) (hts _ k_74) rfl d_RF_robot_6 ?_
    refine lv_aload_n hx hb d_RF_robot_9 rfl (lv_at hl 0 rfl) ?_
    refine os_get (C := "RobotFaults") (T := F_RF) (N := 11) (ci := 0) (K := 0) (j := 2) (i := 0) (v := .ref (ad 4 0)) hx hb hts i_RF hown hK hV rfl rfl (by decide) (hA.n 0 (by decide)) (hts _ k_70) (congrArg (fun z => va_rf (Option.map (ad 4) z)) (hA.r 2 (by decide))) d_RF_robot_10 ?_
    refine os_alen (K := 4) (i := 0) (t0 := 4) (v := 8) hx hb hK hV rfl rfl (hA.n 4 (by decide)) (congrArg Int32.ofNat hA.l4) d_RF_robot_13 ?_
    refine lv_icmp_lt (tgt := 27) hx hb d_RF_robot_14 (by decide) (fun c_2 => ?_) (fun c_2 => ?_)
    · skip
      refine os_new (C := "RobotFaults$Robot") (T := F_Robot) (N := 6) (ci := 3) (K := 9) hx hb hts i_Robot t_Robot t_Robot_ok hown (hts _ k_42) (hts _ k_289) (hts _ k_11) hK hbs hV rfl rfl (by decide) (Nat.le_of_ble_eq_true rfl) (Nat.le_of_ble_eq_true rfl) d_RF_robot_27 (fun ad_3 H hV hAd_4 => ?_)
      have hl : lv_has ls 3 [(0, .ref (ad_3 0 0)), (1, .int x)] := by rw [hAd_4 0 0 (hA.n 0 (by decide))]; exact hl
      refine W.eq (g2 := F0 m 30 ls [.ref (ad_3 9 (os_n σ 9))]) rfl ?_
      refine lv_dup hx hb d_RF_robot_30 rfl ?_
      refine lv_aload_n hx hb d_RF_robot_31 rfl (lv_at hl 0 rfl) ?_
      refine os_get (C := "RobotFaults") (T := F_RF) (N := 11) (ci := 0) (K := 0) (j := 6) (i := 0) (v := .int (os_g σ 0 6 0)) hx hb hts i_RF hown hK hV rfl rfl (by decide) (hA.n 0 (by decide)) (hts _ k_74) rfl d_RF_robot_32 ?_
      refine lv_iload_n hx hb d_RF_robot_35 rfl (lv_at hl 1 rfl) ?_
      refine os_call (c_Robot_init l hlt D cA bs (os_nw σ 9 0) ad_3 (os_n σ 9) (os_g σ 0 6 0) x (os_n_new (σ := σ) (K := 9) (L := 0))) hE hV k_292 k_11 (os_inI (n := 2) (bytes := prog_5_method_1_code) (maxL := 3) hx hb hown (hts _ k_290) rfl (hts _ k_291) (hts _ k_292) (by decide +kernel) rfl rfl d_RF_robot_36) (hl.1.trans hml.symm) (Nat.le_of_ble_eq_true rfl) (Nat.le_of_ble_eq_true rfl) (Nat.le_of_ble_eq_true rfl) (Nat.le_of_ble_eq_true rfl) (Nat.le_of_ble_eq_true rfl) (fun v σ1 ad1 H locs hp hext hV => ?_) (fun E q ce σ1 ad1 H locs hp hext hV hce hcv hcl => ?_)
      · obtain ⟨rfl, rfl, hp⟩ := hp
        cases hp
        refine W.eq (g2 := F0 m 39 ls [.ref (ad_3 9 (os_n σ 9))]) rfl ?_
        refine lv_astore_n (lv' := [(2, .ref (ad_3 9 (os_n σ 9))), (0, .ref (ad_3 0 0)), (1, .int x)]) hx hb d_RF_robot_39 rfl hl (by decide) rfl (fun ls hl => ?_)
        refine lv_aload_n hx hb d_RF_robot_40 rfl (lv_at hl 1 rfl) ?_
        refine os_get (C := "RobotFaults") (T := F_RF) (N := 11) (ci := 0) (K := 0) (j := 2) (i := 0) (v := .ref (ad_3 4 0)) hx hb hts i_RF hown hK hV rfl rfl (by decide) (hA.n 0 (by decide)) (hts _ k_70) (congrArg (fun z => va_rf (Option.map (ad_3 4) z)) (hA.r 2 (by decide))) d_RF_robot_41 ?_
        refine lv_aload_n hx hb d_RF_robot_44 rfl (lv_at hl 1 rfl) ?_
        refine os_get (C := "RobotFaults") (T := F_RF) (N := 11) (ci := 0) (K := 0) (j := 6) (i := 0) (v := .int (os_g σ 0 6 0)) hx hb hts i_RF hown hK hV rfl rfl (by decide) (hA.n 0 (by decide)) (hts _ k_74) rfl d_RF_robot_45 ?_
        refine lv_aload_n hx hb d_RF_robot_48 rfl (lv_at hl 0 rfl) ?_
        have hn9 : os_n σ 9 < 8 := by have h9 := c_2; rw [hR.2.1] at h9; exact (nI_ltI (b := 8) (by have := hR.1; omega) (by decide)).mp h9
        refine os_aastK (K := 4) (i := 0) (t0 := 4) (n := (os_n σ 9)) hx hb hK hV rfl rfl rfl rfl (hA.n 4 (by decide)) (os_n_new (σ := σ) (K := 9) (L := 0)) (show os_g σ 0 6 0 = nI (os_n σ 9) from hR.2.1) (by rw [show os_l (os_sg (os_sg (os_sg (os_sg (os_sg (os_sg (os_nw σ 9 0) 9 2 (os_n σ 9) 0) 9 3 (os_n σ 9) (-1)) 9 4 (os_n σ 9) 0) 9 5 (os_n σ 9) 0) 9 0 (os_n σ 9) (os_g σ 0 6 0)) 9 1 (os_n σ 9) x) 4 0 = 8 from hA.l4]; exact hn9) (by rw [show os_l (os_sg (os_sg (os_sg (os_sg (os_sg (os_sg (os_nw σ 9 0) 9 2 (os_n σ 9) 0) 9 3 (os_n σ 9) (-1)) 9 4 (os_n σ 9) 0) 9 5 (os_n σ 9) 0) 9 0 (os_n σ 9) (os_g σ 0 6 0)) 9 1 (os_n σ 9) x) 4 0 = 8 from hA.l4]; decide) d_RF_robot_49 (fun H locs hV => ?_)
        refine lv_aload_n hx hb d_RF_robot_50 rfl (lv_at hl 1 rfl) ?_
        refine lv_dup hx hb d_RF_robot_51 rfl ?_
        refine os_get (C := "RobotFaults") (T := F_RF) (N := 11) (ci := 0) (K := 0) (j := 6) (i := 0) (v := .int (os_g σ 0 6 0)) hx hb hts i_RF hown hK hV rfl rfl (by decide) (hA.n 0 (by decide)) (hts _ k_74) rfl d_RF_robot_52 ?_
        refine lv_iconst (v := 1) hx hb d_RF_robot_55 (by decide) ?_
        refine lv_iadd hx hb d_RF_robot_56 ?_
        refine os_putI (C := "RobotFaults") (T := F_RF) (N := 11) (ci := 0) (K := 0) (j := 6) (i := 0) (v := (os_g σ 0 6 0) + 1) (ty := .int) hx hb hts i_RF t_RF t_RF_ok n_RF hown hK hV rfl rfl (by decide) (hA.n 0 (by decide)) (hts _ k_74) rfl rfl rfl (by decide +kernel) rfl rfl d_RF_robot_57 (fun H locs hV => ?_)
        refine lv_aload_n hx hb d_RF_robot_60 rfl (lv_at hl 0 rfl) ?_
        refine os_getN (C := "RobotFaults$Robot") (T := F_Robot) (N := 6) (ci := 3) (K := 9) (j := 0) (i := (os_n σ 9)) (v := .int (os_g σ 0 6 0)) hx hb hts i_Robot hown hK hV rfl rfl (by decide) (os_n_new (σ := σ) (K := 9) (L := 0)) (hts _ k_295) (os_fv_sgs (σ := os_sg (os_sg (os_sg (os_sg (os_nw σ 9 0) 9 2 (os_n σ 9) 0) 9 3 (os_n σ 9) (-1)) 9 4 (os_n σ 9) 0) 9 5 (os_n σ 9) 0) (ad := ad_3) (K := 9) (j := 0) (i := os_n σ 9) (v := os_g σ 0 6 0) rfl rfl) d_RF_robot_61 ?_
        refine os_iret hx hb hr hlocks hV (Nat.le_of_ble_eq_true rfl) (Nat.le_of_ble_eq_true rfl) d_RF_robot_64 ?_
        exact Or.inr (Or.inr ⟨g_1, c_2, rfl, rfl⟩)
      · exact absurd hp.2.2 (fun h => by cases h)
    · skip
      refine os_throw (own := "RobotFaults") (cls := "java/lang/UnsupportedOperationException") (text := "no room for another robot") (names := ["java/lang/RuntimeException", "java/lang/Exception"]) hx hb hlt hown (by decide) (by decide) hE hV k_155 k_8 (by decide +kernel) th_UnsupportedOperationException (hl.1.trans hml.symm) d_RF_robot_17 d_RF_robot_20 d_RF_robot_21 d_RF_robot_23 d_RF_robot_26 hout hlocks (Nat.le_of_ble_eq_true rfl) (Nat.le_of_ble_eq_true rfl) (Nat.le_of_ble_eq_true rfl) (Nat.le_of_ble_eq_true rfl) (Nat.le_of_ble_eq_true rfl) (Nat.le_of_ble_eq_true rfl) ?_
      exact Or.inr (Or.inl ⟨g_1, c_2, rfl, rfl⟩)
  · obtain ⟨rfl, rfl, ⟨g_1, hp⟩ | ⟨g_1, hp⟩⟩ := hp <;> cases hp
    refine os_out hout hlocks hV hce hcv hcl (Nat.le_of_ble_eq_true rfl) (Nat.le_of_ble_eq_true rfl) ?_
    exact Or.inl ⟨g_1, rfl, rfl⟩
/-- a planted fault more -/
def plS (σ : os_S) (i nP : Nat) (y s9 : Int32) : os_S := os_sg (os_sr (os_sg (os_sg (os_sr (os_nw σ 12 0) 12 0 (os_n σ 12) (some i)) 12 1 (os_n σ 12) y) 12 2 (os_n σ 12) ((os_g σ 0 10 0) + s9)) 7 nP 0 (some (os_n σ 12))) 0 9 0 ((os_g σ 0 9 0) + 1)
def q_plant (σ : os_S) (nP : Nat) (x y s9 : Int32) : os_O → os_S → (Nat → Nat → Nat) → Prop := fun r σ' _ => (noR σ x ∧ σ = σ' ∧ r = .inr "java/util/NoSuchElementException") ∨ ∃ i, isR σ x i ∧ ((¬ ((¬ y < 0 ∧ y < 8) ∧ ¬ s9 < 1 ∧ s9 ≤ 1000) ∧ σ = σ' ∧ r = .inr "java/lang/IllegalArgumentException") ∨ ((¬ y < 0 ∧ y < 8) ∧ ¬ s9 < 1 ∧ s9 ≤ 1000 ∧ ¬ os_g σ 0 9 0 < 10 ∧ σ = σ' ∧ r = .inr "java/lang/UnsupportedOperationException") ∨ ((¬ y < 0 ∧ y < 8) ∧ ¬ s9 < 1 ∧ s9 ≤ 1000 ∧ os_g σ 0 9 0 < 10 ∧ plS σ i nP y s9 = σ' ∧ r = .inl none))
set_option maxHeartbeats 4000000 in
set_option maxRecDepth 100000 in
theorem c_RF_plant (l : Launch) (hlt : l.stackTraces = false) (D : va_G) (cA : Nat → ClassId) (bs : Nat) (σ : os_S) (ad : Nat → Nat → Nat) (x y s9 : Int32) (hA : rfA σ) (hR : rfS σ 4 9 8 6) (nP : Nat) (hNP : nP ≤ 10) (hPC : os_g σ 0 9 0 = nI nP) : os_Met l y_RF_plant prog_1_method_15_code 5 none { frames := 7, cells := 3, slots := 18, locals := 118 } D cA bs [.ref (ad 0 0), .int x, .int y, .int s9] σ ad (q_plant σ nP x y s9) := by
  refine os_ofW (by decide) ?_
  intro p e s m below meth c hx hb hr hml hown hlocks hmn hout hE hV
  have hts := hE.hts (args := ([.ref (ad 0 0), .int x, .int y, .int s9] : List Value).toArray)
  have hK := hE.2.1
  have hbs := hE.2.2.1
  have hown : s.vm.findClass "RobotFaults" = some m.cls := hown
  have hl := lv_entry ([.ref (ad 0 0), .int x, .int y, .int s9]) (n := 5) (Nat.le_of_ble_eq_true rfl)
  rw [lg_entry_eq]
  generalize (lg_sl ([.ref (ad 0 0), .int x, .int y, .int s9]) ++ List.replicate (5 - (lg_sl ([.ref (ad 0 0), .int x, .int y, .int s9])).length) Slot.unset).toArray = ls at hl ⊢
  have hl : lv_has ls 5 [(0, .ref (ad 0 0)), (1, .int x), (2, .int y), (3, .int s9)] := hl
  refine lv_aload_n hx hb d_RF_plant_0 rfl (lv_at hl 0 rfl) ?_
  refine lv_iload_n hx hb d_RF_plant_1 rfl (lv_at hl 1 rfl) ?_
  refine os_call (c_RF_robotAt l hlt D cA bs σ ad x hA hR) hE hV k_349 k_1 (os_inV (C := "RobotFaults") (n := 1) (bytes := prog_1_method_24_code) (maxL := 3) (ret := (some (.object "RobotFaults$Robot"))) hx hb hown (hts _ k_346) (hts _ k_348) (hts _ k_s5) (hts _ k_349) (by decide +kernel) rfl (os_recv hK hV rfl rfl (hA.n 0 (by decide))) rfl d_RF_plant_2) (hl.1.trans hml.symm) (Nat.le_of_ble_eq_true rfl) (Nat.le_of_ble_eq_true rfl) (Nat.le_of_ble_eq_true rfl) (Nat.le_of_ble_eq_true rfl) (Nat.le_of_ble_eq_true rfl) (fun v σ1 ad1 H locs hp hext hV => ?_) (fun E q ce σ1 ad1 H locs hp hext hV hce hcv hcl => ?_)
  · obtain ⟨rfl, rfl, ⟨i_1, hi_2, hx_3, hp⟩ | ⟨hx_3, hp⟩⟩ := hp <;> cases hp
    refine W.eq (g2 := F0 m 5 ls [.ref (ad 9 i_1)]) rfl ?_
    refine lv_astore (lv' := [(4, .ref (ad 9 i_1)), (0, .ref (ad 0 0)), (1, .int x), (2, .int y), (3, .int s9)]) hx hb d_RF_plant_5 hl (by decide) rfl (fun ls hl => ?_)
    refine lv_iload_n hx hb d_RF_plant_7 rfl (lv_at hl 3 rfl) ?_
    refine os_call (c_RF_needKind l hlt D cA bs σ ad y) hE hV k_330 k_1 (os_inS (n := 1) (bytes := prog_1_method_27_code) (maxL := 1) (ret := none) hx hb hown (hts _ k_328) (hts _ k_329) (hts _ k_1) (hts _ k_330) (by decide +kernel) rfl rfl d_RF_plant_8) (hl.1.trans hml.symm) (Nat.le_of_ble_eq_true rfl) (Nat.le_of_ble_eq_true rfl) (Nat.le_of_ble_eq_true rfl) (Nat.le_of_ble_eq_true rfl) (Nat.le_of_ble_eq_true rfl) (fun v σ1 ad1 H locs hp hext hV => ?_) (fun E q ce σ1 ad1 H locs hp hext hV hce hcv hcl => ?_)
    · obtain ⟨rfl, rfl, ⟨g_4, hp⟩ | ⟨g_4, hp⟩⟩ := hp <;> cases hp
      refine W.eq (g2 := F0 m 11 ls []) rfl ?_
      refine lv_iload_n hx hb d_RF_plant_11 rfl (lv_at hl 4 rfl) ?_
      refine lv_iconst (v := 1) hx hb d_RF_plant_12 (by decide) ?_
      refine lv_icmp_lt (tgt := 23) hx hb d_RF_plant_13 (by decide) (fun c_5 => ?_) (fun c_5 => ?_)
      · skip
        refine os_throw (own := "RobotFaults") (cls := "java/lang/IllegalArgumentException") (text := "a fault is planted 1 to 1000 seconds ahead") (names := ["java/lang/RuntimeException", "java/lang/Exception"]) hx hb hlt hown (by decide) (by decide) hE hV k_261 k_10 (by decide +kernel) th_IllegalArgumentException (hl.1.trans hml.symm) d_RF_plant_23 d_RF_plant_26 d_RF_plant_27 d_RF_plant_29 d_RF_plant_32 hout hlocks (Nat.le_of_ble_eq_true rfl) (Nat.le_of_ble_eq_true rfl) (Nat.le_of_ble_eq_true rfl) (Nat.le_of_ble_eq_true rfl) (Nat.le_of_ble_eq_true rfl) (Nat.le_of_ble_eq_true rfl) ?_
        exact Or.inr ⟨i_1, ⟨hi_2, hx_3⟩, Or.inl ⟨fun h => h.2.1 c_5, rfl, rfl⟩⟩
      · skip
        refine lv_iload_n hx hb d_RF_plant_16 rfl (lv_at hl 4 rfl) ?_
        refine lv_sipush (v := 1000) hx hb d_RF_plant_17 (by decide) ?_
        refine lv_icmp_le (tgt := 33) hx hb d_RF_plant_20 (by decide) (fun c_6 => ?_) (fun c_6 => ?_)
        · skip
          refine lv_aload_n hx hb d_RF_plant_33 rfl (lv_at hl 1 rfl) ?_
          refine os_get (C := "RobotFaults") (T := F_RF) (N := 11) (ci := 0) (K := 0) (j := 9) (i := 0) (v := .int (os_g σ 0 9 0)) hx hb hts i_RF hown hK hV rfl rfl (by decide) (hA.n 0 (by decide)) (hts _ k_77) rfl d_RF_plant_34 ?_
          refine lv_aload_n hx hb d_RF_plant_37 rfl (lv_at hl 1 rfl) ?_
          refine os_get (C := "RobotFaults") (T := F_RF) (N := 11) (ci := 0) (K := 0) (j := 5) (i := 0) (v := .ref (ad 7 0)) hx hb hts i_RF hown hK hV rfl rfl (by decide) (hA.n 0 (by decide)) (hts _ k_73) (congrArg (fun z => va_rf (Option.map (ad 7) z)) (hA.r 5 (by decide))) d_RF_plant_38 ?_
          refine os_alen (K := 7) (i := 0) (t0 := 7) (v := 10) hx hb hK hV rfl rfl (hA.n 7 (by decide)) (congrArg Int32.ofNat hA.l7) d_RF_plant_41 ?_
          refine lv_icmp_lt (tgt := 55) hx hb d_RF_plant_42 (by decide) (fun c_7 => ?_) (fun c_7 => ?_)
          · skip
            refine lv_aload_n hx hb d_RF_plant_55 rfl (lv_at hl 1 rfl) ?_
            refine os_get (C := "RobotFaults") (T := F_RF) (N := 11) (ci := 0) (K := 0) (j := 5) (i := 0) (v := .ref (ad 7 0)) hx hb hts i_RF hown hK hV rfl rfl (by decide) (hA.n 0 (by decide)) (hts _ k_73) (congrArg (fun z => va_rf (Option.map (ad 7) z)) (hA.r 5 (by decide))) d_RF_plant_56 ?_
            refine lv_aload_n hx hb d_RF_plant_59 rfl (lv_at hl 1 rfl) ?_
            refine os_get (C := "RobotFaults") (T := F_RF) (N := 11) (ci := 0) (K := 0) (j := 9) (i := 0) (v := .int (os_g σ 0 9 0)) hx hb hts i_RF hown hK hV rfl rfl (by decide) (hA.n 0 (by decide)) (hts _ k_77) rfl d_RF_plant_60 ?_
            refine os_new (C := "RobotFaults$Planted") (T := F_Planted) (N := 3) (ci := 6) (K := 12) hx hb hts i_Planted t_Planted t_Planted_ok hown (hts _ k_48) (hts _ k_621) (hts _ k_16) hK hbs hV rfl rfl (by decide) (Nat.le_of_ble_eq_true rfl) (Nat.le_of_ble_eq_true rfl) d_RF_plant_63 (fun ad_8 H hV hAd_9 => ?_)
            have hl : lv_has ls 5 [(4, .ref (ad_8 9 i_1)), (0, .ref (ad_8 0 0)), (1, .int x), (2, .int y), (3, .int s9)] := by rw [hAd_9 9 i_1 hi_2, hAd_9 0 0 (hA.n 0 (by decide))]; exact hl
            refine W.eq (g2 := F0 m 66 ls [.ref (ad_8 12 (os_n σ 12)), .int (os_g σ 0 9 0), .ref (ad_8 7 0)]) (by rw [hAd_9 7 0 (hA.n 7 (by decide))]) ?_
            refine lv_dup hx hb d_RF_plant_66 rfl ?_
            refine lv_aload hx hb d_RF_plant_67 (lv_at hl 0 rfl) ?_
            refine lv_iload_n hx hb d_RF_plant_69 rfl (lv_at hl 3 rfl) ?_
            refine lv_aload_n hx hb d_RF_plant_70 rfl (lv_at hl 1 rfl) ?_
            refine os_get (C := "RobotFaults") (T := F_RF) (N := 11) (ci := 0) (K := 0) (j := 10) (i := 0) (v := .int (os_g σ 0 10 0)) hx hb hts i_RF hown hK hV rfl rfl (by decide) (hA.n 0 (by decide)) (hts _ k_78) rfl d_RF_plant_71 ?_
            refine lv_iload_n hx hb d_RF_plant_74 rfl (lv_at hl 4 rfl) ?_
            refine lv_iadd hx hb d_RF_plant_75 ?_
            refine os_call (c_Planted_init l hlt D cA bs (os_nw σ 12 0) ad_8 (os_n σ 12) i_1 y ((os_g σ 0 10 0) + s9) (os_n_new (σ := σ) (K := 12) (L := 0)) hi_2) hE hV k_624 k_16 (os_inI (n := 3) (bytes := prog_4_method_1_code) (maxL := 4) hx hb hown (hts _ k_622) rfl (hts _ k_623) (hts _ k_624) (by decide +kernel) rfl rfl d_RF_plant_76) (hl.1.trans hml.symm) (Nat.le_of_ble_eq_true rfl) (Nat.le_of_ble_eq_true rfl) (Nat.le_of_ble_eq_true rfl) (Nat.le_of_ble_eq_true rfl) (Nat.le_of_ble_eq_true rfl) (fun v σ1 ad1 H locs hp hext hV => ?_) (fun E q ce σ1 ad1 H locs hp hext hV hce hcv hcl => ?_)
            · obtain ⟨rfl, rfl, hp⟩ := hp
              cases hp
              refine W.eq (g2 := F0 m 79 ls [.ref (ad_8 12 (os_n σ 12)), .int (os_g σ 0 9 0), .ref (ad_8 7 0)]) rfl ?_
              have hn9 : nP < 10 := by have h9 := c_7; rw [hPC] at h9; exact (nI_ltI (b := 10) (by omega) (by decide)).mp h9
              refine os_aastK (K := 7) (i := 0) (t0 := 7) (n := nP) hx hb hK hV rfl rfl rfl rfl (hA.n 7 (by decide)) (os_n_new (σ := σ) (K := 12) (L := 0)) (show os_g σ 0 9 0 = nI nP from hPC) (by rw [show os_l (os_sg (os_sg (os_sr (os_nw σ 12 0) 12 0 (os_n σ 12) (some i_1)) 12 1 (os_n σ 12) y) 12 2 (os_n σ 12) ((os_g σ 0 10 0) + s9)) 7 0 = 10 from hA.l7]; exact hn9) (by rw [show os_l (os_sg (os_sg (os_sr (os_nw σ 12 0) 12 0 (os_n σ 12) (some i_1)) 12 1 (os_n σ 12) y) 12 2 (os_n σ 12) ((os_g σ 0 10 0) + s9)) 7 0 = 10 from hA.l7]; decide) d_RF_plant_79 (fun H locs hV => ?_)
              refine lv_aload_n hx hb d_RF_plant_80 rfl (lv_at hl 1 rfl) ?_
              refine lv_dup hx hb d_RF_plant_81 rfl ?_
              refine os_get (C := "RobotFaults") (T := F_RF) (N := 11) (ci := 0) (K := 0) (j := 9) (i := 0) (v := .int (os_g σ 0 9 0)) hx hb hts i_RF hown hK hV rfl rfl (by decide) (hA.n 0 (by decide)) (hts _ k_77) rfl d_RF_plant_82 ?_
              refine lv_iconst (v := 1) hx hb d_RF_plant_85 (by decide) ?_
              refine lv_iadd hx hb d_RF_plant_86 ?_
              refine os_putI (C := "RobotFaults") (T := F_RF) (N := 11) (ci := 0) (K := 0) (j := 9) (i := 0) (v := (os_g σ 0 9 0) + 1) (ty := .int) hx hb hts i_RF t_RF t_RF_ok n_RF hown hK hV rfl rfl (by decide) (hA.n 0 (by decide)) (hts _ k_77) rfl rfl rfl (by decide +kernel) rfl rfl d_RF_plant_87 (fun H locs hV => ?_)
              refine os_vret hx hb hr hlocks hV (Nat.le_of_ble_eq_true rfl) (Nat.le_of_ble_eq_true rfl) d_RF_plant_90 ?_
              exact Or.inr ⟨i_1, ⟨hi_2, hx_3⟩, Or.inr (Or.inr ⟨g_4, c_5, c_6, c_7, rfl, rfl⟩)⟩
            · exact absurd hp.2.2 (fun h => by cases h)
          · skip
            refine os_throw (own := "RobotFaults") (cls := "java/lang/UnsupportedOperationException") (text := "no room for another planted fault") (names := ["java/lang/RuntimeException", "java/lang/Exception"]) hx hb hlt hown (by decide) (by decide) hE hV k_155 k_8 (by decide +kernel) th_UnsupportedOperationException (hl.1.trans hml.symm) d_RF_plant_45 d_RF_plant_48 d_RF_plant_49 d_RF_plant_51 d_RF_plant_54 hout hlocks (Nat.le_of_ble_eq_true rfl) (Nat.le_of_ble_eq_true rfl) (Nat.le_of_ble_eq_true rfl) (Nat.le_of_ble_eq_true rfl) (Nat.le_of_ble_eq_true rfl) (Nat.le_of_ble_eq_true rfl) ?_
            exact Or.inr ⟨i_1, ⟨hi_2, hx_3⟩, Or.inr (Or.inl ⟨g_4, c_5, c_6, c_7, rfl, rfl⟩)⟩
        · skip
          refine os_throw (own := "RobotFaults") (cls := "java/lang/IllegalArgumentException") (text := "a fault is planted 1 to 1000 seconds ahead") (names := ["java/lang/RuntimeException", "java/lang/Exception"]) hx hb hlt hown (by decide) (by decide) hE hV k_261 k_10 (by decide +kernel) th_IllegalArgumentException (hl.1.trans hml.symm) d_RF_plant_23 d_RF_plant_26 d_RF_plant_27 d_RF_plant_29 d_RF_plant_32 hout hlocks (Nat.le_of_ble_eq_true rfl) (Nat.le_of_ble_eq_true rfl) (Nat.le_of_ble_eq_true rfl) (Nat.le_of_ble_eq_true rfl) (Nat.le_of_ble_eq_true rfl) (Nat.le_of_ble_eq_true rfl) ?_
          exact Or.inr ⟨i_1, ⟨hi_2, hx_3⟩, Or.inl ⟨fun h => h.2.2 |> c_6, rfl, rfl⟩⟩
    · obtain ⟨rfl, rfl, ⟨g_4, hp⟩ | ⟨g_4, hp⟩⟩ := hp <;> cases hp
      refine os_out hout hlocks hV hce hcv hcl (Nat.le_of_ble_eq_true rfl) (Nat.le_of_ble_eq_true rfl) ?_
      exact Or.inr ⟨i_1, ⟨hi_2, hx_3⟩, Or.inl ⟨fun h => g_4 h.1, rfl, rfl⟩⟩
  · obtain ⟨rfl, rfl, ⟨i_1, hi_2, hx_3, hp⟩ | ⟨hx_3, hp⟩⟩ := hp <;> cases hp
    refine os_out hout hlocks hV hce hcv hcl (Nat.le_of_ble_eq_true rfl) (Nat.le_of_ble_eq_true rfl) ?_
    exact Or.inl ⟨hx_3, rfl, rfl⟩
