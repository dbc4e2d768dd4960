/-! PUBLIC METHODS, more of them -/
theorem tsOut {x : Int32} {n : Nat} (h : ∀ k, k < n → ¬ x = nI k) (hn : n < 2 ^ 30 := by decide) : x.toInt < 0 ∨ (n : Int) - 1 < x.toInt := by
  by_cases h0 : x < 0
  · exact Or.inl (by have := Int32.lt_iff_toInt_lt.mp h0; simpa using this)
  · obtain ⟨j, hj, rfl⟩ := nI_of h0
    refine Or.inr ?_
    rw [nI_toInt hj]
    have : ¬ j < n := fun q => h j q rfl
    omega
theorem os_n_new {σ : os_S} {K L : Nat} : os_n σ K < os_n (os_nw σ K L) K := by rw [os_n_nw, if_pos rfl]; omega
theorem os_n_old {σ : os_S} {K K' L i : Nat} (h : i < os_n σ K') : i < os_n (os_nw σ K L) K' := by
  rw [os_n_nw]
  split
  · rename_i e; subst e; omega
  · exact h
def isR (σ : os_S) (x : Int32) (i : Nat) : Prop := i < os_n σ 9 ∧ x = nI (i + 0)
def noR (σ : os_S) (x : Int32) : Prop := ∀ i, i < os_n σ 9 → ¬ x = nI (i + 0)
def okRule (k n q : Int32) : Prop := (¬ k < 0 ∧ k < 8) ∧ ¬ n < 1 ∧ n ≤ 2 ∧ ¬ q < 1 ∧ q ≤ 5
def q_rule (σ : os_S) (ad : Nat → Nat → Nat) (k n q : Int32) (b : Bool) : os_O → os_S → (Nat → Nat → Nat) → Prop := fun r σ' ad' => ad = ad' ∧ ((¬ okRule k n q ∧ σ = σ' ∧ r = .inr "java/lang/IllegalArgumentException") ∨ (okRule k n q ∧ r = .inl none ∧ ∃ a, a < 8 ∧ k = nI a ∧ os_sg (os_sg (os_sg σ 8 0 a n) 8 1 a (bz b)) 8 2 a q = σ'))
set_option maxHeartbeats 4000000 in
set_option maxRecDepth 100000 in
theorem c_RF_rule (l : Launch) (hlt : l.stackTraces = false) (D : va_G) (cA : Nat → ClassId) (bs : Nat) (σ : os_S) (ad : Nat → Nat → Nat) (k n q : Int32) (b : Bool) (hA : rfA σ) : os_Met l y_RF_rule prog_1_method_5_code 5 none { frames := 7, cells := 2, slots := 12, locals := 116 } D cA bs [.ref (ad 0 0), .int k, .int n, .int (bz b), .int q] σ ad (q_rule σ ad k n q b) := by
  refine os_ofW (by decide) ?_
  intro p e s m below meth c hx hb hr hml hown hlocks hmn hout hE hV
  have hts := hE.hts (args := ([.ref (ad 0 0), .int k, .int n, .int (bz b), .int q] : List Value).toArray)
  have hK := hE.2.1
  have hbs := hE.2.2.1
  have hown : s.vm.findClass "RobotFaults" = some m.cls := hown
  have hl := lv_entry ([.ref (ad 0 0), .int k, .int n, .int (bz b), .int q]) (n := 5) (Nat.le_of_ble_eq_true rfl)
  rw [lg_entry_eq]
  generalize (lg_sl ([.ref (ad 0 0), .int k, .int n, .int (bz b), .int q]) ++ List.replicate (5 - (lg_sl ([.ref (ad 0 0), .int k, .int n, .int (bz b), .int q])).length) Slot.unset).toArray = ls at hl ⊢
  have hl : lv_has ls 5 [(0, .ref (ad 0 0)), (1, .int k), (2, .int n), (3, .int (bz b)), (4, .int q)] := hl
  refine lv_iload_n hx hb d_RF_rule_0 rfl (lv_at hl 1 rfl) ?_
  refine os_call (c_RF_needKind l hlt D cA bs σ ad k) hE hV k_330 k_1 (os_inS (n := 1) (bytes := prog_1_method_27_code) (maxL := 1) (ret := none) hx hb hown (hts _ k_328) (hts _ k_329) (hts _ k_1) (hts _ k_330) (by decide +kernel) rfl rfl d_RF_rule_1) (hl.1.trans hml.symm) (Nat.le_of_ble_eq_true rfl) (Nat.le_of_ble_eq_true rfl) (Nat.le_of_ble_eq_true rfl) (Nat.le_of_ble_eq_true rfl) (Nat.le_of_ble_eq_true rfl) (fun v σ1 ad1 H locs hp hext hV => ?_) (fun E q ce σ1 ad1 H locs hp hext hV hce hcv hcl => ?_)
  · obtain ⟨rfl, rfl, ⟨g_1, hp⟩ | ⟨g_1, hp⟩⟩ := hp <;> cases hp
    refine W.eq (g2 := F0 m 4 ls []) rfl ?_
    refine lv_iload_n hx hb d_RF_rule_4 rfl (lv_at hl 2 rfl) ?_
    refine lv_iconst (v := 1) hx hb d_RF_rule_5 (by decide) ?_
    refine lv_icmp_lt (tgt := 14) hx hb d_RF_rule_6 (by decide) (fun c_2 => ?_) (fun c_2 => ?_)
    · skip
      refine os_throw (own := "RobotFaults") (cls := "java/lang/IllegalArgumentException") (text := "one person resets, or two do") (names := ["java/lang/RuntimeException", "java/lang/Exception"]) hx hb hlt hown (by decide) (by decide) hE hV k_261 k_10 (by decide +kernel) th_IllegalArgumentException (hl.1.trans hml.symm) d_RF_rule_14 d_RF_rule_17 d_RF_rule_18 d_RF_rule_20 d_RF_rule_23 hout hlocks (Nat.le_of_ble_eq_true rfl) (Nat.le_of_ble_eq_true rfl) (Nat.le_of_ble_eq_true rfl) (Nat.le_of_ble_eq_true rfl) (Nat.le_of_ble_eq_true rfl) (Nat.le_of_ble_eq_true rfl) ?_
      exact ⟨rfl, Or.inl ⟨fun h => h.2.1 c_2, rfl, rfl⟩⟩
    · skip
      refine lv_iload_n hx hb d_RF_rule_9 rfl (lv_at hl 2 rfl) ?_
      refine lv_iconst (v := 2) hx hb d_RF_rule_10 (by decide) ?_
      refine lv_icmp_le (tgt := 24) hx hb d_RF_rule_11 (by decide) (fun c_3 => ?_) (fun c_3 => ?_)
      · skip
        refine lv_iload hx hb d_RF_rule_24 (lv_at hl 4 rfl) ?_
        refine lv_iconst (v := 1) hx hb d_RF_rule_26 (by decide) ?_
        refine lv_icmp_lt (tgt := 36) hx hb d_RF_rule_27 (by decide) (fun c_4 => ?_) (fun c_4 => ?_)
        · skip
          refine os_throw (own := "RobotFaults") (cls := "java/lang/IllegalArgumentException") (text := "a rank is 1 to 5") (names := ["java/lang/RuntimeException", "java/lang/Exception"]) hx hb hlt hown (by decide) (by decide) hE hV k_261 k_10 (by decide +kernel) th_IllegalArgumentException (hl.1.trans hml.symm) d_RF_rule_36 d_RF_rule_39 d_RF_rule_40 d_RF_rule_42 d_RF_rule_45 hout hlocks (Nat.le_of_ble_eq_true rfl) (Nat.le_of_ble_eq_true rfl) (Nat.le_of_ble_eq_true rfl) (Nat.le_of_ble_eq_true rfl) (Nat.le_of_ble_eq_true rfl) (Nat.le_of_ble_eq_true rfl) ?_
          exact ⟨rfl, Or.inl ⟨fun h => h.2.2.2.1 c_4, rfl, rfl⟩⟩
        · skip
          refine lv_iload hx hb d_RF_rule_30 (lv_at hl 4 rfl) ?_
          refine lv_iconst (v := 5) hx hb d_RF_rule_32 (by decide) ?_
          refine lv_icmp_le (tgt := 46) hx hb d_RF_rule_33 (by decide) (fun c_5 => ?_) (fun c_5 => ?_)
          · skip
            refine lv_aload_n hx hb d_RF_rule_46 rfl (lv_at hl 0 rfl) ?_
            refine os_get (C := "RobotFaults") (T := F_RF) (N := 11) (ci := 0) (K := 0) (j := 1) (i := 0) (v := .ref (ad 3 0)) hx hb hts i_RF hown hK hV rfl rfl (by decide) (hA.n 0 (by decide)) (hts _ k_69) (congrArg (fun z => va_rf (Option.map (ad 3) z)) (hA.r 1 (by decide))) d_RF_rule_47 ?_
            refine lv_iload_n hx hb d_RF_rule_50 rfl (lv_at hl 1 rfl) ?_
            obtain ⟨na, ha, hxn⟩ := rng (N := 8) rfl (by decide) g_1.1 (Int32.not_le.mpr g_1.2)
            refine os_aaldN (K := 3) (i := 0) (t0 := 3) (n := na) hx hb hK hV rfl rfl (hA.n 3 (by decide)) hxn (by rw [show os_l σ 3 0 = 8 from hA.l3]; exact ha) (by rw [show os_l σ 3 0 = 8 from hA.l3]; decide) d_RF_rule_51 ?_
            refine W.eq (g2 := F0 m 52 ls [.ref (ad 8 na)]) (by rw [hA.ru na ha]; rfl) ?_
            refine lv_iload_n hx hb d_RF_rule_52 rfl (lv_at hl 2 rfl) ?_
            refine lv_iload_n hx hb d_RF_rule_53 rfl (lv_at hl 3 rfl) ?_
            refine lv_iload hx hb d_RF_rule_54 (lv_at hl 4 rfl) ?_
            refine os_call (c_Rule_set l hlt D cA bs σ ad na n q b (show na < os_n σ 8 by rw [hA.2.1]; exact ha)) hE hV k_337 k_3 (os_inV (C := "RobotFaults$Rule") (n := 3) (bytes := prog_6_method_2_code) (maxL := 4) (ret := none) hx hb hown (hts _ k_334) (hts _ k_335) (hts _ k_336) (hts _ k_337) (by decide +kernel) rfl (os_recv hK hV rfl rfl (show na < os_n σ 8 by rw [hA.2.1]; exact ha)) rfl d_RF_rule_56) (hl.1.trans hml.symm) (Nat.le_of_ble_eq_true rfl) (Nat.le_of_ble_eq_true rfl) (Nat.le_of_ble_eq_true rfl) (Nat.le_of_ble_eq_true rfl) (Nat.le_of_ble_eq_true rfl) (fun v σ1 ad1 H locs hp hext hV => ?_) (fun E q ce σ1 ad1 H locs hp hext hV hce hcv hcl => ?_)
            · obtain ⟨rfl, rfl, hp⟩ := hp
              cases hp
              refine W.eq (g2 := F0 m 59 ls []) rfl ?_
              refine os_vret hx hb hr hlocks hV (Nat.le_of_ble_eq_true rfl) (Nat.le_of_ble_eq_true rfl) d_RF_rule_59 ?_
              exact ⟨rfl, Or.inr ⟨⟨g_1, c_2, c_3, c_4, c_5⟩, rfl, na, ha, hxn, rfl⟩⟩
            · exact absurd hp.2.2 (fun h => by cases h)
          · skip
            refine os_throw (own := "RobotFaults") (cls := "java/lang/IllegalArgumentException") (text := "a rank is 1 to 5") (names := ["java/lang/RuntimeException", "java/lang/Exception"]) hx hb hlt hown (by decide) (by decide) hE hV k_261 k_10 (by decide +kernel) th_IllegalArgumentException (hl.1.trans hml.symm) d_RF_rule_36 d_RF_rule_39 d_RF_rule_40 d_RF_rule_42 d_RF_rule_45 hout hlocks (Nat.le_of_ble_eq_true rfl) (Nat.le_of_ble_eq_true rfl) (Nat.le_of_ble_eq_true rfl) (Nat.le_of_ble_eq_true rfl) (Nat.le_of_ble_eq_true rfl) (Nat.le_of_ble_eq_true rfl) ?_
            exact ⟨rfl, Or.inl ⟨fun h => c_5 h.2.2.2.2, rfl, rfl⟩⟩
      · skip
        refine os_throw (own := "RobotFaults") (cls := "java/lang/IllegalArgumentException") (text := "one person resets, or two do") (names := ["java/lang/RuntimeException", "java/lang/Exception"]) hx hb hlt hown (by decide) (by decide) hE hV k_261 k_10 (by decide +kernel) th_IllegalArgumentException (hl.1.trans hml.symm) d_RF_rule_14 d_RF_rule_17 d_RF_rule_18 d_RF_rule_20 d_RF_rule_23 hout hlocks (Nat.le_of_ble_eq_true rfl) (Nat.le_of_ble_eq_true rfl) (Nat.le_of_ble_eq_true rfl) (Nat.le_of_ble_eq_true rfl) (Nat.le_of_ble_eq_true rfl) (Nat.le_of_ble_eq_true rfl) ?_
        exact ⟨rfl, Or.inl ⟨fun h => c_3 h.2.2.1, rfl, rfl⟩⟩
  · obtain ⟨rfl, rfl, ⟨g_1, hp⟩ | ⟨g_1, hp⟩⟩ := hp <;> cases hp
    refine os_out hout hlocks hV hce hcv hcl (Nat.le_of_ble_eq_true rfl) (Nat.le_of_ble_eq_true rfl) ?_
    exact ⟨rfl, Or.inl ⟨fun h => g_1 h.1, rfl, rfl⟩⟩
def q_move (σ : os_S) (ad : Nat → Nat → Nat) (x y : Int32) : os_O → os_S → (Nat → Nat → Nat) → Prop := fun r σ' ad' => ad = ad' ∧ (((noR σ x ∨ ¬ isP σ y) ∧ σ = σ' ∧ r = .inr "java/util/NoSuchElementException") ∨
  (∃ i z, isR σ x i ∧ isP σ y ∧ z < 20 ∧ os_g σ 9 1 i = nI z ∧ ((¬ (os_g σ 9 2 i = 0 ∧ rf_holds (os_g σ 2 z 0) y = true) ∧ σ = σ' ∧ r = .inr "java/lang/IllegalStateException") ∨ ((os_g σ 9 2 i = 0 ∧ rf_holds (os_g σ 2 z 0) y = true) ∧ os_sg σ 9 1 i y = σ' ∧ r = .inl none))))
set_option maxHeartbeats 4000000 in
set_option maxRecDepth 100000 in
theorem c_RF_move (l : Launch) (hlt : l.stackTraces = false) (D : va_G) (cA : Nat → ClassId) (bs : Nat) (σ : os_S) (ad : Nat → Nat → Nat) (x y : Int32) (hA : rfA σ) (hR : rfS σ 4 9 8 6) (hQ : ∀ i, i < os_n σ 9 → ∃ z, z < 20 ∧ os_g σ 9 1 i = nI z) : os_Met l y_RF_move prog_1_method_6_code 4 none { frames := 7, cells := 3, slots := 18, locals := 118 } D cA bs [.ref (ad 0 0), .int x, .int y] σ ad (q_move σ ad x y) := by
  refine os_ofW (by decide) ?_
  intro p e s m below meth c hx hb hr hml hown hlocks hmn hout hE hV
  have hts := hE.hts (args := ([.ref (ad 0 0), .int x, .int y] : List Value).toArray)
  have hK := hE.2.1
  have hbs := hE.2.2.1
  have hown : s.vm.findClass "RobotFaults" = some m.cls := hown
  have hl := lv_entry ([.ref (ad 0 0), .int x, .int y]) (n := 4) (Nat.le_of_ble_eq_true rfl)
  rw [lg_entry_eq]
  generalize (lg_sl ([.ref (ad 0 0), .int x, .int y]) ++ List.replicate (4 - (lg_sl ([.ref (ad 0 0), .int x, .int y])).length) Slot.unset).toArray = ls at hl ⊢
  have hl : lv_has ls 4 [(0, .ref (ad 0 0)), (1, .int x), (2, .int y)] := hl
  refine lv_aload_n hx hb d_RF_move_0 rfl (lv_at hl 0 rfl) ?_
  refine lv_iload_n hx hb d_RF_move_1 rfl (lv_at hl 1 rfl) ?_
  refine os_call (c_RF_robotAt l hlt D cA bs σ ad x hA hR) hE hV k_349 k_1 (os_inV (C := "RobotFaults") (n := 1) (bytes := prog_1_method_24_code) (maxL := 3) (ret := (some (.object "RobotFaults$Robot"))) hx hb hown (hts _ k_346) (hts _ k_348) (hts _ k_s5) (hts _ k_349) (by decide +kernel) rfl (os_recv hK hV rfl rfl (hA.n 0 (by decide))) rfl d_RF_move_2) (hl.1.trans hml.symm) (Nat.le_of_ble_eq_true rfl) (Nat.le_of_ble_eq_true rfl) (Nat.le_of_ble_eq_true rfl) (Nat.le_of_ble_eq_true rfl) (Nat.le_of_ble_eq_true rfl) (fun v σ1 ad1 H locs hp hext hV => ?_) (fun E q ce σ1 ad1 H locs hp hext hV hce hcv hcl => ?_)
  · obtain ⟨rfl, rfl, ⟨i_1, hi_2, hx_3, hp⟩ | ⟨hx_3, hp⟩⟩ := hp <;> cases hp
    refine W.eq (g2 := F0 m 5 ls [.ref (ad 9 i_1)]) rfl ?_
    refine lv_astore_n (lv' := [(3, .ref (ad 9 i_1)), (0, .ref (ad 0 0)), (1, .int x), (2, .int y)]) hx hb d_RF_move_5 rfl hl (by decide) rfl (fun ls hl => ?_)
    refine lv_aload_n hx hb d_RF_move_6 rfl (lv_at hl 1 rfl) ?_
    refine lv_iload_n hx hb d_RF_move_7 rfl (lv_at hl 3 rfl) ?_
    refine os_call (c_RF_needPiece l hlt D cA bs σ ad y hA) hE hV k_240 k_1 (os_inV (C := "RobotFaults") (n := 1) (bytes := prog_1_method_23_code) (maxL := 2) (ret := none) hx hb hown (hts _ k_237) (hts _ k_239) (hts _ k_s4) (hts _ k_240) (by decide +kernel) rfl (os_recv hK hV rfl rfl (hA.n 0 (by decide))) rfl d_RF_move_8) (hl.1.trans hml.symm) (Nat.le_of_ble_eq_true rfl) (Nat.le_of_ble_eq_true rfl) (Nat.le_of_ble_eq_true rfl) (Nat.le_of_ble_eq_true rfl) (Nat.le_of_ble_eq_true rfl) (fun v σ1 ad1 H locs hp hext hV => ?_) (fun E q ce σ1 ad1 H locs hp hext hV hce hcv hcl => ?_)
    · obtain ⟨rfl, rfl, ⟨g_4, hp⟩ | ⟨g_4, hp⟩⟩ := hp <;> cases hp
      refine W.eq (g2 := F0 m 11 ls []) rfl ?_
      refine lv_aload_n hx hb d_RF_move_11 rfl (lv_at hl 0 rfl) ?_
      refine os_getN (C := "RobotFaults$Robot") (T := F_Robot) (N := 6) (ci := 3) (K := 9) (j := 2) (i := i_1) (v := .int (os_g σ 9 2 i_1)) hx hb hts i_Robot hown hK hV rfl rfl (by decide) hi_2 (hts _ k_300) rfl d_RF_move_12 ?_
      refine lv_if_eq (tgt := 28) hx hb d_RF_move_15 (by decide) (fun c_5 => ?_) (fun c_5 => ?_)
      · skip
        refine lv_aload_n hx hb d_RF_move_28 rfl (lv_at hl 1 rfl) ?_
        refine os_get (C := "RobotFaults") (T := F_RF) (N := 11) (ci := 0) (K := 0) (j := 0) (i := 0) (v := .ref (ad 1 0)) hx hb hts i_RF hown hK hV rfl rfl (by decide) (hA.n 0 (by decide)) (hts _ k_68) (congrArg (fun z => va_rf (Option.map (ad 1) z)) (hA.r 0 (by decide))) d_RF_move_29 ?_
        refine lv_aload_n hx hb d_RF_move_32 rfl (lv_at hl 0 rfl) ?_
        refine os_getN (C := "RobotFaults$Robot") (T := F_Robot) (N := 6) (ci := 3) (K := 9) (j := 1) (i := i_1) (v := .int (os_g σ 9 1 i_1)) hx hb hts i_Robot hown hK hV rfl rfl (by decide) hi_2 (hts _ k_298) rfl d_RF_move_33 ?_
        refine lv_iload_n hx hb d_RF_move_36 rfl (lv_at hl 3 rfl) ?_
        obtain ⟨z, hz, ez⟩ := hQ i_1 hi_2
        rw [ez]
        refine os_call (c_Track_areConnected l hlt D cA bs σ ad z y hA hz) hE hV k_370 k_2 (os_inV (C := "RobotFaults$Track") (n := 2) (bytes := prog_7_method_7_code) (maxL := 3) (ret := (some .boolean)) hx hb hown (hts _ k_367) (hts _ k_368) (hts _ k_369) (hts _ k_370) (by decide +kernel) rfl (os_recv hK hV rfl rfl (hA.n 1 (by decide))) rfl d_RF_move_37) (hl.1.trans hml.symm) (Nat.le_of_ble_eq_true rfl) (Nat.le_of_ble_eq_true rfl) (Nat.le_of_ble_eq_true rfl) (Nat.le_of_ble_eq_true rfl) (Nat.le_of_ble_eq_true rfl) (fun v σ1 ad1 H locs hp hext hV => ?_) (fun E q ce σ1 ad1 H locs hp hext hV hce hcv hcl => ?_)
        · obtain ⟨rfl, rfl, hp⟩ := hp
          cases hp
          refine W.eq (g2 := F0 m 40 ls [.int (bz (rf_holds (os_g σ 2 z 0) y))]) rfl ?_
          refine lv_if_ne (tgt := 53) hx hb d_RF_move_40 (by decide) (fun c_6 => ?_) (fun c_6 => ?_)
          · skip
            refine lv_aload_n hx hb d_RF_move_53 rfl (lv_at hl 0 rfl) ?_
            refine lv_iload_n hx hb d_RF_move_54 rfl (lv_at hl 3 rfl) ?_
            refine os_putIN (C := "RobotFaults$Robot") (T := F_Robot) (N := 6) (ci := 3) (K := 9) (j := 1) (i := i_1) (v := y) (ty := .int) hx hb hts i_Robot t_Robot t_Robot_ok n_Robot hown hK hV rfl rfl (by decide) hi_2 (hts _ k_298) rfl rfl rfl (by decide +kernel) rfl rfl d_RF_move_55 (fun H locs hV => ?_)
            refine os_vret hx hb hr hlocks hV (Nat.le_of_ble_eq_true rfl) (Nat.le_of_ble_eq_true rfl) d_RF_move_58 ?_
            exact ⟨rfl, Or.inr ⟨i_1, z, ⟨hi_2, hx_3⟩, g_4, hz, ez, Or.inr ⟨⟨c_5, bz_1 c_6⟩, rfl, rfl⟩⟩⟩
          · skip
            refine os_throw (own := "RobotFaults") (cls := "java/lang/IllegalStateException") (text := "the pieces are not linked") (names := ["java/lang/RuntimeException", "java/lang/Exception"]) hx hb hlt hown (by decide) (by decide) hE hV k_351 k_12 (by decide +kernel) th_IllegalStateException (hl.1.trans hml.symm) d_RF_move_43 d_RF_move_46 d_RF_move_47 d_RF_move_49 d_RF_move_52 hout hlocks (Nat.le_of_ble_eq_true rfl) (Nat.le_of_ble_eq_true rfl) (Nat.le_of_ble_eq_true rfl) (Nat.le_of_ble_eq_true rfl) (Nat.le_of_ble_eq_true rfl) (Nat.le_of_ble_eq_true rfl) ?_
            exact ⟨rfl, Or.inr ⟨i_1, z, ⟨hi_2, hx_3⟩, g_4, hz, ez, Or.inl ⟨fun h => bz_t c_6 h.2, rfl, rfl⟩⟩⟩
        · exact absurd hp.2.2 (fun h => by cases h)
      · skip
        refine os_throw (own := "RobotFaults") (cls := "java/lang/IllegalStateException") (text := "the robot is not going") (names := ["java/lang/RuntimeException", "java/lang/Exception"]) hx hb hlt hown (by decide) (by decide) hE hV k_351 k_12 (by decide +kernel) th_IllegalStateException (hl.1.trans hml.symm) d_RF_move_18 d_RF_move_21 d_RF_move_22 d_RF_move_24 d_RF_move_27 hout hlocks (Nat.le_of_ble_eq_true rfl) (Nat.le_of_ble_eq_true rfl) (Nat.le_of_ble_eq_true rfl) (Nat.le_of_ble_eq_true rfl) (Nat.le_of_ble_eq_true rfl) (Nat.le_of_ble_eq_true rfl) ?_
        obtain ⟨z, hz, ez⟩ := hQ i_1 hi_2
        exact ⟨rfl, Or.inr ⟨i_1, z, ⟨hi_2, hx_3⟩, g_4, hz, ez, Or.inl ⟨fun h => c_5 h.1, rfl, rfl⟩⟩⟩
    · obtain ⟨rfl, rfl, ⟨g_4, hp⟩ | ⟨g_4, hp⟩⟩ := hp <;> cases hp
      refine os_out hout hlocks hV hce hcv hcl (Nat.le_of_ble_eq_true rfl) (Nat.le_of_ble_eq_true rfl) ?_
      exact ⟨rfl, Or.inl ⟨Or.inr g_4, rfl, rfl⟩⟩
  · obtain ⟨rfl, rfl, ⟨i_1, hi_2, hx_3, hp⟩ | ⟨hx_3, hp⟩⟩ := hp <;> cases hp
    refine os_out hout hlocks hV hce hcv hcl (Nat.le_of_ble_eq_true rfl) (Nat.le_of_ble_eq_true rfl) ?_
    exact ⟨rfl, Or.inl ⟨Or.inl hx_3, rfl, rfl⟩⟩
def q_load (σ : os_S) (ad : Nat → Nat → Nat) (x y : Int32) : os_O → os_S → (Nat → Nat → Nat) → Prop := fun r σ' ad' => ad = ad' ∧ ((noR σ x ∧ σ = σ' ∧ r = .inr "java/util/NoSuchElementException") ∨
  ∃ i, isR σ x i ∧ ((¬ (¬ y < -1 ∧ y ≤ 99) ∧ σ = σ' ∧ r = .inr "java/lang/IllegalArgumentException") ∨ ((¬ y < -1 ∧ y ≤ 99) ∧ os_g σ 9 2 i = 2 ∧ σ = σ' ∧ r = .inr "java/lang/IllegalStateException") ∨ ((¬ y < -1 ∧ y ≤ 99) ∧ ¬ os_g σ 9 2 i = 2 ∧ os_sg σ 9 3 i y = σ' ∧ r = .inl none)))
set_option maxHeartbeats 4000000 in
set_option maxRecDepth 100000 in
theorem c_RF_load (l : Launch) (hlt : l.stackTraces = false) (D : va_G) (cA : Nat → ClassId) (bs : Nat) (σ : os_S) (ad : Nat → Nat → Nat) (x y : Int32) (hA : rfA σ) (hR : rfS σ 4 9 8 6) : os_Met l y_RF_load prog_1_method_7_code 4 none { frames := 7, cells := 2, slots := 12, locals := 118 } D cA bs [.ref (ad 0 0), .int x, .int y] σ ad (q_load σ ad x y) := by
  refine os_ofW (by decide) ?_
  intro p e s m below meth c hx hb hr hml hown hlocks hmn hout hE hV
  have hts := hE.hts (args := ([.ref (ad 0 0), .int x, .int y] : List Value).toArray)
  have hK := hE.2.1
  have hbs := hE.2.2.1
  have hown : s.vm.findClass "RobotFaults" = some m.cls := hown
  have hl := lv_entry ([.ref (ad 0 0), .int x, .int y]) (n := 4) (Nat.le_of_ble_eq_true rfl)
  rw [lg_entry_eq]
  generalize (lg_sl ([.ref (ad 0 0), .int x, .int y]) ++ List.replicate (4 - (lg_sl ([.ref (ad 0 0), .int x, .int y])).length) Slot.unset).toArray = ls at hl ⊢
  have hl : lv_has ls 4 [(0, .ref (ad 0 0)), (1, .int x), (2, .int y)] := hl
  refine lv_aload_n hx hb d_RF_load_0 rfl (lv_at hl 0 rfl) ?_
  refine lv_iload_n hx hb d_RF_load_1 rfl (lv_at hl 1 rfl) ?_
  refine os_call (c_RF_robotAt l hlt D cA bs σ ad x hA hR) hE hV k_349 k_1 (os_inV (C := "RobotFaults") (n := 1) (bytes := prog_1_method_24_code) (maxL := 3) (ret := (some (.object "RobotFaults$Robot"))) hx hb hown (hts _ k_346) (hts _ k_348) (hts _ k_s5) (hts _ k_349) (by decide +kernel) rfl (os_recv hK hV rfl rfl (hA.n 0 (by decide))) rfl d_RF_load_2) (hl.1.trans hml.symm) (Nat.le_of_ble_eq_true rfl) (Nat.le_of_ble_eq_true rfl) (Nat.le_of_ble_eq_true rfl) (Nat.le_of_ble_eq_true rfl) (Nat.le_of_ble_eq_true rfl) (fun v σ1 ad1 H locs hp hext hV => ?_) (fun E q ce σ1 ad1 H locs hp hext hV hce hcv hcl => ?_)
  · obtain ⟨rfl, rfl, ⟨i_1, hi_2, hx_3, hp⟩ | ⟨hx_3, hp⟩⟩ := hp <;> cases hp
    refine W.eq (g2 := F0 m 5 ls [.ref (ad 9 i_1)]) rfl ?_
    refine lv_astore_n (lv' := [(3, .ref (ad 9 i_1)), (0, .ref (ad 0 0)), (1, .int x), (2, .int y)]) hx hb d_RF_load_5 rfl hl (by decide) rfl (fun ls hl => ?_)
    refine lv_iload_n hx hb d_RF_load_6 rfl (lv_at hl 3 rfl) ?_
    refine lv_iconst (v := (-1)) hx hb d_RF_load_7 (by decide) ?_
    refine lv_icmp_lt (tgt := 17) hx hb d_RF_load_8 (by decide) (fun c_4 => ?_) (fun c_4 => ?_)
    · skip
      refine os_throw (own := "RobotFaults") (cls := "java/lang/IllegalArgumentException") (text := "a unit is 0 to 99, or -1 for none") (names := ["java/lang/RuntimeException", "java/lang/Exception"]) hx hb hlt hown (by decide) (by decide) hE hV k_261 k_10 (by decide +kernel) th_IllegalArgumentException (hl.1.trans hml.symm) d_RF_load_17 d_RF_load_20 d_RF_load_21 d_RF_load_23 d_RF_load_26 hout hlocks (Nat.le_of_ble_eq_true rfl) (Nat.le_of_ble_eq_true rfl) (Nat.le_of_ble_eq_true rfl) (Nat.le_of_ble_eq_true rfl) (Nat.le_of_ble_eq_true rfl) (Nat.le_of_ble_eq_true rfl) ?_
      exact ⟨rfl, Or.inr ⟨i_1, ⟨hi_2, hx_3⟩, Or.inl ⟨fun h => h.1 c_4, rfl, rfl⟩⟩⟩
    · skip
      refine lv_iload_n hx hb d_RF_load_11 rfl (lv_at hl 3 rfl) ?_
      refine lv_bipush (v := 99) hx hb d_RF_load_12 (by decide) ?_
      refine lv_icmp_le (tgt := 27) hx hb d_RF_load_14 (by decide) (fun c_5 => ?_) (fun c_5 => ?_)
      · skip
        refine lv_aload_n hx hb d_RF_load_27 rfl (lv_at hl 0 rfl) ?_
        refine os_getN (C := "RobotFaults$Robot") (T := F_Robot) (N := 6) (ci := 3) (K := 9) (j := 2) (i := i_1) (v := .int (os_g σ 9 2 i_1)) hx hb hts i_Robot hown hK hV rfl rfl (by decide) hi_2 (hts _ k_300) rfl d_RF_load_28 ?_
        refine lv_iconst (v := 2) hx hb d_RF_load_31 (by decide) ?_
        refine lv_icmp_ne (tgt := 45) hx hb d_RF_load_32 (by decide) (fun c_6 => ?_) (fun c_6 => ?_)
        · skip
          refine lv_aload_n hx hb d_RF_load_45 rfl (lv_at hl 0 rfl) ?_
          refine lv_iload_n hx hb d_RF_load_46 rfl (lv_at hl 3 rfl) ?_
          refine os_putIN (C := "RobotFaults$Robot") (T := F_Robot) (N := 6) (ci := 3) (K := 9) (j := 3) (i := i_1) (v := y) (ty := .int) hx hb hts i_Robot t_Robot t_Robot_ok n_Robot hown hK hV rfl rfl (by decide) hi_2 (hts _ k_303) rfl rfl rfl (by decide +kernel) rfl rfl d_RF_load_47 (fun H locs hV => ?_)
          refine os_vret hx hb hr hlocks hV (Nat.le_of_ble_eq_true rfl) (Nat.le_of_ble_eq_true rfl) d_RF_load_50 ?_
          exact ⟨rfl, Or.inr ⟨i_1, ⟨hi_2, hx_3⟩, Or.inr (Or.inr ⟨⟨c_4, c_5⟩, c_6, rfl, rfl⟩)⟩⟩
        · skip
          refine os_throw (own := "RobotFaults") (cls := "java/lang/IllegalStateException") (text := "the robot is lost") (names := ["java/lang/RuntimeException", "java/lang/Exception"]) hx hb hlt hown (by decide) (by decide) hE hV k_351 k_12 (by decide +kernel) th_IllegalStateException (hl.1.trans hml.symm) d_RF_load_35 d_RF_load_38 d_RF_load_39 d_RF_load_41 d_RF_load_44 hout hlocks (Nat.le_of_ble_eq_true rfl) (Nat.le_of_ble_eq_true rfl) (Nat.le_of_ble_eq_true rfl) (Nat.le_of_ble_eq_true rfl) (Nat.le_of_ble_eq_true rfl) (Nat.le_of_ble_eq_true rfl) ?_
          exact ⟨rfl, Or.inr ⟨i_1, ⟨hi_2, hx_3⟩, Or.inr (Or.inl ⟨⟨c_4, c_5⟩, c_6, rfl, rfl⟩)⟩⟩
      · skip
        refine os_throw (own := "RobotFaults") (cls := "java/lang/IllegalArgumentException") (text := "a unit is 0 to 99, or -1 for none") (names := ["java/lang/RuntimeException", "java/lang/Exception"]) hx hb hlt hown (by decide) (by decide) hE hV k_261 k_10 (by decide +kernel) th_IllegalArgumentException (hl.1.trans hml.symm) d_RF_load_17 d_RF_load_20 d_RF_load_21 d_RF_load_23 d_RF_load_26 hout hlocks (Nat.le_of_ble_eq_true rfl) (Nat.le_of_ble_eq_true rfl) (Nat.le_of_ble_eq_true rfl) (Nat.le_of_ble_eq_true rfl) (Nat.le_of_ble_eq_true rfl) (Nat.le_of_ble_eq_true rfl) ?_
        exact ⟨rfl, Or.inr ⟨i_1, ⟨hi_2, hx_3⟩, Or.inl ⟨fun h => c_5 h.2, rfl, rfl⟩⟩⟩
  · obtain ⟨rfl, rfl, ⟨i_1, hi_2, hx_3, hp⟩ | ⟨hx_3, hp⟩⟩ := hp <;> cases hp
    refine os_out hout hlocks hV hce hcv hcl (Nat.le_of_ble_eq_true rfl) (Nat.le_of_ble_eq_true rfl) ?_
    exact ⟨rfl, Or.inl ⟨hx_3, rfl, rfl⟩⟩
def q_tow (σ : os_S) (ad : Nat → Nat → Nat) (x y : Int32) : os_O → os_S → (Nat → Nat → Nat) → Prop := fun r σ' ad' => ad = ad' ∧ (((noR σ x ∨ ¬ isP σ y) ∧ σ = σ' ∧ r = .inr "java/util/NoSuchElementException") ∨
  ∃ i, isR σ x i ∧ isP σ y ∧ ((¬ (os_g σ 9 2 i = 1 ∨ os_g σ 9 2 i = 3) ∧ σ = σ' ∧ r = .inr "java/lang/IllegalStateException") ∨ ((os_g σ 9 2 i = 1 ∨ os_g σ 9 2 i = 3) ∧ os_sg (os_sg σ 9 2 i 3) 9 1 i y = σ' ∧ r = .inl none)))
set_option maxHeartbeats 4000000 in
set_option maxRecDepth 100000 in
theorem c_RF_tow (l : Launch) (hlt : l.stackTraces = false) (D : va_G) (cA : Nat → ClassId) (bs : Nat) (σ : os_S) (ad : Nat → Nat → Nat) (x y : Int32) (hA : rfA σ) (hR : rfS σ 4 9 8 6) : os_Met l y_RF_tow prog_1_method_14_code 4 none { frames := 7, cells := 3, slots := 18, locals := 118 } D cA bs [.ref (ad 0 0), .int x, .int y] σ ad (q_tow σ ad x y) := by
  refine os_ofW (by decide) ?_
  intro p e s m below meth c hx hb hr hml hown hlocks hmn hout hE hV
  have hts := hE.hts (args := ([.ref (ad 0 0), .int x, .int y] : List Value).toArray)
  have hK := hE.2.1
  have hbs := hE.2.2.1
  have hown : s.vm.findClass "RobotFaults" = some m.cls := hown
  have hl := lv_entry ([.ref (ad 0 0), .int x, .int y]) (n := 4) (Nat.le_of_ble_eq_true rfl)
  rw [lg_entry_eq]
  generalize (lg_sl ([.ref (ad 0 0), .int x, .int y]) ++ List.replicate (4 - (lg_sl ([.ref (ad 0 0), .int x, .int y])).length) Slot.unset).toArray = ls at hl ⊢
  have hl : lv_has ls 4 [(0, .ref (ad 0 0)), (1, .int x), (2, .int y)] := hl
  refine lv_aload_n hx hb d_RF_tow_0 rfl (lv_at hl 0 rfl) ?_
  refine lv_iload_n hx hb d_RF_tow_1 rfl (lv_at hl 1 rfl) ?_
  refine os_call (c_RF_robotAt l hlt D cA bs σ ad x hA hR) hE hV k_349 k_1 (os_inV (C := "RobotFaults") (n := 1) (bytes := prog_1_method_24_code) (maxL := 3) (ret := (some (.object "RobotFaults$Robot"))) hx hb hown (hts _ k_346) (hts _ k_348) (hts _ k_s5) (hts _ k_349) (by decide +kernel) rfl (os_recv hK hV rfl rfl (hA.n 0 (by decide))) rfl d_RF_tow_2) (hl.1.trans hml.symm) (Nat.le_of_ble_eq_true rfl) (Nat.le_of_ble_eq_true rfl) (Nat.le_of_ble_eq_true rfl) (Nat.le_of_ble_eq_true rfl) (Nat.le_of_ble_eq_true rfl) (fun v σ1 ad1 H locs hp hext hV => ?_) (fun E q ce σ1 ad1 H locs hp hext hV hce hcv hcl => ?_)
  · obtain ⟨rfl, rfl, ⟨i_1, hi_2, hx_3, hp⟩ | ⟨hx_3, hp⟩⟩ := hp <;> cases hp
    refine W.eq (g2 := F0 m 5 ls [.ref (ad 9 i_1)]) rfl ?_
    refine lv_astore_n (lv' := [(3, .ref (ad 9 i_1)), (0, .ref (ad 0 0)), (1, .int x), (2, .int y)]) hx hb d_RF_tow_5 rfl hl (by decide) rfl (fun ls hl => ?_)
    refine lv_aload_n hx hb d_RF_tow_6 rfl (lv_at hl 1 rfl) ?_
    refine lv_iload_n hx hb d_RF_tow_7 rfl (lv_at hl 3 rfl) ?_
    refine os_call (c_RF_needPiece l hlt D cA bs σ ad y hA) hE hV k_240 k_1 (os_inV (C := "RobotFaults") (n := 1) (bytes := prog_1_method_23_code) (maxL := 2) (ret := none) hx hb hown (hts _ k_237) (hts _ k_239) (hts _ k_s4) (hts _ k_240) (by decide +kernel) rfl (os_recv hK hV rfl rfl (hA.n 0 (by decide))) rfl d_RF_tow_8) (hl.1.trans hml.symm) (Nat.le_of_ble_eq_true rfl) (Nat.le_of_ble_eq_true rfl) (Nat.le_of_ble_eq_true rfl) (Nat.le_of_ble_eq_true rfl) (Nat.le_of_ble_eq_true rfl) (fun v σ1 ad1 H locs hp hext hV => ?_) (fun E q ce σ1 ad1 H locs hp hext hV hce hcv hcl => ?_)
    · obtain ⟨rfl, rfl, ⟨g_4, hp⟩ | ⟨g_4, hp⟩⟩ := hp <;> cases hp
      refine W.eq (g2 := F0 m 11 ls []) rfl ?_
      refine lv_aload_n hx hb d_RF_tow_11 rfl (lv_at hl 0 rfl) ?_
      refine os_getN (C := "RobotFaults$Robot") (T := F_Robot) (N := 6) (ci := 3) (K := 9) (j := 2) (i := i_1) (v := .int (os_g σ 9 2 i_1)) hx hb hts i_Robot hown hK hV rfl rfl (by decide) hi_2 (hts _ k_300) rfl d_RF_tow_12 ?_
      refine lv_iconst (v := 1) hx hb d_RF_tow_15 (by decide) ?_
      refine lv_icmp_eq (tgt := 37) hx hb d_RF_tow_16 (by decide) (fun c_5 => ?_) (fun c_5 => ?_)
      · skip
        refine lv_aload_n hx hb d_RF_tow_37 rfl (lv_at hl 0 rfl) ?_
        refine lv_iconst (v := 3) hx hb d_RF_tow_38 (by decide) ?_
        refine os_putIN (C := "RobotFaults$Robot") (T := F_Robot) (N := 6) (ci := 3) (K := 9) (j := 2) (i := i_1) (v := 3) (ty := .int) hx hb hts i_Robot t_Robot t_Robot_ok n_Robot hown hK hV rfl rfl (by decide) hi_2 (hts _ k_300) rfl rfl rfl (by decide +kernel) rfl rfl d_RF_tow_39 (fun H locs hV => ?_)
        refine lv_aload_n hx hb d_RF_tow_42 rfl (lv_at hl 0 rfl) ?_
        refine lv_iload_n hx hb d_RF_tow_43 rfl (lv_at hl 3 rfl) ?_
        refine os_putIN (C := "RobotFaults$Robot") (T := F_Robot) (N := 6) (ci := 3) (K := 9) (j := 1) (i := i_1) (v := y) (ty := .int) hx hb hts i_Robot t_Robot t_Robot_ok n_Robot hown hK hV rfl rfl (by decide) hi_2 (hts _ k_298) rfl rfl rfl (by decide +kernel) rfl rfl d_RF_tow_44 (fun H locs hV => ?_)
        refine os_vret hx hb hr hlocks hV (Nat.le_of_ble_eq_true rfl) (Nat.le_of_ble_eq_true rfl) d_RF_tow_47 ?_
        exact ⟨rfl, Or.inr ⟨i_1, ⟨hi_2, hx_3⟩, g_4, Or.inr ⟨Or.inl c_5, rfl, rfl⟩⟩⟩
      · skip
        refine lv_aload_n hx hb d_RF_tow_19 rfl (lv_at hl 0 rfl) ?_
        refine os_getN (C := "RobotFaults$Robot") (T := F_Robot) (N := 6) (ci := 3) (K := 9) (j := 2) (i := i_1) (v := .int (os_g σ 9 2 i_1)) hx hb hts i_Robot hown hK hV rfl rfl (by decide) hi_2 (hts _ k_300) rfl d_RF_tow_20 ?_
        refine lv_iconst (v := 3) hx hb d_RF_tow_23 (by decide) ?_
        refine lv_icmp_eq (tgt := 37) hx hb d_RF_tow_24 (by decide) (fun c_6 => ?_) (fun c_6 => ?_)
        · skip
          refine lv_aload_n hx hb d_RF_tow_37 rfl (lv_at hl 0 rfl) ?_
          refine lv_iconst (v := 3) hx hb d_RF_tow_38 (by decide) ?_
          refine os_putIN (C := "RobotFaults$Robot") (T := F_Robot) (N := 6) (ci := 3) (K := 9) (j := 2) (i := i_1) (v := 3) (ty := .int) hx hb hts i_Robot t_Robot t_Robot_ok n_Robot hown hK hV rfl rfl (by decide) hi_2 (hts _ k_300) rfl rfl rfl (by decide +kernel) rfl rfl d_RF_tow_39 (fun H locs hV => ?_)
          refine lv_aload_n hx hb d_RF_tow_42 rfl (lv_at hl 0 rfl) ?_
          refine lv_iload_n hx hb d_RF_tow_43 rfl (lv_at hl 3 rfl) ?_
          refine os_putIN (C := "RobotFaults$Robot") (T := F_Robot) (N := 6) (ci := 3) (K := 9) (j := 1) (i := i_1) (v := y) (ty := .int) hx hb hts i_Robot t_Robot t_Robot_ok n_Robot hown hK hV rfl rfl (by decide) hi_2 (hts _ k_298) rfl rfl rfl (by decide +kernel) rfl rfl d_RF_tow_44 (fun H locs hV => ?_)
          refine os_vret hx hb hr hlocks hV (Nat.le_of_ble_eq_true rfl) (Nat.le_of_ble_eq_true rfl) d_RF_tow_47 ?_
          exact ⟨rfl, Or.inr ⟨i_1, ⟨hi_2, hx_3⟩, g_4, Or.inr ⟨Or.inr c_6, rfl, rfl⟩⟩⟩
        · skip
          refine os_throw (own := "RobotFaults") (cls := "java/lang/IllegalStateException") (text := "only a stopped or towed robot is towed") (names := ["java/lang/RuntimeException", "java/lang/Exception"]) hx hb hlt hown (by decide) (by decide) hE hV k_351 k_12 (by decide +kernel) th_IllegalStateException (hl.1.trans hml.symm) d_RF_tow_27 d_RF_tow_30 d_RF_tow_31 d_RF_tow_33 d_RF_tow_36 hout hlocks (Nat.le_of_ble_eq_true rfl) (Nat.le_of_ble_eq_true rfl) (Nat.le_of_ble_eq_true rfl) (Nat.le_of_ble_eq_true rfl) (Nat.le_of_ble_eq_true rfl) (Nat.le_of_ble_eq_true rfl) ?_
          exact ⟨rfl, Or.inr ⟨i_1, ⟨hi_2, hx_3⟩, g_4, Or.inl ⟨fun h => h.elim c_5 c_6, rfl, rfl⟩⟩⟩
    · obtain ⟨rfl, rfl, ⟨g_4, hp⟩ | ⟨g_4, hp⟩⟩ := hp <;> cases hp
      refine os_out hout hlocks hV hce hcv hcl (Nat.le_of_ble_eq_true rfl) (Nat.le_of_ble_eq_true rfl) ?_
      exact ⟨rfl, Or.inl ⟨Or.inr g_4, rfl, rfl⟩⟩
  · obtain ⟨rfl, rfl, ⟨i_1, hi_2, hx_3, hp⟩ | ⟨hx_3, hp⟩⟩ := hp <;> cases hp
    refine os_out hout hlocks hV hce hcv hcl (Nat.le_of_ble_eq_true rfl) (Nat.le_of_ble_eq_true rfl) ?_
    exact ⟨rfl, Or.inl ⟨Or.inl hx_3, rfl, rfl⟩⟩
def isL (σ : os_S) (x : Int32) (i : Nat) : Prop := i < os_n σ 11 ∧ x = nI (i + 0)
def noL (σ : os_S) (x : Int32) : Prop := ∀ i, i < os_n σ 11 → ¬ x = nI (i + 0)
def isFt (σ : os_S) (x : Int32) (i : Nat) : Prop := i < os_n σ 10 ∧ x = nI (i + 1)
def noFt (σ : os_S) (x : Int32) : Prop := ∀ i, i < os_n σ 10 → ¬ x = nI (i + 1)
def q_ack (σ : os_S) (ad : Nat → Nat → Nat) (x y : Int32) : os_O → os_S → (Nat → Nat → Nat) → Prop := fun r σ' ad' => ad = ad' ∧ ((noL σ x ∧ σ = σ' ∧ r = .inr "java/util/NoSuchElementException") ∨
  ∃ i, isL σ x i ∧ ((¬ (¬ y < 0 ∧ y < 8) ∧ σ = σ' ∧ r = .inr "java/lang/IllegalArgumentException") ∨ ((¬ y < 0 ∧ y < 8) ∧ ¬ os_g σ 11 6 i = -1 ∧ σ = σ' ∧ r = .inr "java/lang/IllegalStateException") ∨ ((¬ y < 0 ∧ y < 8) ∧ os_g σ 11 6 i = -1 ∧ os_sg σ 11 6 i y = σ' ∧ r = .inl (some (.int (os_g σ 11 4 i))))))
set_option maxHeartbeats 4000000 in
set_option maxRecDepth 100000 in
theorem c_RF_acknowledge (l : Launch) (hlt : l.stackTraces = false) (D : va_G) (cA : Nat → ClassId) (bs : Nat) (σ : os_S) (ad : Nat → Nat → Nat) (x y : Int32) (hA : rfA σ) (hL : rfL σ) : os_Met l y_RF_acknowledge prog_1_method_17_code 4 (some .int) { frames := 7, cells := 3, slots := 18, locals := 118 } D cA bs [.ref (ad 0 0), .int x, .int y] σ ad (q_ack σ ad x y) := by
  refine os_ofW (by decide) ?_
  intro p e s m below meth c hx hb hr hml hown hlocks hmn hout hE hV
  have hts := hE.hts (args := ([.ref (ad 0 0), .int x, .int y] : List Value).toArray)
  have hK := hE.2.1
  have hbs := hE.2.2.1
  have hown : s.vm.findClass "RobotFaults" = some m.cls := hown
  have hl := lv_entry ([.ref (ad 0 0), .int x, .int y]) (n := 4) (Nat.le_of_ble_eq_true rfl)
  rw [lg_entry_eq]
  generalize (lg_sl ([.ref (ad 0 0), .int x, .int y]) ++ List.replicate (4 - (lg_sl ([.ref (ad 0 0), .int x, .int y])).length) Slot.unset).toArray = ls at hl ⊢
  have hl : lv_has ls 4 [(0, .ref (ad 0 0)), (1, .int x), (2, .int y)] := hl
  refine lv_aload_n hx hb d_RF_acknowledge_0 rfl (lv_at hl 0 rfl) ?_
  refine lv_iload_n hx hb d_RF_acknowledge_1 rfl (lv_at hl 1 rfl) ?_
  refine os_call (c_RF_alarmAt l hlt D cA bs σ ad x hA hL.1) hE hV k_692 k_1 (os_inV (C := "RobotFaults") (n := 1) (bytes := prog_1_method_26_code) (maxL := 3) (ret := (some (.object "RobotFaults$Alarm"))) hx hb hown (hts _ k_689) (hts _ k_691) (hts _ k_s20) (hts _ k_692) (by decide +kernel) rfl (os_recv hK hV rfl rfl (hA.n 0 (by decide))) rfl d_RF_acknowledge_2) (hl.1.trans hml.symm) (Nat.le_of_ble_eq_true rfl) (Nat.le_of_ble_eq_true rfl) (Nat.le_of_ble_eq_true rfl) (Nat.le_of_ble_eq_true rfl) (Nat.le_of_ble_eq_true rfl) (fun v σ1 ad1 H locs hp hext hV => ?_) (fun E q ce σ1 ad1 H locs hp hext hV hce hcv hcl => ?_)
  · obtain ⟨rfl, rfl, ⟨i_1, hi_2, hx_3, hp⟩ | ⟨hx_3, hp⟩⟩ := hp <;> cases hp
    refine W.eq (g2 := F0 m 5 ls [.ref (ad 11 i_1)]) rfl ?_
    refine lv_astore_n (lv' := [(3, .ref (ad 11 i_1)), (0, .ref (ad 0 0)), (1, .int x), (2, .int y)]) hx hb d_RF_acknowledge_5 rfl hl (by decide) rfl (fun ls hl => ?_)
    refine lv_iload_n hx hb d_RF_acknowledge_6 rfl (lv_at hl 3 rfl) ?_
    refine os_call (c_RF_needPerson l hlt D cA bs σ ad y) hE hV k_532 k_1 (os_inS (n := 1) (bytes := prog_1_method_28_code) (maxL := 1) (ret := none) hx hb hown (hts _ k_530) (hts _ k_531) (hts _ k_1) (hts _ k_532) (by decide +kernel) rfl rfl d_RF_acknowledge_7) (hl.1.trans hml.symm) (Nat.le_of_ble_eq_true rfl) (Nat.le_of_ble_eq_true rfl) (Nat.le_of_ble_eq_true rfl) (Nat.le_of_ble_eq_true rfl) (Nat.le_of_ble_eq_true rfl) (fun v σ1 ad1 H locs hp hext hV => ?_) (fun E q ce σ1 ad1 H locs hp hext hV hce hcv hcl => ?_)
    · obtain ⟨rfl, rfl, ⟨g_4, hp⟩ | ⟨g_4, hp⟩⟩ := hp <;> cases hp
      refine W.eq (g2 := F0 m 10 ls []) rfl ?_
      refine lv_aload_n hx hb d_RF_acknowledge_10 rfl (lv_at hl 0 rfl) ?_
      refine os_call (c_Alarm_isAcknowledged l hlt D cA bs σ ad i_1 hi_2) hE hV k_109 k_14 (os_inV (C := "RobotFaults$Alarm") (n := 0) (bytes := prog_2_method_2_code) (maxL := 1) (ret := (some .boolean)) hx hb hown (hts _ k_106) (hts _ k_107) (hts _ k_108) (hts _ k_109) (by decide +kernel) rfl (os_recv hK hV rfl rfl hi_2) rfl d_RF_acknowledge_11) (hl.1.trans hml.symm) (Nat.le_of_ble_eq_true rfl) (Nat.le_of_ble_eq_true rfl) (Nat.le_of_ble_eq_true rfl) (Nat.le_of_ble_eq_true rfl) (Nat.le_of_ble_eq_true rfl) (fun v σ1 ad1 H locs hp hext hV => ?_) (fun E q ce σ1 ad1 H locs hp hext hV hce hcv hcl => ?_)
      · obtain ⟨rfl, rfl, hp⟩ := hp
        cases hp
        refine W.eq (g2 := F0 m 14 ls [.int (bz (decide (¬ os_g σ 11 6 i_1 = -1)))]) rfl ?_
        refine lv_if_eq (tgt := 27) hx hb d_RF_acknowledge_14 (by decide) (fun c_5 => ?_) (fun c_5 => ?_)
        · skip
          refine lv_aload_n hx hb d_RF_acknowledge_27 rfl (lv_at hl 0 rfl) ?_
          refine lv_iload_n hx hb d_RF_acknowledge_28 rfl (lv_at hl 3 rfl) ?_
          refine os_putIN (C := "RobotFaults$Alarm") (T := F_Alarm) (N := 8) (ci := 5) (K := 11) (j := 6) (i := i_1) (v := y) (ty := .int) hx hb hts i_Alarm t_Alarm t_Alarm_ok n_Alarm hown hK hV rfl rfl (by decide) hi_2 (hts _ k_494) rfl rfl rfl (by decide +kernel) rfl rfl d_RF_acknowledge_29 (fun H locs hV => ?_)
          refine lv_aload_n hx hb d_RF_acknowledge_32 rfl (lv_at hl 0 rfl) ?_
          refine os_getN (C := "RobotFaults$Alarm") (T := F_Alarm) (N := 8) (ci := 5) (K := 11) (j := 4) (i := i_1) (v := .int (os_g σ 11 4 i_1)) hx hb hts i_Alarm hown hK hV rfl rfl (by decide) hi_2 (hts _ k_490) rfl d_RF_acknowledge_33 ?_
          refine os_iret hx hb hr hlocks hV (Nat.le_of_ble_eq_true rfl) (Nat.le_of_ble_eq_true rfl) d_RF_acknowledge_36 ?_
          exact ⟨rfl, Or.inr ⟨i_1, ⟨hi_2, hx_3⟩, Or.inr (Or.inr ⟨g_4, Decidable.not_not.mp (of_decide_eq_false (bz_0 c_5)), rfl, rfl⟩)⟩⟩
        · skip
          refine os_throw (own := "RobotFaults") (cls := "java/lang/IllegalStateException") (text := "somebody acknowledged the alarm") (names := ["java/lang/RuntimeException", "java/lang/Exception"]) hx hb hlt hown (by decide) (by decide) hE hV k_351 k_12 (by decide +kernel) th_IllegalStateException (hl.1.trans hml.symm) d_RF_acknowledge_17 d_RF_acknowledge_20 d_RF_acknowledge_21 d_RF_acknowledge_23 d_RF_acknowledge_26 hout hlocks (Nat.le_of_ble_eq_true rfl) (Nat.le_of_ble_eq_true rfl) (Nat.le_of_ble_eq_true rfl) (Nat.le_of_ble_eq_true rfl) (Nat.le_of_ble_eq_true rfl) (Nat.le_of_ble_eq_true rfl) ?_
          exact ⟨rfl, Or.inr ⟨i_1, ⟨hi_2, hx_3⟩, Or.inr (Or.inl ⟨g_4, of_decide_eq_true (bz_1 c_5), rfl, rfl⟩)⟩⟩
      · exact absurd hp.2.2 (fun h => by cases h)
    · obtain ⟨rfl, rfl, ⟨g_4, hp⟩ | ⟨g_4, hp⟩⟩ := hp <;> cases hp
      refine os_out hout hlocks hV hce hcv hcl (Nat.le_of_ble_eq_true rfl) (Nat.le_of_ble_eq_true rfl) ?_
      exact ⟨rfl, Or.inr ⟨i_1, ⟨hi_2, hx_3⟩, Or.inl ⟨g_4, rfl, rfl⟩⟩⟩
  · obtain ⟨rfl, rfl, ⟨i_1, hi_2, hx_3, hp⟩ | ⟨hx_3, hp⟩⟩ := hp <;> cases hp
    refine os_out hout hlocks hV hce hcv hcl (Nat.le_of_ble_eq_true rfl) (Nat.le_of_ble_eq_true rfl) ?_
    exact ⟨rfl, Or.inl ⟨hx_3, rfl, rfl⟩⟩
def q_alarm (σ : os_S) (ad : Nat → Nat → Nat) (x y : Int32) : os_O → os_S → (Nat → Nat → Nat) → Prop := fun r σ' ad' => ad = ad' ∧ σ = σ' ∧ ((noL σ x ∧ r = .inr "java/util/NoSuchElementException") ∨ ∃ i, isL σ x i ∧ (((∀ k, k < 7 → ¬ y = nI k) ∧ r = .inr "java/lang/IllegalArgumentException") ∨ (y = 0 ∧ r = .inl (some (.int (os_g σ 9 0 (aR σ i))))) ∨ (y = 1 ∧ r = .inl (some (.int (os_g σ 11 2 i)))) ∨ (y = 2 ∧ r = .inl (some (.int (os_g σ 11 3 i)))) ∨ (y = 3 ∧ r = .inl (some (.int (os_g σ 11 4 i)))) ∨ (y = 4 ∧ r = .inl (some (.int (os_g σ 11 5 i)))) ∨ (y = 5 ∧ r = .inl (some (.int (os_g σ 11 6 i)))) ∨ (y = 6 ∧ r = .inl (some (.int (os_g σ 10 3 (aL σ i)))))))
set_option maxHeartbeats 4000000 in
set_option maxRecDepth 100000 in
theorem c_RF_alarm (l : Launch) (hlt : l.stackTraces = false) (D : va_G) (cA : Nat → ClassId) (bs : Nat) (σ : os_S) (ad : Nat → Nat → Nat) (x y : Int32) (hA : rfA σ) (hL : rfL σ) : os_Met l y_RF_alarm prog_1_method_18_code 4 (some .int) { frames := 7, cells := 2, slots := 12, locals := 118 } D cA bs [.ref (ad 0 0), .int x, .int y] σ ad (q_alarm σ ad x y) := by
  refine os_ofW (by decide) ?_
  intro p e s m below meth c hx hb hr hml hown hlocks hmn hout hE hV
  have hts := hE.hts (args := ([.ref (ad 0 0), .int x, .int y] : List Value).toArray)
  have hK := hE.2.1
  have hbs := hE.2.2.1
  have hown : s.vm.findClass "RobotFaults" = some m.cls := hown
  have hl := lv_entry ([.ref (ad 0 0), .int x, .int y]) (n := 4) (Nat.le_of_ble_eq_true rfl)
  rw [lg_entry_eq]
  generalize (lg_sl ([.ref (ad 0 0), .int x, .int y]) ++ List.replicate (4 - (lg_sl ([.ref (ad 0 0), .int x, .int y])).length) Slot.unset).toArray = ls at hl ⊢
  have hl : lv_has ls 4 [(0, .ref (ad 0 0)), (1, .int x), (2, .int y)] := hl
  refine lv_aload_n hx hb d_RF_alarm_0 rfl (lv_at hl 0 rfl) ?_
  refine lv_iload_n hx hb d_RF_alarm_1 rfl (lv_at hl 1 rfl) ?_
  refine os_call (c_RF_alarmAt l hlt D cA bs σ ad x hA hL.1) hE hV k_692 k_1 (os_inV (C := "RobotFaults") (n := 1) (bytes := prog_1_method_26_code) (maxL := 3) (ret := (some (.object "RobotFaults$Alarm"))) hx hb hown (hts _ k_689) (hts _ k_691) (hts _ k_s20) (hts _ k_692) (by decide +kernel) rfl (os_recv hK hV rfl rfl (hA.n 0 (by decide))) rfl d_RF_alarm_2) (hl.1.trans hml.symm) (Nat.le_of_ble_eq_true rfl) (Nat.le_of_ble_eq_true rfl) (Nat.le_of_ble_eq_true rfl) (Nat.le_of_ble_eq_true rfl) (Nat.le_of_ble_eq_true rfl) (fun v σ1 ad1 H locs hp hext hV => ?_) (fun E q ce σ1 ad1 H locs hp hext hV hce hcv hcl => ?_)
  · obtain ⟨rfl, rfl, ⟨i_1, hi_2, hx_3, hp⟩ | ⟨hx_3, hp⟩⟩ := hp <;> cases hp
    refine W.eq (g2 := F0 m 5 ls [.ref (ad 11 i_1)]) rfl ?_
    refine lv_astore_n (lv' := [(3, .ref (ad 11 i_1)), (0, .ref (ad 0 0)), (1, .int x), (2, .int y)]) hx hb d_RF_alarm_5 rfl hl (by decide) rfl (fun ls hl => ?_)
    refine lv_iload_n hx hb d_RF_alarm_6 rfl (lv_at hl 3 rfl) ?_
    by_cases h_4 : y = 0
    · skip
      refine lv_tableIn (off := 41) (tgt := 48) hx hb d_RF_alarm_7 (by rw [h_4]; decide) (by rw [h_4]; decide) (by rw [h_4]; rfl) (by decide) ?_
      refine lv_aload_n hx hb d_RF_alarm_48 rfl (lv_at hl 0 rfl) ?_
      refine os_getN (C := "RobotFaults$Alarm") (T := F_Alarm) (N := 8) (ci := 5) (K := 11) (j := 1) (i := i_1) (v := .ref (ad 9 (aR σ i_1))) hx hb hts i_Alarm hown hK hV rfl rfl (by decide) hi_2 (hts _ k_484) (congrArg (fun z => va_rf (Option.map (ad 9) z)) (hL.2.1 i_1 hi_2)) d_RF_alarm_49 ?_
      refine os_getN (C := "RobotFaults$Robot") (T := F_Robot) (N := 6) (ci := 3) (K := 9) (j := 0) (i := (aR σ i_1)) (v := .int (os_g σ 9 0 (aR σ i_1))) hx hb hts i_Robot hown hK hV rfl rfl (by decide) (hV.1.2.2.1 11 i_1 hi_2 1 9 _ rfl (hL.2.1 i_1 hi_2)) (hts _ k_295) rfl d_RF_alarm_52 ?_
      refine os_iret hx hb hr hlocks hV (Nat.le_of_ble_eq_true rfl) (Nat.le_of_ble_eq_true rfl) d_RF_alarm_55 ?_
      exact ⟨rfl, rfl, Or.inr ⟨i_1, ⟨hi_2, hx_3⟩, Or.inr (Or.inl (⟨h_4, rfl⟩))⟩⟩
    by_cases h_5 : y = 1
    · skip
      refine lv_tableIn (off := 49) (tgt := 56) hx hb d_RF_alarm_7 (by rw [h_5]; decide) (by rw [h_5]; decide) (by rw [h_5]; rfl) (by decide) ?_
      refine lv_aload_n hx hb d_RF_alarm_56 rfl (lv_at hl 0 rfl) ?_
      refine os_getN (C := "RobotFaults$Alarm") (T := F_Alarm) (N := 8) (ci := 5) (K := 11) (j := 2) (i := i_1) (v := .int (os_g σ 11 2 i_1)) hx hb hts i_Alarm hown hK hV rfl rfl (by decide) hi_2 (hts _ k_486) rfl d_RF_alarm_57 ?_
      refine os_iret hx hb hr hlocks hV (Nat.le_of_ble_eq_true rfl) (Nat.le_of_ble_eq_true rfl) d_RF_alarm_60 ?_
      exact ⟨rfl, rfl, Or.inr ⟨i_1, ⟨hi_2, hx_3⟩, Or.inr (Or.inr (Or.inl (⟨h_5, rfl⟩)))⟩⟩
    by_cases h_6 : y = 2
    · skip
      refine lv_tableIn (off := 54) (tgt := 61) hx hb d_RF_alarm_7 (by rw [h_6]; decide) (by rw [h_6]; decide) (by rw [h_6]; rfl) (by decide) ?_
      refine lv_aload_n hx hb d_RF_alarm_61 rfl (lv_at hl 0 rfl) ?_
      refine os_getN (C := "RobotFaults$Alarm") (T := F_Alarm) (N := 8) (ci := 5) (K := 11) (j := 3) (i := i_1) (v := .int (os_g σ 11 3 i_1)) hx hb hts i_Alarm hown hK hV rfl rfl (by decide) hi_2 (hts _ k_488) rfl d_RF_alarm_62 ?_
      refine os_iret hx hb hr hlocks hV (Nat.le_of_ble_eq_true rfl) (Nat.le_of_ble_eq_true rfl) d_RF_alarm_65 ?_
      exact ⟨rfl, rfl, Or.inr ⟨i_1, ⟨hi_2, hx_3⟩, Or.inr (Or.inr (Or.inr (Or.inl (⟨h_6, rfl⟩))))⟩⟩
    by_cases h_7 : y = 3
    · skip
      refine lv_tableIn (off := 59) (tgt := 66) hx hb d_RF_alarm_7 (by rw [h_7]; decide) (by rw [h_7]; decide) (by rw [h_7]; rfl) (by decide) ?_
      refine lv_aload_n hx hb d_RF_alarm_66 rfl (lv_at hl 0 rfl) ?_
      refine os_getN (C := "RobotFaults$Alarm") (T := F_Alarm) (N := 8) (ci := 5) (K := 11) (j := 4) (i := i_1) (v := .int (os_g σ 11 4 i_1)) hx hb hts i_Alarm hown hK hV rfl rfl (by decide) hi_2 (hts _ k_490) rfl d_RF_alarm_67 ?_
      refine os_iret hx hb hr hlocks hV (Nat.le_of_ble_eq_true rfl) (Nat.le_of_ble_eq_true rfl) d_RF_alarm_70 ?_
      exact ⟨rfl, rfl, Or.inr ⟨i_1, ⟨hi_2, hx_3⟩, Or.inr (Or.inr (Or.inr (Or.inr (Or.inl (⟨h_7, rfl⟩)))))⟩⟩
    by_cases h_8 : y = 4
    · skip
      refine lv_tableIn (off := 64) (tgt := 71) hx hb d_RF_alarm_7 (by rw [h_8]; decide) (by rw [h_8]; decide) (by rw [h_8]; rfl) (by decide) ?_
      refine lv_aload_n hx hb d_RF_alarm_71 rfl (lv_at hl 0 rfl) ?_
      refine os_getN (C := "RobotFaults$Alarm") (T := F_Alarm) (N := 8) (ci := 5) (K := 11) (j := 5) (i := i_1) (v := .int (os_g σ 11 5 i_1)) hx hb hts i_Alarm hown hK hV rfl rfl (by decide) hi_2 (hts _ k_492) rfl d_RF_alarm_72 ?_
      refine os_iret hx hb hr hlocks hV (Nat.le_of_ble_eq_true rfl) (Nat.le_of_ble_eq_true rfl) d_RF_alarm_75 ?_
      exact ⟨rfl, rfl, Or.inr ⟨i_1, ⟨hi_2, hx_3⟩, Or.inr (Or.inr (Or.inr (Or.inr (Or.inr (Or.inl (⟨h_8, rfl⟩))))))⟩⟩
    by_cases h_9 : y = 5
    · skip
      refine lv_tableIn (off := 69) (tgt := 76) hx hb d_RF_alarm_7 (by rw [h_9]; decide) (by rw [h_9]; decide) (by rw [h_9]; rfl) (by decide) ?_
      refine lv_aload_n hx hb d_RF_alarm_76 rfl (lv_at hl 0 rfl) ?_
      refine os_getN (C := "RobotFaults$Alarm") (T := F_Alarm) (N := 8) (ci := 5) (K := 11) (j := 6) (i := i_1) (v := .int (os_g σ 11 6 i_1)) hx hb hts i_Alarm hown hK hV rfl rfl (by decide) hi_2 (hts _ k_494) rfl d_RF_alarm_77 ?_
      refine os_iret hx hb hr hlocks hV (Nat.le_of_ble_eq_true rfl) (Nat.le_of_ble_eq_true rfl) d_RF_alarm_80 ?_
      exact ⟨rfl, rfl, Or.inr ⟨i_1, ⟨hi_2, hx_3⟩, Or.inr (Or.inr (Or.inr (Or.inr (Or.inr (Or.inr (Or.inl (⟨h_9, rfl⟩)))))))⟩⟩
    by_cases h_10 : y = 6
    · skip
      refine lv_tableIn (off := 74) (tgt := 81) hx hb d_RF_alarm_7 (by rw [h_10]; decide) (by rw [h_10]; decide) (by rw [h_10]; rfl) (by decide) ?_
      refine lv_aload_n hx hb d_RF_alarm_81 rfl (lv_at hl 0 rfl) ?_
      refine os_getN (C := "RobotFaults$Alarm") (T := F_Alarm) (N := 8) (ci := 5) (K := 11) (j := 7) (i := i_1) (v := .ref (ad 10 (aL σ i_1))) hx hb hts i_Alarm hown hK hV rfl rfl (by decide) hi_2 (hts _ k_496) (congrArg (fun z => va_rf (Option.map (ad 10) z)) (hL.2.2 i_1 hi_2)) d_RF_alarm_82 ?_
      refine os_getN (C := "RobotFaults$Fault") (T := F_Fault) (N := 11) (ci := 4) (K := 10) (j := 3) (i := (aL σ i_1)) (v := .int (os_g σ 10 3 (aL σ i_1))) hx hb hts i_Fault hown hK hV rfl rfl (by decide) (hV.1.2.2.1 11 i_1 hi_2 7 10 _ rfl (hL.2.2 i_1 hi_2)) (hts _ k_427) rfl d_RF_alarm_85 ?_
      refine os_iret hx hb hr hlocks hV (Nat.le_of_ble_eq_true rfl) (Nat.le_of_ble_eq_true rfl) d_RF_alarm_88 ?_
      exact ⟨rfl, rfl, Or.inr ⟨i_1, ⟨hi_2, hx_3⟩, Or.inr (Or.inr (Or.inr (Or.inr (Or.inr (Or.inr (Or.inr (⟨h_10, rfl⟩)))))))⟩⟩
    refine lv_tableOut (tgt := 89) hx hb d_RF_alarm_7 (tsOut (n := 7) (fun k hk => by rcases (show k = 0 ∨ k = 1 ∨ k = 2 ∨ k = 3 ∨ k = 4 ∨ k = 5 ∨ k = 6 by omega) with rfl | rfl | rfl | rfl | rfl | rfl | rfl <;> assumption)) (by decide) ?_
    refine os_throw (own := "RobotFaults") (cls := "java/lang/IllegalArgumentException") (text := "of an alarm 0 to 6 is asked") (names := ["java/lang/RuntimeException", "java/lang/Exception"]) hx hb hlt hown (by decide) (by decide) hE hV k_261 k_10 (by decide +kernel) th_IllegalArgumentException (hl.1.trans hml.symm) d_RF_alarm_89 d_RF_alarm_92 d_RF_alarm_93 d_RF_alarm_95 d_RF_alarm_98 hout hlocks (Nat.le_of_ble_eq_true rfl) (Nat.le_of_ble_eq_true rfl) (Nat.le_of_ble_eq_true rfl) (Nat.le_of_ble_eq_true rfl) (Nat.le_of_ble_eq_true rfl) (Nat.le_of_ble_eq_true rfl) ?_
    exact ⟨rfl, rfl, Or.inr ⟨i_1, ⟨hi_2, hx_3⟩, Or.inl ⟨fun k hk => by rcases (show k = 0 ∨ k = 1 ∨ k = 2 ∨ k = 3 ∨ k = 4 ∨ k = 5 ∨ k = 6 by omega) with rfl | rfl | rfl | rfl | rfl | rfl | rfl <;> assumption, rfl⟩⟩⟩
  · obtain ⟨rfl, rfl, ⟨i_1, hi_2, hx_3, hp⟩ | ⟨hx_3, hp⟩⟩ := hp <;> cases hp
    refine os_out hout hlocks hV hce hcv hcl (Nat.le_of_ble_eq_true rfl) (Nat.le_of_ble_eq_true rfl) ?_
    exact ⟨rfl, rfl, Or.inl ⟨hx_3, rfl⟩⟩
def q_known (σ : os_S) (ad : Nat → Nat → Nat) (x y : Int32) : os_O → os_S → (Nat → Nat → Nat) → Prop := fun r σ' ad' => ad = ad' ∧ σ = σ' ∧ ((noFt σ x ∧ r = .inr "java/util/NoSuchElementException") ∨ ∃ i, isFt σ x i ∧ (((∀ k, k < 9 → ¬ y = nI k) ∧ r = .inr "java/lang/IllegalArgumentException") ∨ (y = 0 ∧ r = .inl (some (.int (os_g σ 9 0 (fR σ i))))) ∨ (y = 1 ∧ r = .inl (some (.int (os_g σ 10 2 i)))) ∨ (y = 2 ∧ r = .inl (some (.int (os_g σ 10 3 i)))) ∨ (y = 3 ∧ r = .inl (some (.int (os_g σ 10 10 i)))) ∨ (y = 4 ∧ r = .inl (some (.int (os_g σ 10 8 i)))) ∨ (y = 5 ∧ r = .inl (some (.int (os_g σ 10 9 i)))) ∨ (y = 6 ∧ r = .inl (some (.int (os_g σ 10 5 i)))) ∨ (y = 7 ∧ r = .inl (some (.int (os_g σ 10 6 i)))) ∨ (y = 8 ∧ r = .inl (some (.int (os_g σ 10 7 i))))))
set_option maxHeartbeats 4000000 in
set_option maxRecDepth 100000 in
theorem c_RF_known (l : Launch) (hlt : l.stackTraces = false) (D : va_G) (cA : Nat → ClassId) (bs : Nat) (σ : os_S) (ad : Nat → Nat → Nat) (x y : Int32) (hA : rfA σ) (hF : rfF σ) (hBF : ∀ i, i < os_n σ 10 → os_g σ 10 5 i = 0 ∨ os_g σ 10 5 i = 1) : os_Met l y_RF_known prog_1_method_19_code 4 (some .int) { frames := 7, cells := 2, slots := 12, locals := 118 } D cA bs [.ref (ad 0 0), .int x, .int y] σ ad (q_known σ ad x y) := by
  refine os_ofW (by decide) ?_
  intro p e s m below meth c hx hb hr hml hown hlocks hmn hout hE hV
  have hts := hE.hts (args := ([.ref (ad 0 0), .int x, .int y] : List Value).toArray)
  have hK := hE.2.1
  have hbs := hE.2.2.1
  have hown : s.vm.findClass "RobotFaults" = some m.cls := hown
  have hl := lv_entry ([.ref (ad 0 0), .int x, .int y]) (n := 4) (Nat.le_of_ble_eq_true rfl)
  rw [lg_entry_eq]
  generalize (lg_sl ([.ref (ad 0 0), .int x, .int y]) ++ List.replicate (4 - (lg_sl ([.ref (ad 0 0), .int x, .int y])).length) Slot.unset).toArray = ls at hl ⊢
  have hl : lv_has ls 4 [(0, .ref (ad 0 0)), (1, .int x), (2, .int y)] := hl
  refine lv_aload_n hx hb d_RF_known_0 rfl (lv_at hl 0 rfl) ?_
  refine lv_iload_n hx hb d_RF_known_1 rfl (lv_at hl 1 rfl) ?_
  refine os_call (c_RF_faultAt l hlt D cA bs σ ad x hA hF.1) hE hV k_528 k_1 (os_inV (C := "RobotFaults") (n := 1) (bytes := prog_1_method_25_code) (maxL := 3) (ret := (some (.object "RobotFaults$Fault"))) hx hb hown (hts _ k_525) (hts _ k_527) (hts _ k_s12) (hts _ k_528) (by decide +kernel) rfl (os_recv hK hV rfl rfl (hA.n 0 (by decide))) rfl d_RF_known_2) (hl.1.trans hml.symm) (Nat.le_of_ble_eq_true rfl) (Nat.le_of_ble_eq_true rfl) (Nat.le_of_ble_eq_true rfl) (Nat.le_of_ble_eq_true rfl) (Nat.le_of_ble_eq_true rfl) (fun v σ1 ad1 H locs hp hext hV => ?_) (fun E q ce σ1 ad1 H locs hp hext hV hce hcv hcl => ?_)
  · obtain ⟨rfl, rfl, ⟨i_1, hi_2, hx_3, hp⟩ | ⟨hx_3, hp⟩⟩ := hp <;> cases hp
    refine W.eq (g2 := F0 m 5 ls [.ref (ad 10 i_1)]) rfl ?_
    refine lv_astore_n (lv' := [(3, .ref (ad 10 i_1)), (0, .ref (ad 0 0)), (1, .int x), (2, .int y)]) hx hb d_RF_known_5 rfl hl (by decide) rfl (fun ls hl => ?_)
    refine lv_iload_n hx hb d_RF_known_6 rfl (lv_at hl 3 rfl) ?_
    by_cases h_4 : y = 0
    · skip
      refine lv_tableIn (off := 49) (tgt := 56) hx hb d_RF_known_7 (by rw [h_4]; decide) (by rw [h_4]; decide) (by rw [h_4]; rfl) (by decide) ?_
      refine lv_aload_n hx hb d_RF_known_56 rfl (lv_at hl 0 rfl) ?_
      refine os_getN (C := "RobotFaults$Fault") (T := F_Fault) (N := 11) (ci := 4) (K := 10) (j := 1) (i := i_1) (v := .ref (ad 9 (fR σ i_1))) hx hb hts i_Fault hown hK hV rfl rfl (by decide) hi_2 (hts _ k_421) (congrArg (fun z => va_rf (Option.map (ad 9) z)) (hF.2 i_1 hi_2)) d_RF_known_57 ?_
      refine os_getN (C := "RobotFaults$Robot") (T := F_Robot) (N := 6) (ci := 3) (K := 9) (j := 0) (i := (fR σ i_1)) (v := .int (os_g σ 9 0 (fR σ i_1))) hx hb hts i_Robot hown hK hV rfl rfl (by decide) (hV.1.2.2.1 10 i_1 hi_2 1 9 _ rfl (hF.2 i_1 hi_2)) (hts _ k_295) rfl d_RF_known_60 ?_
      refine os_iret hx hb hr hlocks hV (Nat.le_of_ble_eq_true rfl) (Nat.le_of_ble_eq_true rfl) d_RF_known_63 ?_
      exact ⟨rfl, rfl, Or.inr ⟨i_1, ⟨hi_2, hx_3⟩, Or.inr (Or.inl (⟨h_4, rfl⟩))⟩⟩
    by_cases h_5 : y = 1
    · skip
      refine lv_tableIn (off := 57) (tgt := 64) hx hb d_RF_known_7 (by rw [h_5]; decide) (by rw [h_5]; decide) (by rw [h_5]; rfl) (by decide) ?_
      refine lv_aload_n hx hb d_RF_known_64 rfl (lv_at hl 0 rfl) ?_
      refine os_getN (C := "RobotFaults$Fault") (T := F_Fault) (N := 11) (ci := 4) (K := 10) (j := 2) (i := i_1) (v := .int (os_g σ 10 2 i_1)) hx hb hts i_Fault hown hK hV rfl rfl (by decide) hi_2 (hts _ k_424) rfl d_RF_known_65 ?_
      refine os_iret hx hb hr hlocks hV (Nat.le_of_ble_eq_true rfl) (Nat.le_of_ble_eq_true rfl) d_RF_known_68 ?_
      exact ⟨rfl, rfl, Or.inr ⟨i_1, ⟨hi_2, hx_3⟩, Or.inr (Or.inr (Or.inl (⟨h_5, rfl⟩)))⟩⟩
    by_cases h_6 : y = 2
    · skip
      refine lv_tableIn (off := 62) (tgt := 69) hx hb d_RF_known_7 (by rw [h_6]; decide) (by rw [h_6]; decide) (by rw [h_6]; rfl) (by decide) ?_
      refine lv_aload_n hx hb d_RF_known_69 rfl (lv_at hl 0 rfl) ?_
      refine os_getN (C := "RobotFaults$Fault") (T := F_Fault) (N := 11) (ci := 4) (K := 10) (j := 3) (i := i_1) (v := .int (os_g σ 10 3 i_1)) hx hb hts i_Fault hown hK hV rfl rfl (by decide) hi_2 (hts _ k_427) rfl d_RF_known_70 ?_
      refine os_iret hx hb hr hlocks hV (Nat.le_of_ble_eq_true rfl) (Nat.le_of_ble_eq_true rfl) d_RF_known_73 ?_
      exact ⟨rfl, rfl, Or.inr ⟨i_1, ⟨hi_2, hx_3⟩, Or.inr (Or.inr (Or.inr (Or.inl (⟨h_6, rfl⟩))))⟩⟩
    by_cases h_7 : y = 3
    · skip
      refine lv_tableIn (off := 67) (tgt := 74) hx hb d_RF_known_7 (by rw [h_7]; decide) (by rw [h_7]; decide) (by rw [h_7]; rfl) (by decide) ?_
      refine lv_aload_n hx hb d_RF_known_74 rfl (lv_at hl 0 rfl) ?_
      refine os_getN (C := "RobotFaults$Fault") (T := F_Fault) (N := 11) (ci := 4) (K := 10) (j := 10) (i := i_1) (v := .int (os_g σ 10 10 i_1)) hx hb hts i_Fault hown hK hV rfl rfl (by decide) hi_2 (hts _ k_440) rfl d_RF_known_75 ?_
      refine os_iret hx hb hr hlocks hV (Nat.le_of_ble_eq_true rfl) (Nat.le_of_ble_eq_true rfl) d_RF_known_78 ?_
      exact ⟨rfl, rfl, Or.inr ⟨i_1, ⟨hi_2, hx_3⟩, Or.inr (Or.inr (Or.inr (Or.inr (Or.inl (⟨h_7, rfl⟩)))))⟩⟩
    by_cases h_8 : y = 4
    · skip
      refine lv_tableIn (off := 72) (tgt := 79) hx hb d_RF_known_7 (by rw [h_8]; decide) (by rw [h_8]; decide) (by rw [h_8]; rfl) (by decide) ?_
      refine lv_aload_n hx hb d_RF_known_79 rfl (lv_at hl 0 rfl) ?_
      refine os_getN (C := "RobotFaults$Fault") (T := F_Fault) (N := 11) (ci := 4) (K := 10) (j := 8) (i := i_1) (v := .int (os_g σ 10 8 i_1)) hx hb hts i_Fault hown hK hV rfl rfl (by decide) hi_2 (hts _ k_436) rfl d_RF_known_80 ?_
      refine os_iret hx hb hr hlocks hV (Nat.le_of_ble_eq_true rfl) (Nat.le_of_ble_eq_true rfl) d_RF_known_83 ?_
      exact ⟨rfl, rfl, Or.inr ⟨i_1, ⟨hi_2, hx_3⟩, Or.inr (Or.inr (Or.inr (Or.inr (Or.inr (Or.inl (⟨h_8, rfl⟩))))))⟩⟩
    by_cases h_9 : y = 5
    · skip
      refine lv_tableIn (off := 77) (tgt := 84) hx hb d_RF_known_7 (by rw [h_9]; decide) (by rw [h_9]; decide) (by rw [h_9]; rfl) (by decide) ?_
      refine lv_aload_n hx hb d_RF_known_84 rfl (lv_at hl 0 rfl) ?_
      refine os_getN (C := "RobotFaults$Fault") (T := F_Fault) (N := 11) (ci := 4) (K := 10) (j := 9) (i := i_1) (v := .int (os_g σ 10 9 i_1)) hx hb hts i_Fault hown hK hV rfl rfl (by decide) hi_2 (hts _ k_438) rfl d_RF_known_85 ?_
      refine os_iret hx hb hr hlocks hV (Nat.le_of_ble_eq_true rfl) (Nat.le_of_ble_eq_true rfl) d_RF_known_88 ?_
      exact ⟨rfl, rfl, Or.inr ⟨i_1, ⟨hi_2, hx_3⟩, Or.inr (Or.inr (Or.inr (Or.inr (Or.inr (Or.inr (Or.inl (⟨h_9, rfl⟩)))))))⟩⟩
    by_cases h_10 : y = 6
    · skip
      refine lv_tableIn (off := 82) (tgt := 89) hx hb d_RF_known_7 (by rw [h_10]; decide) (by rw [h_10]; decide) (by rw [h_10]; rfl) (by decide) ?_
      refine lv_aload_n hx hb d_RF_known_89 rfl (lv_at hl 0 rfl) ?_
      refine os_getN (C := "RobotFaults$Fault") (T := F_Fault) (N := 11) (ci := 4) (K := 10) (j := 5) (i := i_1) (v := .int (os_g σ 10 5 i_1)) hx hb hts i_Fault hown hK hV rfl rfl (by decide) hi_2 (hts _ k_430) rfl d_RF_known_90 ?_
      refine lv_if_eq (tgt := 100) hx hb d_RF_known_93 (by decide) (fun c_11 => ?_) (fun c_11 => ?_)
      · skip
        refine lv_iconst (v := 0) hx hb d_RF_known_100 (by decide) ?_
        refine os_iret hx hb hr hlocks hV (Nat.le_of_ble_eq_true rfl) (Nat.le_of_ble_eq_true rfl) d_RF_known_101 ?_
        exact ⟨rfl, rfl, Or.inr ⟨i_1, ⟨hi_2, hx_3⟩, Or.inr (Or.inr (Or.inr (Or.inr (Or.inr (Or.inr (Or.inr (Or.inl (⟨h_10, by rw [show os_g σ 10 5 i_1 = 0 from c_11]⟩))))))))⟩⟩
      · skip
        refine lv_iconst (v := 1) hx hb d_RF_known_96 (by decide) ?_
        refine lv_goto (tgt := 101) hx hb d_RF_known_97 (by decide) ?_
        refine os_iret hx hb hr hlocks hV (Nat.le_of_ble_eq_true rfl) (Nat.le_of_ble_eq_true rfl) d_RF_known_101 ?_
        exact ⟨rfl, rfl, Or.inr ⟨i_1, ⟨hi_2, hx_3⟩, Or.inr (Or.inr (Or.inr (Or.inr (Or.inr (Or.inr (Or.inr (Or.inl (⟨h_10, by rw [show os_g σ 10 5 i_1 = 1 from (hBF i_1 hi_2).resolve_left c_11]⟩))))))))⟩⟩
    by_cases h_12 : y = 7
    · skip
      refine lv_tableIn (off := 95) (tgt := 102) hx hb d_RF_known_7 (by rw [h_12]; decide) (by rw [h_12]; decide) (by rw [h_12]; rfl) (by decide) ?_
      refine lv_aload_n hx hb d_RF_known_102 rfl (lv_at hl 0 rfl) ?_
      refine os_getN (C := "RobotFaults$Fault") (T := F_Fault) (N := 11) (ci := 4) (K := 10) (j := 6) (i := i_1) (v := .int (os_g σ 10 6 i_1)) hx hb hts i_Fault hown hK hV rfl rfl (by decide) hi_2 (hts _ k_432) rfl d_RF_known_103 ?_
      refine os_iret hx hb hr hlocks hV (Nat.le_of_ble_eq_true rfl) (Nat.le_of_ble_eq_true rfl) d_RF_known_106 ?_
      exact ⟨rfl, rfl, Or.inr ⟨i_1, ⟨hi_2, hx_3⟩, Or.inr (Or.inr (Or.inr (Or.inr (Or.inr (Or.inr (Or.inr (Or.inr (Or.inl (⟨h_12, rfl⟩)))))))))⟩⟩
    by_cases h_13 : y = 8
    · skip
      refine lv_tableIn (off := 100) (tgt := 107) hx hb d_RF_known_7 (by rw [h_13]; decide) (by rw [h_13]; decide) (by rw [h_13]; rfl) (by decide) ?_
      refine lv_aload_n hx hb d_RF_known_107 rfl (lv_at hl 0 rfl) ?_
      refine os_getN (C := "RobotFaults$Fault") (T := F_Fault) (N := 11) (ci := 4) (K := 10) (j := 7) (i := i_1) (v := .int (os_g σ 10 7 i_1)) hx hb hts i_Fault hown hK hV rfl rfl (by decide) hi_2 (hts _ k_434) rfl d_RF_known_108 ?_
      refine os_iret hx hb hr hlocks hV (Nat.le_of_ble_eq_true rfl) (Nat.le_of_ble_eq_true rfl) d_RF_known_111 ?_
      exact ⟨rfl, rfl, Or.inr ⟨i_1, ⟨hi_2, hx_3⟩, Or.inr (Or.inr (Or.inr (Or.inr (Or.inr (Or.inr (Or.inr (Or.inr (Or.inr (⟨h_13, rfl⟩)))))))))⟩⟩
    refine lv_tableOut (tgt := 112) hx hb d_RF_known_7 (tsOut (n := 9) (fun k hk => by rcases (show k = 0 ∨ k = 1 ∨ k = 2 ∨ k = 3 ∨ k = 4 ∨ k = 5 ∨ k = 6 ∨ k = 7 ∨ k = 8 by omega) with rfl | rfl | rfl | rfl | rfl | rfl | rfl | rfl | rfl <;> assumption)) (by decide) ?_
    refine os_throwW (own := "RobotFaults") (cls := "java/lang/IllegalArgumentException") (text := "of a fault 0 to 8 is asked") (names := ["java/lang/RuntimeException", "java/lang/Exception"]) hx hb hlt hown (by decide) (by decide) hE hV k_261 k_10 (by decide +kernel) th_IllegalArgumentException (hl.1.trans hml.symm) d_RF_known_112 d_RF_known_115 d_RF_known_116 d_RF_known_119 d_RF_known_122 hout hlocks (Nat.le_of_ble_eq_true rfl) (Nat.le_of_ble_eq_true rfl) (Nat.le_of_ble_eq_true rfl) (Nat.le_of_ble_eq_true rfl) (Nat.le_of_ble_eq_true rfl) (Nat.le_of_ble_eq_true rfl) ?_
    exact ⟨rfl, rfl, Or.inr ⟨i_1, ⟨hi_2, hx_3⟩, Or.inl ⟨fun k hk => by rcases (show k = 0 ∨ k = 1 ∨ k = 2 ∨ k = 3 ∨ k = 4 ∨ k = 5 ∨ k = 6 ∨ k = 7 ∨ k = 8 by omega) with rfl | rfl | rfl | rfl | rfl | rfl | rfl | rfl | rfl <;> assumption, rfl⟩⟩⟩
  · obtain ⟨rfl, rfl, ⟨i_1, hi_2, hx_3, hp⟩ | ⟨hx_3, hp⟩⟩ := hp <;> cases hp
    refine os_out hout hlocks hV hce hcv hcl (Nat.le_of_ble_eq_true rfl) (Nat.le_of_ble_eq_true rfl) ?_
    exact ⟨rfl, rfl, Or.inl ⟨hx_3, rfl⟩⟩
def q_told (σ : os_S) (ad : Nat → Nat → Nat) (x y : Int32) : os_O → os_S → (Nat → Nat → Nat) → Prop := fun r σ' ad' => ad = ad' ∧ σ = σ' ∧ ((noR σ x ∧ r = .inr "java/util/NoSuchElementException") ∨ ∃ i, isR σ x i ∧ (((∀ k, k < 5 → ¬ y = nI k) ∧ r = .inr "java/lang/IllegalArgumentException") ∨ (y = 0 ∧ r = .inl (some (.int (os_g σ 9 2 i)))) ∨ (y = 1 ∧ r = .inl (some (.int (os_g σ 9 1 i)))) ∨ (y = 2 ∧ r = .inl (some (.int (os_g σ 9 3 i)))) ∨ (y = 3 ∧ r = .inl (some (.int (okF σ i 40)))) ∨ (y = 4 ∧ r = .inl (some (.int (os_g σ 9 4 i))))))
set_option maxHeartbeats 4000000 in
set_option maxRecDepth 100000 in
theorem c_RF_told (l : Launch) (hlt : l.stackTraces = false) (D : va_G) (cA : Nat → ClassId) (bs : Nat) (σ : os_S) (ad : Nat → Nat → Nat) (x y : Int32) (hA : rfA σ) (hR : rfS σ 4 9 8 6) (hF : rfF σ) (hBR : ∀ i, i < os_n σ 9 → os_g σ 9 4 i = 0 ∨ os_g σ 9 4 i = 1) : os_Met l y_RF_told prog_1_method_20_code 4 (some .int) { frames := 7, cells := 2, slots := 12, locals := 118 } D cA bs [.ref (ad 0 0), .int x, .int y] σ ad (q_told σ ad x y) := by
  refine os_ofW (by decide) ?_
  intro p e s m below meth c hx hb hr hml hown hlocks hmn hout hE hV
  have hts := hE.hts (args := ([.ref (ad 0 0), .int x, .int y] : List Value).toArray)
  have hK := hE.2.1
  have hbs := hE.2.2.1
  have hown : s.vm.findClass "RobotFaults" = some m.cls := hown
  have hl := lv_entry ([.ref (ad 0 0), .int x, .int y]) (n := 4) (Nat.le_of_ble_eq_true rfl)
  rw [lg_entry_eq]
  generalize (lg_sl ([.ref (ad 0 0), .int x, .int y]) ++ List.replicate (4 - (lg_sl ([.ref (ad 0 0), .int x, .int y])).length) Slot.unset).toArray = ls at hl ⊢
  have hl : lv_has ls 4 [(0, .ref (ad 0 0)), (1, .int x), (2, .int y)] := hl
  refine lv_aload_n hx hb d_RF_told_0 rfl (lv_at hl 0 rfl) ?_
  refine lv_iload_n hx hb d_RF_told_1 rfl (lv_at hl 1 rfl) ?_
  refine os_call (c_RF_robotAt l hlt D cA bs σ ad x hA hR) hE hV k_349 k_1 (os_inV (C := "RobotFaults") (n := 1) (bytes := prog_1_method_24_code) (maxL := 3) (ret := (some (.object "RobotFaults$Robot"))) hx hb hown (hts _ k_346) (hts _ k_348) (hts _ k_s5) (hts _ k_349) (by decide +kernel) rfl (os_recv hK hV rfl rfl (hA.n 0 (by decide))) rfl d_RF_told_2) (hl.1.trans hml.symm) (Nat.le_of_ble_eq_true rfl) (Nat.le_of_ble_eq_true rfl) (Nat.le_of_ble_eq_true rfl) (Nat.le_of_ble_eq_true rfl) (Nat.le_of_ble_eq_true rfl) (fun v σ1 ad1 H locs hp hext hV => ?_) (fun E q ce σ1 ad1 H locs hp hext hV hce hcv hcl => ?_)
  · obtain ⟨rfl, rfl, ⟨i_1, hi_2, hx_3, hp⟩ | ⟨hx_3, hp⟩⟩ := hp <;> cases hp
    refine W.eq (g2 := F0 m 5 ls [.ref (ad 9 i_1)]) rfl ?_
    refine lv_astore_n (lv' := [(3, .ref (ad 9 i_1)), (0, .ref (ad 0 0)), (1, .int x), (2, .int y)]) hx hb d_RF_told_5 rfl hl (by decide) rfl (fun ls hl => ?_)
    refine lv_iload_n hx hb d_RF_told_6 rfl (lv_at hl 3 rfl) ?_
    by_cases h_4 : y = 0
    · skip
      refine lv_tableIn (off := 33) (tgt := 40) hx hb d_RF_told_7 (by rw [h_4]; decide) (by rw [h_4]; decide) (by rw [h_4]; rfl) (by decide) ?_
      refine lv_aload_n hx hb d_RF_told_40 rfl (lv_at hl 0 rfl) ?_
      refine os_getN (C := "RobotFaults$Robot") (T := F_Robot) (N := 6) (ci := 3) (K := 9) (j := 2) (i := i_1) (v := .int (os_g σ 9 2 i_1)) hx hb hts i_Robot hown hK hV rfl rfl (by decide) hi_2 (hts _ k_300) rfl d_RF_told_41 ?_
      refine os_iret hx hb hr hlocks hV (Nat.le_of_ble_eq_true rfl) (Nat.le_of_ble_eq_true rfl) d_RF_told_44 ?_
      exact ⟨rfl, rfl, Or.inr ⟨i_1, ⟨hi_2, hx_3⟩, Or.inr (Or.inl (⟨h_4, rfl⟩))⟩⟩
    by_cases h_5 : y = 1
    · skip
      refine lv_tableIn (off := 38) (tgt := 45) hx hb d_RF_told_7 (by rw [h_5]; decide) (by rw [h_5]; decide) (by rw [h_5]; rfl) (by decide) ?_
      refine lv_aload_n hx hb d_RF_told_45 rfl (lv_at hl 0 rfl) ?_
      refine os_getN (C := "RobotFaults$Robot") (T := F_Robot) (N := 6) (ci := 3) (K := 9) (j := 1) (i := i_1) (v := .int (os_g σ 9 1 i_1)) hx hb hts i_Robot hown hK hV rfl rfl (by decide) hi_2 (hts _ k_298) rfl d_RF_told_46 ?_
      refine os_iret hx hb hr hlocks hV (Nat.le_of_ble_eq_true rfl) (Nat.le_of_ble_eq_true rfl) d_RF_told_49 ?_
      exact ⟨rfl, rfl, Or.inr ⟨i_1, ⟨hi_2, hx_3⟩, Or.inr (Or.inr (Or.inl (⟨h_5, rfl⟩)))⟩⟩
    by_cases h_6 : y = 2
    · skip
      refine lv_tableIn (off := 43) (tgt := 50) hx hb d_RF_told_7 (by rw [h_6]; decide) (by rw [h_6]; decide) (by rw [h_6]; rfl) (by decide) ?_
      refine lv_aload_n hx hb d_RF_told_50 rfl (lv_at hl 0 rfl) ?_
      refine os_getN (C := "RobotFaults$Robot") (T := F_Robot) (N := 6) (ci := 3) (K := 9) (j := 3) (i := i_1) (v := .int (os_g σ 9 3 i_1)) hx hb hts i_Robot hown hK hV rfl rfl (by decide) hi_2 (hts _ k_303) rfl d_RF_told_51 ?_
      refine os_iret hx hb hr hlocks hV (Nat.le_of_ble_eq_true rfl) (Nat.le_of_ble_eq_true rfl) d_RF_told_54 ?_
      exact ⟨rfl, rfl, Or.inr ⟨i_1, ⟨hi_2, hx_3⟩, Or.inr (Or.inr (Or.inr (Or.inl (⟨h_6, rfl⟩))))⟩⟩
    by_cases h_7 : y = 3
    · skip
      refine lv_tableIn (off := 48) (tgt := 55) hx hb d_RF_told_7 (by rw [h_7]; decide) (by rw [h_7]; decide) (by rw [h_7]; rfl) (by decide) ?_
      refine lv_aload_n hx hb d_RF_told_55 rfl (lv_at hl 1 rfl) ?_
      refine lv_aload_n hx hb d_RF_told_56 rfl (lv_at hl 0 rfl) ?_
      refine os_call (c_RF_openKinds l hlt D cA bs σ ad i_1 hA hF hi_2) hE hV k_557 k_1 (os_inV (C := "RobotFaults") (n := 1) (bytes := prog_1_method_38_code) (maxL := 7) (ret := (some .int)) hx hb hown (hts _ k_554) (hts _ k_556) (hts _ k_s13) (hts _ k_557) (by decide +kernel) rfl (os_recv hK hV rfl rfl (hA.n 0 (by decide))) rfl d_RF_told_57) (hl.1.trans hml.symm) (Nat.le_of_ble_eq_true rfl) (Nat.le_of_ble_eq_true rfl) (Nat.le_of_ble_eq_true rfl) (Nat.le_of_ble_eq_true rfl) (Nat.le_of_ble_eq_true rfl) (fun v σ1 ad1 H locs hp hext hV => ?_) (fun E q ce σ1 ad1 H locs hp hext hV hce hcv hcl => ?_)
      · obtain ⟨rfl, rfl, hp⟩ := hp
        cases hp
        refine W.eq (g2 := F0 m 60 ls [.int (okF σ i_1 40)]) rfl ?_
        refine os_iret hx hb hr hlocks hV (Nat.le_of_ble_eq_true rfl) (Nat.le_of_ble_eq_true rfl) d_RF_told_60 ?_
        exact ⟨rfl, rfl, Or.inr ⟨i_1, ⟨hi_2, hx_3⟩, Or.inr (Or.inr (Or.inr (Or.inr (Or.inl (⟨h_7, rfl⟩)))))⟩⟩
      · exact absurd hp.2.2 (fun h => by cases h)
    by_cases h_8 : y = 4
    · skip
      refine lv_tableIn (off := 54) (tgt := 61) hx hb d_RF_told_7 (by rw [h_8]; decide) (by rw [h_8]; decide) (by rw [h_8]; rfl) (by decide) ?_
      refine lv_aload_n hx hb d_RF_told_61 rfl (lv_at hl 0 rfl) ?_
      refine os_getN (C := "RobotFaults$Robot") (T := F_Robot) (N := 6) (ci := 3) (K := 9) (j := 4) (i := i_1) (v := .int (os_g σ 9 4 i_1)) hx hb hts i_Robot hown hK hV rfl rfl (by decide) hi_2 (hts _ k_305) rfl d_RF_told_62 ?_
      refine lv_if_eq (tgt := 72) hx hb d_RF_told_65 (by decide) (fun c_9 => ?_) (fun c_9 => ?_)
      · skip
        refine lv_iconst (v := 0) hx hb d_RF_told_72 (by decide) ?_
        refine os_iret hx hb hr hlocks hV (Nat.le_of_ble_eq_true rfl) (Nat.le_of_ble_eq_true rfl) d_RF_told_73 ?_
        exact ⟨rfl, rfl, Or.inr ⟨i_1, ⟨hi_2, hx_3⟩, Or.inr (Or.inr (Or.inr (Or.inr (Or.inr (⟨h_8, by rw [show os_g σ 9 4 i_1 = 0 from c_9]⟩)))))⟩⟩
      · skip
        refine lv_iconst (v := 1) hx hb d_RF_told_68 (by decide) ?_
        refine lv_goto (tgt := 73) hx hb d_RF_told_69 (by decide) ?_
        refine os_iret hx hb hr hlocks hV (Nat.le_of_ble_eq_true rfl) (Nat.le_of_ble_eq_true rfl) d_RF_told_73 ?_
        exact ⟨rfl, rfl, Or.inr ⟨i_1, ⟨hi_2, hx_3⟩, Or.inr (Or.inr (Or.inr (Or.inr (Or.inr (⟨h_8, by rw [show os_g σ 9 4 i_1 = 1 from (hBR i_1 hi_2).resolve_left c_9]⟩)))))⟩⟩
    refine lv_tableOut (tgt := 74) hx hb d_RF_told_7 (tsOut (n := 5) (fun k hk => by rcases (show k = 0 ∨ k = 1 ∨ k = 2 ∨ k = 3 ∨ k = 4 by omega) with rfl | rfl | rfl | rfl | rfl <;> assumption)) (by decide) ?_
    refine os_throwW (own := "RobotFaults") (cls := "java/lang/IllegalArgumentException") (text := "of a robot 0 to 4 is asked") (names := ["java/lang/RuntimeException", "java/lang/Exception"]) hx hb hlt hown (by decide) (by decide) hE hV k_261 k_10 (by decide +kernel) th_IllegalArgumentException (hl.1.trans hml.symm) d_RF_told_74 d_RF_told_77 d_RF_told_78 d_RF_told_81 d_RF_told_84 hout hlocks (Nat.le_of_ble_eq_true rfl) (Nat.le_of_ble_eq_true rfl) (Nat.le_of_ble_eq_true rfl) (Nat.le_of_ble_eq_true rfl) (Nat.le_of_ble_eq_true rfl) (Nat.le_of_ble_eq_true rfl) ?_
    exact ⟨rfl, rfl, Or.inr ⟨i_1, ⟨hi_2, hx_3⟩, Or.inl ⟨fun k hk => by rcases (show k = 0 ∨ k = 1 ∨ k = 2 ∨ k = 3 ∨ k = 4 by omega) with rfl | rfl | rfl | rfl | rfl <;> assumption, rfl⟩⟩⟩
  · obtain ⟨rfl, rfl, ⟨i_1, hi_2, hx_3, hp⟩ | ⟨hx_3, hp⟩⟩ := hp <;> cases hp
    refine os_out hout hlocks hV hce hcv hcl (Nat.le_of_ble_eq_true rfl) (Nat.le_of_ble_eq_true rfl) ?_
    exact ⟨rfl, rfl, Or.inl ⟨hx_3, rfl⟩⟩
