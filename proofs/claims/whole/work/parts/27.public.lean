/-! PUBLIC METHODS without loops of their own -/
/-- piece(): a piece more, or no room -/
def q_piece (σ : os_S) (ad : Nat → Nat → Nat) : os_O → os_S → (Nat → Nat → Nat) → Prop := fun r σ' ad' => ad = ad' ∧ ((20 ≤ os_g σ 1 1 0 ∧ σ = σ' ∧ r = .inr "java/lang/UnsupportedOperationException") ∨ (¬ 20 ≤ os_g σ 1 1 0 ∧ os_sg σ 1 1 0 (os_g σ 1 1 0 + 1) = σ' ∧ r = .inl (some (.int (os_g σ 1 1 0)))))
set_option maxHeartbeats 4000000 in
set_option maxRecDepth 100000 in
theorem c_RF_piece (l : Launch) (hlt : l.stackTraces = false) (D : va_G) (cA : Nat → ClassId) (bs : Nat) (σ : os_S) (ad : Nat → Nat → Nat) (hA : rfA σ) : os_Met l y_RF_piece prog_1_method_2_code 1 (some .int) { frames := 6, cells := 1, slots := 6, locals := 96 } D cA bs [.ref (ad 0 0)] σ ad (q_piece σ ad) := by
  refine os_ofW (by decide) ?_
  intro p e s m below meth c hx hb hr hml hown hlocks hmn hout hE hV
  have hts := hE.hts (args := ([.ref (ad 0 0)] : List Value).toArray)
  have hK := hE.2.1
  have hbs := hE.2.2.1
  have hown : s.vm.findClass "RobotFaults" = some m.cls := hown
  have hl := lv_entry ([.ref (ad 0 0)]) (n := 1) (Nat.le_of_ble_eq_true rfl)
  rw [lg_entry_eq]
  generalize (lg_sl ([.ref (ad 0 0)]) ++ List.replicate (1 - (lg_sl ([.ref (ad 0 0)])).length) Slot.unset).toArray = ls at hl ⊢
  have hl : lv_has ls 1 [(0, .ref (ad 0 0))] := hl
  refine lv_aload_n hx hb d_RF_piece_0 rfl (lv_at hl 0 rfl) ?_
  refine os_get (C := "RobotFaults") (T := F_RF) (N := 11) (ci := 0) (K := 0) (j := 0) (i := 0) (v := .ref (ad 1 0)) hx hb hts i_RF hown hK hV rfl rfl (by decide) (hA.n 0 (by decide)) (hts _ k_68) (congrArg (fun z => va_rf (Option.map (ad 1) z)) (hA.r 0 (by decide))) d_RF_piece_1 ?_
  refine os_call (c_Track_isFull l hlt D cA bs σ ad hA) hE hV k_154 k_2 (os_inV (C := "RobotFaults$Track") (n := 0) (bytes := prog_7_method_3_code) (maxL := 1) (ret := (some .boolean)) hx hb hown (hts _ k_151) (hts _ k_152) (hts _ k_153) (hts _ k_154) (by decide +kernel) rfl (os_recv hK hV rfl rfl (hA.n 1 (by decide))) rfl d_RF_piece_4) (hl.1.trans hml.symm) (Nat.le_of_ble_eq_true rfl) (Nat.le_of_ble_eq_true rfl) (Nat.le_of_ble_eq_true rfl) (Nat.le_of_ble_eq_true rfl) (Nat.le_of_ble_eq_true rfl) (fun v σ1 ad1 H locs hp hext hV => ?_) (fun E q ce σ1 ad1 H locs hp hext hV hce hcv hcl => ?_)
  · obtain ⟨rfl, rfl, hp⟩ := hp
    cases hp
    refine W.eq (g2 := F0 m 7 ls [.int (bz (decide (20 ≤ os_g σ 1 1 0)))]) rfl ?_
    refine lv_if_eq (tgt := 20) hx hb d_RF_piece_7 (by decide) (fun c_1 => ?_) (fun c_1 => ?_)
    · skip
      refine lv_aload_n hx hb d_RF_piece_20 rfl (lv_at hl 0 rfl) ?_
      refine os_get (C := "RobotFaults") (T := F_RF) (N := 11) (ci := 0) (K := 0) (j := 0) (i := 0) (v := .ref (ad 1 0)) hx hb hts i_RF hown hK hV rfl rfl (by decide) (hA.n 0 (by decide)) (hts _ k_68) (congrArg (fun z => va_rf (Option.map (ad 1) z)) (hA.r 0 (by decide))) d_RF_piece_21 ?_
      refine os_call (c_Track_add l hlt D cA bs σ ad hA) hE hV k_227 k_2 (os_inV (C := "RobotFaults$Track") (n := 0) (bytes := prog_7_method_5_code) (maxL := 2) (ret := (some .int)) hx hb hown (hts _ k_224) (hts _ k_225) (hts _ k_226) (hts _ k_227) (by decide +kernel) rfl (os_recv hK hV rfl rfl (hA.n 1 (by decide))) rfl d_RF_piece_24) (hl.1.trans hml.symm) (Nat.le_of_ble_eq_true rfl) (Nat.le_of_ble_eq_true rfl) (Nat.le_of_ble_eq_true rfl) (Nat.le_of_ble_eq_true rfl) (Nat.le_of_ble_eq_true rfl) (fun v σ1 ad1 H locs hp hext hV => ?_) (fun E q ce σ1 ad1 H locs hp hext hV hce hcv hcl => ?_)
      · obtain ⟨rfl, rfl, hp⟩ := hp
        cases hp
        refine W.eq (g2 := F0 m 27 ls [.int (os_g σ 1 1 0)]) rfl ?_
        refine os_iret hx hb hr hlocks hV (Nat.le_of_ble_eq_true rfl) (Nat.le_of_ble_eq_true rfl) d_RF_piece_27 ?_
        exact ⟨rfl, Or.inr ⟨of_decide_eq_false (bz_0 c_1), rfl, rfl⟩⟩
      · exact absurd hp.2.2 (fun h => by cases h)
    · skip
      refine os_throw (own := "RobotFaults") (cls := "java/lang/UnsupportedOperationException") (text := "no room for another piece") (names := ["java/lang/RuntimeException", "java/lang/Exception"]) hx hb hlt hown (by decide) (by decide) hE hV k_155 k_8 (by decide +kernel) th_UnsupportedOperationException (hl.1.trans hml.symm) d_RF_piece_10 d_RF_piece_13 d_RF_piece_14 d_RF_piece_16 d_RF_piece_19 hout hlocks (Nat.le_of_ble_eq_true rfl) (Nat.le_of_ble_eq_true rfl) (Nat.le_of_ble_eq_true rfl) (Nat.le_of_ble_eq_true rfl) (Nat.le_of_ble_eq_true rfl) (Nat.le_of_ble_eq_true rfl) ?_
      exact ⟨rfl, Or.inl ⟨of_decide_eq_true (bz_1 c_1), rfl, rfl⟩⟩
  · exact absurd hp.2.2 (fun h => by cases h)
def isP (σ : os_S) (x : Int32) : Prop := ¬ x < 0 ∧ ¬ os_g σ 1 1 0 ≤ x
theorem isP.n {σ : os_S} {x : Int32} (h : isP σ x) (hz : ∃ z, z ≤ 20 ∧ os_g σ 1 1 0 = nI z) : ∃ n, n < 20 ∧ x = nI n := by
  obtain ⟨z, hz, e⟩ := hz
  obtain ⟨n, hn, rfl⟩ := rng (M := os_g σ 1 1 0) (N := z) e (by omega) h.1 h.2
  exact ⟨n, by omega, rfl⟩
/-- two pieces get linked -/
def sLink (σ : os_S) (a b : Nat) : os_S := os_sg (os_sg σ 2 a 0 (os_g σ 2 a 0 ||| (1 : Int32) <<< (nI b &&& 31))) 2 b 0 (os_g (os_sg σ 2 a 0 (os_g σ 2 a 0 ||| (1 : Int32) <<< (nI b &&& 31))) 2 b 0 ||| (1 : Int32) <<< (nI a &&& 31))
def q_link (σ : os_S) (ad : Nat → Nat → Nat) (x y : Int32) : os_O → os_S → (Nat → Nat → Nat) → Prop := fun r σ' ad' => ad = ad' ∧ ((¬ (isP σ x ∧ isP σ y) ∧ σ = σ' ∧ r = .inr "java/util/NoSuchElementException") ∨ (isP σ x ∧ isP σ y ∧ x = y ∧ σ = σ' ∧ r = .inr "java/lang/IllegalArgumentException") ∨ (isP σ x ∧ isP σ y ∧ ¬ x = y ∧ r = .inl none ∧ ∃ a b, a < 20 ∧ b < 20 ∧ x = nI a ∧ y = nI b ∧ sLink σ a b = σ'))
set_option maxHeartbeats 4000000 in
set_option maxRecDepth 100000 in
theorem c_RF_link (l : Launch) (hlt : l.stackTraces = false) (D : va_G) (cA : Nat → ClassId) (bs : Nat) (σ : os_S) (ad : Nat → Nat → Nat) (x y : Int32) (hA : rfA σ) (hP : ∃ z, z ≤ 20 ∧ os_g σ 1 1 0 = nI z) : os_Met l y_RF_link prog_1_method_3_code 3 none { frames := 7, cells := 3, slots := 18, locals := 117 } D cA bs [.ref (ad 0 0), .int x, .int y] σ ad (q_link σ ad x y) := by
  refine os_ofW (by decide) ?_
  intro p e s m below meth c hx hb hr hml hown hlocks hmn hout hE hV
  have hts := hE.hts (args := ([.ref (ad 0 0), .int x, .int y] : List Value).toArray)
  have hK := hE.2.1
  have hbs := hE.2.2.1
  have hown : s.vm.findClass "RobotFaults" = some m.cls := hown
  have hl := lv_entry ([.ref (ad 0 0), .int x, .int y]) (n := 3) (Nat.le_of_ble_eq_true rfl)
  rw [lg_entry_eq]
  generalize (lg_sl ([.ref (ad 0 0), .int x, .int y]) ++ List.replicate (3 - (lg_sl ([.ref (ad 0 0), .int x, .int y])).length) Slot.unset).toArray = ls at hl ⊢
  have hl : lv_has ls 3 [(0, .ref (ad 0 0)), (1, .int x), (2, .int y)] := hl
  refine lv_aload_n hx hb d_RF_link_0 rfl (lv_at hl 0 rfl) ?_
  refine lv_iload_n hx hb d_RF_link_1 rfl (lv_at hl 1 rfl) ?_
  refine os_call (c_RF_needPiece l hlt D cA bs σ ad x hA) hE hV k_240 k_1 (os_inV (C := "RobotFaults") (n := 1) (bytes := prog_1_method_23_code) (maxL := 2) (ret := none) hx hb hown (hts _ k_237) (hts _ k_239) (hts _ k_s4) (hts _ k_240) (by decide +kernel) rfl (os_recv hK hV rfl rfl (hA.n 0 (by decide))) rfl d_RF_link_2) (hl.1.trans hml.symm) (Nat.le_of_ble_eq_true rfl) (Nat.le_of_ble_eq_true rfl) (Nat.le_of_ble_eq_true rfl) (Nat.le_of_ble_eq_true rfl) (Nat.le_of_ble_eq_true rfl) (fun v σ1 ad1 H locs hp hext hV => ?_) (fun E q ce σ1 ad1 H locs hp hext hV hce hcv hcl => ?_)
  · obtain ⟨rfl, rfl, ⟨g_1, hp⟩ | ⟨g_1, hp⟩⟩ := hp <;> cases hp
    refine W.eq (g2 := F0 m 5 ls []) rfl ?_
    refine lv_aload_n hx hb d_RF_link_5 rfl (lv_at hl 0 rfl) ?_
    refine lv_iload_n hx hb d_RF_link_6 rfl (lv_at hl 2 rfl) ?_
    refine os_call (c_RF_needPiece l hlt D cA bs σ ad y hA) hE hV k_240 k_1 (os_inV (C := "RobotFaults") (n := 1) (bytes := prog_1_method_23_code) (maxL := 2) (ret := none) hx hb hown (hts _ k_237) (hts _ k_239) (hts _ k_s4) (hts _ k_240) (by decide +kernel) rfl (os_recv hK hV rfl rfl (hA.n 0 (by decide))) rfl d_RF_link_7) (hl.1.trans hml.symm) (Nat.le_of_ble_eq_true rfl) (Nat.le_of_ble_eq_true rfl) (Nat.le_of_ble_eq_true rfl) (Nat.le_of_ble_eq_true rfl) (Nat.le_of_ble_eq_true rfl) (fun v σ1 ad1 H locs hp hext hV => ?_) (fun E q ce σ1 ad1 H locs hp hext hV hce hcv hcl => ?_)
    · obtain ⟨rfl, rfl, ⟨g_2, hp⟩ | ⟨g_2, hp⟩⟩ := hp <;> cases hp
      refine W.eq (g2 := F0 m 10 ls []) rfl ?_
      refine lv_iload_n hx hb d_RF_link_10 rfl (lv_at hl 1 rfl) ?_
      refine lv_iload_n hx hb d_RF_link_11 rfl (lv_at hl 2 rfl) ?_
      refine lv_icmp_ne (tgt := 25) hx hb d_RF_link_12 (by decide) (fun c_3 => ?_) (fun c_3 => ?_)
      · skip
        refine lv_aload_n hx hb d_RF_link_25 rfl (lv_at hl 0 rfl) ?_
        refine os_get (C := "RobotFaults") (T := F_RF) (N := 11) (ci := 0) (K := 0) (j := 0) (i := 0) (v := .ref (ad 1 0)) hx hb hts i_RF hown hK hV rfl rfl (by decide) (hA.n 0 (by decide)) (hts _ k_68) (congrArg (fun z => va_rf (Option.map (ad 1) z)) (hA.r 0 (by decide))) d_RF_link_26 ?_
        refine lv_iload_n hx hb d_RF_link_29 rfl (lv_at hl 1 rfl) ?_
        refine lv_iload_n hx hb d_RF_link_30 rfl (lv_at hl 2 rfl) ?_
        obtain ⟨na, ha, rfl⟩ := isP.n (σ := σ) g_1 hP
        obtain ⟨nb, hb2, rfl⟩ := isP.n (σ := σ) g_2 hP
        refine os_call (c_Track_connect l hlt D cA bs σ ad na nb hA ha hb2) hE hV k_280 k_2 (os_inV (C := "RobotFaults$Track") (n := 2) (bytes := prog_7_method_6_code) (maxL := 3) (ret := none) hx hb hown (hts _ k_277) (hts _ k_278) (hts _ k_279) (hts _ k_280) (by decide +kernel) rfl (os_recv hK hV rfl rfl (hA.n 1 (by decide))) rfl d_RF_link_31) (hl.1.trans hml.symm) (Nat.le_of_ble_eq_true rfl) (Nat.le_of_ble_eq_true rfl) (Nat.le_of_ble_eq_true rfl) (Nat.le_of_ble_eq_true rfl) (Nat.le_of_ble_eq_true rfl) (fun v σ1 ad1 H locs hp hext hV => ?_) (fun E q ce σ1 ad1 H locs hp hext hV hce hcv hcl => ?_)
        · obtain ⟨rfl, rfl, hp⟩ := hp
          cases hp
          refine W.eq (g2 := F0 m 34 ls []) rfl ?_
          refine os_vret hx hb hr hlocks hV (Nat.le_of_ble_eq_true rfl) (Nat.le_of_ble_eq_true rfl) d_RF_link_34 ?_
          exact ⟨rfl, Or.inr (Or.inr ⟨g_1, g_2, c_3, rfl, na, nb, ha, hb2, rfl, rfl, rfl⟩)⟩
        · exact absurd hp.2.2 (fun h => by cases h)
      · skip
        refine os_throw (own := "RobotFaults") (cls := "java/lang/IllegalArgumentException") (text := "a piece is not linked with itself") (names := ["java/lang/RuntimeException", "java/lang/Exception"]) hx hb hlt hown (by decide) (by decide) hE hV k_261 k_10 (by decide +kernel) th_IllegalArgumentException (hl.1.trans hml.symm) d_RF_link_15 d_RF_link_18 d_RF_link_19 d_RF_link_21 d_RF_link_24 hout hlocks (Nat.le_of_ble_eq_true rfl) (Nat.le_of_ble_eq_true rfl) (Nat.le_of_ble_eq_true rfl) (Nat.le_of_ble_eq_true rfl) (Nat.le_of_ble_eq_true rfl) (Nat.le_of_ble_eq_true rfl) ?_
        exact ⟨rfl, Or.inr (Or.inl ⟨g_1, g_2, c_3, rfl, rfl⟩)⟩
    · obtain ⟨rfl, rfl, ⟨g_2, hp⟩ | ⟨g_2, hp⟩⟩ := hp <;> cases hp
      refine os_out hout hlocks hV hce hcv hcl (Nat.le_of_ble_eq_true rfl) (Nat.le_of_ble_eq_true rfl) ?_
      exact ⟨rfl, Or.inl ⟨fun h => g_2 h.2, rfl, rfl⟩⟩
  · obtain ⟨rfl, rfl, ⟨g_1, hp⟩ | ⟨g_1, hp⟩⟩ := hp <;> cases hp
    refine os_out hout hlocks hV hce hcv hcl (Nat.le_of_ble_eq_true rfl) (Nat.le_of_ble_eq_true rfl) ?_
    exact ⟨rfl, Or.inl ⟨fun h => g_1 h.1, rfl, rfl⟩⟩
