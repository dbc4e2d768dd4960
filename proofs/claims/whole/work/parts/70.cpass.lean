/-! THE CLASS: planted faults that come, seconds that pass -/
theorem Rel0.T {z t nP : Nat} {σ τ : os_S} (h : Rel0 z t nP σ τ) : rfT σ := fun k hk => by
  rcases (h.2.2.2.2.2.2.2.2.1 k hk).2.2.2 with e | e
  · rw [e]; rfl
  · rw [e]; rfl
theorem lpD_10 {σ : os_S} {j : Nat} (h : j ≤ 10) : lpD σ j ≤ lpD σ 10 := by
  have := lpD_le (σ := σ) (j := j) (10 - j)
  rw [show j + (10 - j) = 10 from by omega] at this
  exact this
theorem lpC_n {σ τ : os_S} {j kk : Nat} (hs : (lpC σ j).1 = τ) (hk : kk = (lpC σ j).2) (q : os_r τ 7 j 0 = none) : lpC σ (j + 1) = (os_sr τ 7 j 0 none, kk) ∧ lpD σ (j + 1) = lpD σ j := by
  rw [lpC, lpD, hs, q, hk]
  exact ⟨rfl, rfl⟩
theorem lpC_k {σ τ : os_S} {j kk p : Nat} (hs : (lpC σ j).1 = τ) (hk : kk = (lpC σ j).2) (q : os_r τ 7 j 0 = some p) (c : os_g τ 0 10 0 < os_g τ 12 2 p) : lpC σ (j + 1) = (os_sr (os_sr τ 7 j 0 none) 7 kk 0 (some p), kk + 1) ∧ lpD σ (j + 1) = lpD σ j := by
  rw [lpC, lpD, hs, q, hk]
  simp only [if_pos c]
  exact ⟨trivial, trivial⟩
theorem lpC_d {σ τ : os_S} {j kk p a : Nat} (hs : (lpC σ j).1 = τ) (hk : kk = (lpC σ j).2) (q : os_r τ 7 j 0 = some p) (c : ¬ os_g τ 0 10 0 < os_g τ 12 2 p) (ha : a < 8 ∧ os_g τ 12 1 p = nI a) : lpC σ (j + 1) = (brS (os_sr τ 7 j 0 none) p a, kk) ∧ lpD σ (j + 1) = lpD σ j + 1 := by
  rw [lpC, lpD, hs, q, hk]
  simp only [if_neg c, ha.2, iN9 (show a < 100000000 from by omega)]
  exact ⟨trivial, trivial⟩
theorem lp_row {z t nP s9 j kk p : Nat} {τ τj : os_S} (h : lpI z t nP s9 j τ τj kk) (hj : j < 10) (q : os_r τ 7 j 0 = some p) : (os_r τ 12 0 p = some (pR τ p) ∧ pR τ p < os_n τ 9) ∧ ∃ a, a < 8 ∧ os_g τ 12 1 p = nI a := by
  obtain ⟨h1, h2, h3, h4, h5, h6⟩ := h
  by_cases c : j < nP
  · obtain ⟨p', w1, w2, -⟩ := h5 j (Nat.le_refl _) c
    rw [w1] at q
    cases q
    exact ⟨⟨w2.2.1, w2.2.2.1⟩, w2.2.2.2.1⟩
  · rw [h6 j (by omega) hj] at q
    cases q
theorem busy_pre {z t nP : Nat} {σ τ : os_S} (h : Rel z t nP σ τ) {E : Nat} (hE : t < E) (hE2 : E ≤ 100000) : ∃ s, Rel0 z s nP (os_sg σ 0 10 0 (nbS σ (nI E))) (os_sg τ 13 1 0 (nI s)) ∧ (∀ u, u < nP → eQ (os_sg σ 0 10 0 (nbS σ (nI E))) (os_sg τ 13 1 0 (nI s)) s (s + 1000) u) ∧ (∀ u, nP ≤ u → u < 10 → os_r (os_sg σ 0 10 0 (nbS σ (nI E))) 7 u 0 = none) ∧ s ≤ 100000 := by
  obtain ⟨s, e1, e2, e3, e4, e5⟩ := nb_spec h hE (by omega)
  have hpl := h.Pl
  have ht := h.C.2.2.2.2.2.1
  rw [e1]
  refine ⟨s, h.zero.time (s := s) (by omega) (by omega), fun u hu => ?_, fun u h1 h2 => hpl.2 u h1 h2, by omega⟩
  obtain ⟨p, w1, w2, s2, w3, w4, w5⟩ := hpl.1 u hu
  have := e4 u p s2 hu w1 w5 (by omega)
  exact ⟨p, w1, w2, s2, this, by omega, w5⟩
def q_pass (σ : os_S) (x : Int32) : os_O → os_S → (Nat → Nat → Nat) → Prop := fun r σ' _ => (¬ (¬ x < 0 ∧ x ≤ 1000 ∧ os_g σ 0 10 0 + x ≤ 100000) ∧ σ = σ' ∧ r = .inr "java/lang/IllegalArgumentException") ∨ ∃ n, n ≤ 1000 ∧ x = nI n ∧ os_g σ 0 10 0 + x ≤ 100000 ∧ cps σ (os_g σ 0 10 0 + x) n = σ' ∧ r = .inl (some (.int (cpc σ (os_g σ 0 10 0 + x) n)))
set_option maxHeartbeats 4000000 in
set_option maxRecDepth 100000 in
theorem c_RF_letPlantedCome (l : Launch) (hlt : l.stackTraces = false) (D : va_G) (cA : Nat → ClassId) (bs : Nat) (σ : os_S) (ad : Nat → Nat → Nat) (z t nP s9 : Nat) (τ0 : os_S) (hR0 : Rel0 z t nP σ τ0) (hQ : ∀ u, u < nP → eQ σ τ0 t s9 u) (hZ : ∀ u, nP ≤ u → u < 10 → os_r σ 7 u 0 = none) (h9 : s9 < 1000000) : os_Met l y_RF_letPlantedCome prog_1_method_41_code 4 none { frames := 6, cells := 2 * lpD σ 10, slots := 19 * lpD σ 10, locals := 161 } D cA bs [.ref (ad 0 0)] σ ad (fun r σ' _ => lpE σ = σ' ∧ r = .inl none) := by
  refine os_ofW (by decide) ?_
  intro p e s m below meth c hx hb hr hml hown hlocks hmn hout hE hV
  have hts := hE.hts (args := ([.ref (ad 0 0)] : List Value).toArray)
  have hK := hE.2.1
  have hbs := hE.2.2.1
  have hown : s.vm.findClass "RobotFaults" = some m.cls := hown
  have hl := lv_entry ([.ref (ad 0 0)]) (n := 4) (Nat.le_of_ble_eq_true rfl)
  rw [lg_entry_eq]
  generalize (lg_sl ([.ref (ad 0 0)]) ++ List.replicate (4 - (lg_sl ([.ref (ad 0 0)])).length) Slot.unset).toArray = ls at hl ⊢
  have hl : lv_has ls 4 [(0, .ref (ad 0 0))] := hl
  have hA : rfA σ := hR0.1
  refine lv_iconst (v := 0) hx hb d_RF_letPlantedCome_0 (by decide) ?_
  refine lv_istore_n (lv' := [(1, .int 0), (0, .ref (ad 0 0))]) hx hb d_RF_letPlantedCome_1 rfl hl (by decide) rfl (fun ls hl => ?_)
  refine lv_iconst (v := 0) hx hb d_RF_letPlantedCome_2 (by decide) ?_
  refine lv_istore_n (lv' := [(2, .int 0), (1, .int 0), (0, .ref (ad 0 0))]) hx hb d_RF_letPlantedCome_3 rfl hl (by decide) rfl (fun ls hl => ?_)
  have loop : ∀ (n j : Nat) (kk : Nat) (τ : os_S) (α : Nat → Nat → Nat) (ls : Array Slot) (H : Heap) (locs : List Loc), j ≤ 10 → 10 < j + n → kk = (lpC σ j).2 → (lpC σ j).1 = τ → os_V D cA bs σ ad s τ α H locs → lv_has ls 4 [(0, .ref (α 0 0)), (1, .int (nI kk)), (2, .int (nI j))] → W p l e { frames := 6, cells := 2 * lpD σ 10, slots := 19 * lpD σ 10, locals := 161 } s m ([.ref (ad 0 0)] : List Value).toArray below meth c H locs (2 * lpD σ j) (19 * lpD σ j) (os_End D cA bs below s σ ad { frames := 6, cells := 2 * lpD σ 10, slots := 19 * lpD σ 10, locals := 161 } (fun r σ' _ => lpE σ = σ' ∧ r = .inl none)) (F0 m 4 ls []) := by
    intro n
    induction n with
    | zero => intro j kk τ α ls H locs h1 h2; exact absurd h2 (by omega)
    | succ n loop_ih =>
      intro j kk τ α ls H locs loop_j loop_n loop_i loop_s hV hl
      have hr_1 : 0 < os_n τ 0 := Nat.lt_of_lt_of_le (rfA.n hR0.1 0 (by decide)) (hV.2.1.1 0)
      obtain ⟨τj, hI⟩ := lp_any hR0 hQ hZ h9 loop_j
      rw [loop_s, ← loop_i] at hI
      have hA : rfA τ := hI.1.1
      have hF : rfF τ := hI.1.2.2.2.1
      have hL : rfL τ := hI.1.2.2.2.2.1
      have hT : rfT τ := hI.1.T
      have hD0 : lpD σ j ≤ lpD σ 10 := lpD_10 loop_j
      refine lv_iload_n hx hb d_RF_letPlantedCome_4 rfl (lv_at hl 2 rfl) ?_
      refine lv_aload_n hx hb d_RF_letPlantedCome_5 rfl (lv_at hl 0 rfl) ?_
      refine os_get (C := "RobotFaults") (T := F_RF) (N := 11) (ci := 0) (K := 0) (j := 5) (i := 0) (v := .ref (α 7 0)) hx hb hts i_RF hown hK hV rfl rfl (by decide) hr_1 (hts _ k_73) (congrArg (fun z => va_rf (Option.map (α 7) z)) (hA.r 5 (by decide))) d_RF_letPlantedCome_6 ?_
      refine os_alen (K := 7) (i := 0) (t0 := 7) (v := 10) hx hb hK hV rfl rfl (hA.n 7 (by decide)) (congrArg Int32.ofNat hA.l7) d_RF_letPlantedCome_9 ?_
      refine lv_icmp_ge (tgt := 70) hx hb d_RF_letPlantedCome_10 (by decide) (fun c_2 => ?_) (fun c_2 => ?_)
      · skip
        refine lv_aload_n hx hb d_RF_letPlantedCome_70 rfl (lv_at hl 0 rfl) ?_
        refine lv_iload_n hx hb d_RF_letPlantedCome_71 rfl (lv_at hl 1 rfl) ?_
        refine os_putI (C := "RobotFaults") (T := F_RF) (N := 11) (ci := 0) (K := 0) (j := 9) (i := 0) (v := nI kk) (ty := .int) hx hb hts i_RF t_RF t_RF_ok n_RF hown hK hV rfl rfl (by decide) hr_1 (hts _ k_77) rfl rfl rfl (by decide +kernel) rfl rfl d_RF_letPlantedCome_72 (fun H locs hV => ?_)
        refine os_vret hx hb hr hlocks hV (by show 2 * lpD σ j ≤ 2 * lpD σ 10; omega) (by show 19 * lpD σ j ≤ 19 * lpD σ 10; omega) d_RF_letPlantedCome_75 ?_
        have hj := eq_of_le c_2 loop_j
        subst hj
        exact ⟨by unfold lpE; rw [loop_s, ← loop_i], rfl⟩
      · skip
        refine lv_aload_n hx hb d_RF_letPlantedCome_13 rfl (lv_at hl 0 rfl) ?_
        refine os_get (C := "RobotFaults") (T := F_RF) (N := 11) (ci := 0) (K := 0) (j := 5) (i := 0) (v := .ref (α 7 0)) hx hb hts i_RF hown hK hV rfl rfl (by decide) hr_1 (hts _ k_73) (congrArg (fun z => va_rf (Option.map (α 7) z)) (hA.r 5 (by decide))) d_RF_letPlantedCome_14 ?_
        refine lv_iload_n hx hb d_RF_letPlantedCome_17 rfl (lv_at hl 2 rfl) ?_
        refine os_aaldN (K := 7) (i := 0) (t0 := 7) (n := j) hx hb hK hV rfl rfl (hA.n 7 (by decide)) rfl (by rw [show os_l τ 7 0 = 10 from hA.l7]; exact (lt_of_nle c_2 loop_j)) (by rw [show os_l τ 7 0 = 10 from hA.l7]; decide) d_RF_letPlantedCome_18 ?_
        cases q_3 : os_r τ 7 j 0 with
        | none =>
          refine lv_astore_nN (lv' := [(3, .null), (0, .ref (α 0 0)), (1, .int (nI kk)), (2, .int (nI j))]) hx hb d_RF_letPlantedCome_19 rfl hl (by decide) rfl (fun ls hl => ?_)
          refine lv_aload_n hx hb d_RF_letPlantedCome_20 rfl (lv_at hl 1 rfl) ?_
          refine os_get (C := "RobotFaults") (T := F_RF) (N := 11) (ci := 0) (K := 0) (j := 5) (i := 0) (v := .ref (α 7 0)) hx hb hts i_RF hown hK hV rfl rfl (by decide) hr_1 (hts _ k_73) (congrArg (fun z => va_rf (Option.map (α 7) z)) (hA.r 5 (by decide))) d_RF_letPlantedCome_21 ?_
          refine lv_iload_n hx hb d_RF_letPlantedCome_24 rfl (lv_at hl 3 rfl) ?_
          refine lv_null hx hb d_RF_letPlantedCome_25 ?_
          refine os_aastNN (K := 7) (i := 0) (t0 := 7) (n := j) hx hb hK hV rfl rfl (hA.n 7 (by decide)) rfl (by rw [show os_l τ 7 0 = 10 from hA.l7]; exact (lt_of_nle c_2 loop_j)) (by rw [show os_l τ 7 0 = 10 from hA.l7]; decide) d_RF_letPlantedCome_26 (fun H locs hV => ?_)
          refine lv_aload_nN hx hb d_RF_letPlantedCome_27 rfl (lv_at hl 0 rfl) ?_
          refine lv_ifnullN (tgt := 50) hx hb d_RF_letPlantedCome_28 (by decide) ?_
          refine lv_aload_nN hx hb d_RF_letPlantedCome_50 rfl (lv_at hl 0 rfl) ?_
          refine lv_ifnullN (tgt := 64) hx hb d_RF_letPlantedCome_51 (by decide) ?_
          refine lv_iinc (v := nI (j + 1)) (lv' := [(2, .int (nI (j + 1))), (3, .null), (0, .ref (α 0 0)), (1, .int (nI kk))]) hx hb d_RF_letPlantedCome_64 hl (k := 3) rfl (nI_1 j) (by decide) rfl (fun ls hl => ?_)
          refine lv_goto (tgt := 4) hx hb d_RF_letPlantedCome_67 (by decide) ?_
          rw [show 2 * lpD σ j = 2 * lpD σ (j + 1) from by rw [(lpC_n loop_s loop_i q_3).2], show 19 * lpD σ j = 19 * lpD σ (j + 1) from by rw [(lpC_n loop_s loop_i q_3).2]]
          exact loop_ih (j + 1) kk _ _ ls H locs (Nat.succ_le_of_lt (lt_of_nle c_2 loop_j)) (by omega) (by rw [(lpC_n loop_s loop_i q_3).1]) (by rw [(lpC_n loop_s loop_i q_3).1]) hV (lv_sub hl [2, 3, 0] rfl)
        | some t_4 =>
          have hp_5 : t_4 < os_n τ 12 := (hV.1.2.2.1 7 0 (hA.n 7 (by decide)) j 12 _ rfl q_3)
          refine lv_astore_n (lv' := [(3, .ref (α 12 t_4)), (0, .ref (α 0 0)), (1, .int (nI kk)), (2, .int (nI j))]) hx hb d_RF_letPlantedCome_19 rfl hl (by decide) rfl (fun ls hl => ?_)
          refine lv_aload_n hx hb d_RF_letPlantedCome_20 rfl (lv_at hl 1 rfl) ?_
          refine os_get (C := "RobotFaults") (T := F_RF) (N := 11) (ci := 0) (K := 0) (j := 5) (i := 0) (v := .ref (α 7 0)) hx hb hts i_RF hown hK hV rfl rfl (by decide) hr_1 (hts _ k_73) (congrArg (fun z => va_rf (Option.map (α 7) z)) (hA.r 5 (by decide))) d_RF_letPlantedCome_21 ?_
          refine lv_iload_n hx hb d_RF_letPlantedCome_24 rfl (lv_at hl 3 rfl) ?_
          refine lv_null hx hb d_RF_letPlantedCome_25 ?_
          refine os_aastNN (K := 7) (i := 0) (t0 := 7) (n := j) hx hb hK hV rfl rfl (hA.n 7 (by decide)) rfl (by rw [show os_l τ 7 0 = 10 from hA.l7]; exact (lt_of_nle c_2 loop_j)) (by rw [show os_l τ 7 0 = 10 from hA.l7]; decide) d_RF_letPlantedCome_26 (fun H locs hV => ?_)
          refine lv_aload_n hx hb d_RF_letPlantedCome_27 rfl (lv_at hl 0 rfl) ?_
          refine lv_ifnull hx hb d_RF_letPlantedCome_28 ?_
          refine lv_aload_n hx hb d_RF_letPlantedCome_31 rfl (lv_at hl 0 rfl) ?_
          refine os_getN (C := "RobotFaults$Planted") (T := F_Planted) (N := 3) (ci := 6) (K := 12) (j := 2) (i := t_4) (v := .int (os_g τ 12 2 t_4)) hx hb hts i_Planted hown hK hV rfl rfl (by decide) hp_5 (hts _ k_631) rfl d_RF_letPlantedCome_32 ?_
          refine lv_aload_n hx hb d_RF_letPlantedCome_35 rfl (lv_at hl 1 rfl) ?_
          refine os_get (C := "RobotFaults") (T := F_RF) (N := 11) (ci := 0) (K := 0) (j := 10) (i := 0) (v := .int (os_g τ 0 10 0)) hx hb hts i_RF hown hK hV rfl rfl (by decide) hr_1 (hts _ k_78) rfl d_RF_letPlantedCome_36 ?_
          refine lv_icmp_gt (tgt := 50) hx hb d_RF_letPlantedCome_39 (by decide) (fun c_6 => ?_) (fun c_6 => ?_)
          · skip
            refine lv_aload_n hx hb d_RF_letPlantedCome_50 rfl (lv_at hl 0 rfl) ?_
            refine lv_ifnull hx hb d_RF_letPlantedCome_51 ?_
            refine lv_aload_n hx hb d_RF_letPlantedCome_54 rfl (lv_at hl 1 rfl) ?_
            refine os_get (C := "RobotFaults") (T := F_RF) (N := 11) (ci := 0) (K := 0) (j := 5) (i := 0) (v := .ref (α 7 0)) hx hb hts i_RF hown hK hV rfl rfl (by decide) hr_1 (hts _ k_73) (congrArg (fun z => va_rf (Option.map (α 7) z)) (hA.r 5 (by decide))) d_RF_letPlantedCome_55 ?_
            refine lv_iload_n hx hb d_RF_letPlantedCome_58 rfl (lv_at hl 2 rfl) ?_
            refine lv_aload_n hx hb d_RF_letPlantedCome_59 rfl (lv_at hl 0 rfl) ?_
            refine os_aastK (K := 7) (i := 0) (t0 := 7) (n := kk) hx hb hK hV rfl rfl rfl rfl (hA.n 7 (by decide)) hp_5 rfl (by rw [show os_l (os_sr τ 7 j 0 none) 7 0 = 10 from hA.l7]; exact (Nat.lt_of_le_of_lt hI.2.1 (lt_of_nle c_2 loop_j))) (by rw [show os_l (os_sr τ 7 j 0 none) 7 0 = 10 from hA.l7]; decide) d_RF_letPlantedCome_60 (fun H locs hV => ?_)
            refine lv_iinc (v := nI (kk + 1)) (lv' := [(1, .int (nI (kk + 1))), (3, .ref (α 12 t_4)), (0, .ref (α 0 0)), (2, .int (nI j))]) hx hb d_RF_letPlantedCome_61 hl (k := 2) rfl (nI_1 kk) (by decide) rfl (fun ls hl => ?_)
            refine lv_iinc (v := nI (j + 1)) (lv' := [(2, .int (nI (j + 1))), (1, .int (nI (kk + 1))), (3, .ref (α 12 t_4)), (0, .ref (α 0 0))]) hx hb d_RF_letPlantedCome_64 hl (k := 3) rfl (nI_1 j) (by decide) rfl (fun ls hl => ?_)
            refine lv_goto (tgt := 4) hx hb d_RF_letPlantedCome_67 (by decide) ?_
            rw [show 2 * lpD σ j = 2 * lpD σ (j + 1) from by rw [(lpC_k loop_s loop_i q_3 c_6).2], show 19 * lpD σ j = 19 * lpD σ (j + 1) from by rw [(lpC_k loop_s loop_i q_3 c_6).2]]
            exact loop_ih (j + 1) (kk + 1) _ _ ls H locs (Nat.succ_le_of_lt (lt_of_nle c_2 loop_j)) (by omega) (by rw [(lpC_k loop_s loop_i q_3 c_6).1]) (by rw [(lpC_k loop_s loop_i q_3 c_6).1]) hV (lv_sub hl [3, 1, 0] rfl)
          · skip
            obtain ⟨hrow, a, ha⟩ := lp_row hI (lt_of_nle c_2 loop_j) q_3
            have hD1 : lpD σ j + 1 ≤ lpD σ 10 := by rw [← (lpC_d loop_s loop_i q_3 c_6 ha).2]; exact lpD_10 (Nat.succ_le_of_lt (lt_of_nle c_2 loop_j))
            refine lv_aload_n hx hb d_RF_letPlantedCome_42 rfl (lv_at hl 1 rfl) ?_
            refine lv_aload_n hx hb d_RF_letPlantedCome_43 rfl (lv_at hl 0 rfl) ?_
            refine os_call (c_RF_bring l hlt D cA bs (os_sr τ 7 j 0 none) α t_4 a (rfA.sr (K := 7) (j := j) (i := 0) (v := none) hA (by decide) (by decide) (by decide)) hF hL hT hp_5 hrow.1 hrow.2 ha.1 ha.2) hE hV k_673 k_1 (os_inV (C := "RobotFaults") (n := 1) (bytes := prog_1_method_42_code) (maxL := 2) (ret := none) hx hb hown (hts _ k_670) (hts _ k_672) (hts _ k_s18) (hts _ k_673) (by decide +kernel) rfl (os_recv hK hV rfl rfl hr_1) rfl d_RF_letPlantedCome_44) (hl.1.trans hml.symm) (Nat.le_of_ble_eq_true rfl) (Nat.le_of_ble_eq_true rfl) (Nat.le_of_ble_eq_true rfl) (by show 2 * lpD σ j + 2 ≤ 2 * lpD σ 10; omega) (by show 19 * lpD σ j + 19 ≤ 19 * lpD σ 10; omega) (fun v σ1 ad1 H locs hp hext hV => ?_) (fun E q ce σ1 ad1 H locs hp hext hV hce hcv hcl => ?_)
            · obtain ⟨z_7s, hp⟩ := hp
              cases hp
              obtain ⟨σ_8, rfl⟩ : ∃ z, z = σ1 := ⟨_, rfl⟩
              obtain ⟨ad_9, rfl⟩ : ∃ z, z = ad1 := ⟨_, rfl⟩
              have he_10 := hext
              have hl : lv_has ls 4 [(3, .ref (ad_9 12 t_4)), (0, .ref (ad_9 0 0)), (1, .int (nI kk)), (2, .int (nI j))] := by rw [he_10.2.1 12 t_4 hp_5, he_10.2.1 0 0 hr_1]; exact hl
              refine W.eq (g2 := F0 m 47 ls []) rfl ?_
              have hr_11 : t_4 < os_n σ_8 12 := Nat.lt_of_lt_of_le hp_5 (he_10.1 12)
              have hr_12 : 0 < os_n σ_8 0 := Nat.lt_of_lt_of_le hr_1 (he_10.1 0)
              refine lv_goto (tgt := 64) hx hb d_RF_letPlantedCome_47 (by decide) ?_
              refine lv_iinc (v := nI (j + 1)) (lv' := [(2, .int (nI (j + 1))), (3, .ref (ad_9 12 t_4)), (0, .ref (ad_9 0 0)), (1, .int (nI kk))]) hx hb d_RF_letPlantedCome_64 hl (k := 3) rfl (nI_1 j) (by decide) rfl (fun ls hl => ?_)
              refine lv_goto (tgt := 4) hx hb d_RF_letPlantedCome_67 (by decide) ?_
              rw [show (2 * lpD σ j) + 2 = 2 * lpD σ (j + 1) from by rw [(lpC_d loop_s loop_i q_3 c_6 ha).2]; omega, show (19 * lpD σ j) + 19 = 19 * lpD σ (j + 1) from by rw [(lpC_d loop_s loop_i q_3 c_6 ha).2]; omega]
              exact loop_ih (j + 1) kk _ _ ls H locs (Nat.succ_le_of_lt (lt_of_nle c_2 loop_j)) (by omega) (by rw [(lpC_d loop_s loop_i q_3 c_6 ha).1]) (by rw [(lpC_d loop_s loop_i q_3 c_6 ha).1]; exact z_7s) hV (lv_sub hl [2, 3, 0] rfl)
            · exact absurd hp.2 (fun h => by cases h)
  exact loop (10 + 1) 0 0 _ _ ls _ _ (by omega) (by omega) rfl rfl hV (lv_sub hl [2, 1, 0] rfl)
set_option maxHeartbeats 4000000 in
set_option maxRecDepth 100000 in
theorem c_RF_pass (l : Launch) (hlt : l.stackTraces = false) (D : va_G) (cA : Nat → ClassId) (bs : Nat) (σ : os_S) (ad : Nat → Nat → Nat) (x : Int32) (z t nP : Nat) (τ0 : os_S) (hRel : Rel z t nP σ τ0) : os_Met l y_RF_pass prog_1_method_16_code 5 (some .int) { frames := 7, cells := 21, slots := 196, locals := 184 } D cA bs [.ref (ad 0 0), .int x] σ ad (q_pass σ x) := by
  refine os_ofW (by decide) ?_
  intro p e s m below meth c hx hb hr hml hown hlocks hmn hout hE hV
  have hts := hE.hts (args := ([.ref (ad 0 0), .int x] : List Value).toArray)
  have hK := hE.2.1
  have hbs := hE.2.2.1
  have hown : s.vm.findClass "RobotFaults" = some m.cls := hown
  have hl := lv_entry ([.ref (ad 0 0), .int x]) (n := 5) (Nat.le_of_ble_eq_true rfl)
  rw [lg_entry_eq]
  generalize (lg_sl ([.ref (ad 0 0), .int x]) ++ List.replicate (5 - (lg_sl ([.ref (ad 0 0), .int x])).length) Slot.unset).toArray = ls at hl ⊢
  have hl : lv_has ls 5 [(0, .ref (ad 0 0)), (1, .int x)] := hl
  have hA : rfA σ := hRel.1
  refine lv_iload_n hx hb d_RF_pass_0 rfl (lv_at hl 1 rfl) ?_
  refine lv_if_lt (tgt := 11) hx hb d_RF_pass_1 (by decide) (fun c_1 => ?_) (fun c_1 => ?_)
  · skip
    refine os_throw (own := "RobotFaults") (cls := "java/lang/IllegalArgumentException") (text := "0 to 1000 seconds go by") (names := ["java/lang/RuntimeException", "java/lang/Exception"]) hx hb hlt hown (by decide) (by decide) hE hV k_261 k_10 (by decide +kernel) th_IllegalArgumentException (hl.1.trans hml.symm) d_RF_pass_11 d_RF_pass_14 d_RF_pass_15 d_RF_pass_17 d_RF_pass_20 hout hlocks (Nat.le_of_ble_eq_true rfl) (Nat.le_of_ble_eq_true rfl) (Nat.le_of_ble_eq_true rfl) (Nat.le_of_ble_eq_true rfl) (Nat.le_of_ble_eq_true rfl) (Nat.le_of_ble_eq_true rfl) ?_
    exact Or.inl ⟨fun h => h.1 c_1, rfl, rfl⟩
  · skip
    refine lv_iload_n hx hb d_RF_pass_4 rfl (lv_at hl 1 rfl) ?_
    refine lv_sipush (v := 1000) hx hb d_RF_pass_5 (by decide) ?_
    refine lv_icmp_le (tgt := 21) hx hb d_RF_pass_8 (by decide) (fun c_2 => ?_) (fun c_2 => ?_)
    · skip
      refine lv_aload_n hx hb d_RF_pass_21 rfl (lv_at hl 0 rfl) ?_
      refine os_get (C := "RobotFaults") (T := F_RF) (N := 11) (ci := 0) (K := 0) (j := 10) (i := 0) (v := .int (os_g σ 0 10 0)) hx hb hts i_RF hown hK hV rfl rfl (by decide) (hA.n 0 (by decide)) (hts _ k_78) rfl d_RF_pass_22 ?_
      refine lv_iload_n hx hb d_RF_pass_25 rfl (lv_at hl 1 rfl) ?_
      refine lv_iadd hx hb d_RF_pass_26 ?_
      refine lv_ldc (v := 100000) hx hb hown (hts _ k_647) d_RF_pass_27 ?_
      refine lv_icmp_le (tgt := 42) hx hb d_RF_pass_29 (by decide) (fun c_3 => ?_) (fun c_3 => ?_)
      · skip
        obtain ⟨n7, hn, hxn⟩ : ∃ n, n ≤ 1000 ∧ x = nI n := nI_of2 (by decide) c_1 c_2
        have hET : os_g σ 0 10 0 + x = nI (t + n7) := by rw [hxn, hRel.C.2.2.2.1, nI_add]
        have hE9 : t + n7 ≤ 100000 := by have h7 := c_3; rw [hET, show (100000 : Int32) = nI 100000 from by decide, nI_leI (by have := hRel.C.2.2.2.2.2.1; omega) (by decide)] at h7; exact h7
        refine lv_aload_n hx hb d_RF_pass_42 rfl (lv_at hl 0 rfl) ?_
        refine os_get (C := "RobotFaults") (T := F_RF) (N := 11) (ci := 0) (K := 0) (j := 10) (i := 0) (v := .int (os_g σ 0 10 0)) hx hb hts i_RF hown hK hV rfl rfl (by decide) (hA.n 0 (by decide)) (hts _ k_78) rfl d_RF_pass_43 ?_
        refine lv_iload_n hx hb d_RF_pass_46 rfl (lv_at hl 1 rfl) ?_
        refine lv_iadd hx hb d_RF_pass_47 ?_
        refine lv_istore_n (lv' := [(2, .int ((os_g σ 0 10 0) + x)), (0, .ref (ad 0 0)), (1, .int x)]) hx hb d_RF_pass_48 rfl hl (by decide) rfl (fun ls hl => ?_)
        rw [hET] at hl
        refine lv_iconst (v := 0) hx hb d_RF_pass_49 (by decide) ?_
        refine lv_istore_n (lv' := [(3, .int 0), (2, .int (nI (t + n7))), (0, .ref (ad 0 0)), (1, .int x)]) hx hb d_RF_pass_50 rfl hl (by decide) rfl (fun ls hl => ?_)
        refine lv_iconst (v := 0) hx hb d_RF_pass_51 (by decide) ?_
        refine lv_istore (lv' := [(4, .int 0), (3, .int 0), (2, .int (nI (t + n7))), (0, .ref (ad 0 0)), (1, .int x)]) hx hb d_RF_pass_52 hl (by decide) rfl (fun ls hl => ?_)
        have loop : ∀ (n j : Nat) (a : Int32) (τ : os_S) (α : Nat → Nat → Nat) (ls : Array Slot) (H : Heap) (locs : List Loc), j ≤ n7 → n7 < j + n → a = cpc σ (nI (t + n7)) j → cps σ (nI (t + n7)) j = τ → os_V D cA bs σ ad s τ α H locs → lv_has ls 5 [(0, .ref (α 0 0)), (1, .int x), (2, .int (nI (t + n7))), (3, .int a), (4, .int (nI j))] → W p l e { frames := 7, cells := 21, slots := 196, locals := 184 } s m ([.ref (ad 0 0), .int x] : List Value).toArray below meth c H locs (2 * cpD σ (nI (t + n7)) j) (19 * cpD σ (nI (t + n7)) j) (os_End D cA bs below s σ ad { frames := 7, cells := 21, slots := 196, locals := 184 } (q_pass σ x)) (F0 m 54 ls []) := by
          intro n
          induction n with
          | zero => intro j a τ α ls H locs h1 h2; exact absurd h2 (by omega)
          | succ n loop_ih =>
            intro j a τ α ls H locs loop_j loop_n loop_i loop_s hV hl
            have hr_4 : 0 < os_n τ 0 := Nat.lt_of_lt_of_le (rfA.n hRel.1 0 (by decide)) (hV.2.1.1 0)
            obtain ⟨s8, n8, hs1, hs2, hs3, hRj, -, hDj⟩ := cps_sim hRel (E := t + n7) (Nat.le_add_right t n7) hE9 j
            rw [loop_s] at hRj
            have hA : rfA τ := hRj.1
            have hL : rfL τ := hRj.2.2.2.2.1
            have hD0 : cpD σ (nI (t + n7)) j ≤ 10 := by have := hRel.C.2.2.2.2.2.2.2.2.2.2.2.1; omega
            refine lv_iload hx hb d_RF_pass_54 (lv_at hl 4 rfl) ?_
            refine lv_iload_n hx hb d_RF_pass_56 rfl (lv_at hl 1 rfl) ?_
            refine lv_icmp_ge (tgt := 94) hx hb d_RF_pass_57 (by decide) (fun c_5 => ?_) (fun c_5 => ?_)
            · skip
              refine lv_iload_n hx hb d_RF_pass_94 rfl (lv_at hl 3 rfl) ?_
              refine os_iret hx hb hr hlocks hV (by show 2 * cpD σ (nI (t + n7)) j ≤ 21; omega) (by show 19 * cpD σ (nI (t + n7)) j ≤ 196; omega) d_RF_pass_95 ?_
              have hj := eq_of_le c_5 loop_j hxn (by omega)
              exact Or.inr ⟨n7, hn, hxn, c_3, by rw [hET]; rw [hj] at loop_s; exact loop_s, by rw [hET, loop_i, hj]⟩
            · skip
              refine lv_aload_n hx hb d_RF_pass_60 rfl (lv_at hl 0 rfl) ?_
              refine os_get (C := "RobotFaults") (T := F_RF) (N := 11) (ci := 0) (K := 0) (j := 10) (i := 0) (v := .int (os_g τ 0 10 0)) hx hb hts i_RF hown hK hV rfl rfl (by decide) hr_4 (hts _ k_78) rfl d_RF_pass_61 ?_
              refine lv_iload_n hx hb d_RF_pass_64 rfl (lv_at hl 2 rfl) ?_
              refine lv_icmp_ge (tgt := 94) hx hb d_RF_pass_65 (by decide) (fun c_6 => ?_) (fun c_6 => ?_)
              · skip
                refine lv_iload_n hx hb d_RF_pass_94 rfl (lv_at hl 3 rfl) ?_
                refine os_iret hx hb hr hlocks hV (by show 2 * cpD σ (nI (t + n7)) j ≤ 21; omega) (by show 19 * cpD σ (nI (t + n7)) j ≤ 196; omega) d_RF_pass_95 ?_
                have hj := lt_of_nle c_5 loop_j hxn (by omega)
                have hst := cps_stop (σ := σ) (e := (nI (t + n7))) (j := j) (by rw [loop_s]; exact Int32.not_lt.mpr c_6) (n7 - j)
                rw [show j + (n7 - j) = n7 from by omega] at hst
                exact Or.inr ⟨n7, hn, hxn, c_3, by rw [hET, hst.1]; exact loop_s, by rw [hET, hst.2.1, loop_i]⟩
              · skip
                have hlt9 := Int32.not_le.mp c_6
                have hlt2 : s8 < t + n7 := by have h7 := hlt9; rw [hRj.C.2.2.2.1, nI_ltI (by omega) (by omega)] at h7; exact h7
                obtain ⟨s7, hb1, hb2, hb3, hb4⟩ := busy_pre hRj hlt2 hE9
                obtain ⟨k7, hk7, hLE⟩ := lp_end hb1 hb2 hb3
                have hD2 : cpD σ (nI (t + n7)) (j + 1) = cpD σ (nI (t + n7)) j + lpD (os_sg τ 0 10 0 (nbS τ (nI (t + n7)))) 10 := by rw [cpD, loop_s, if_pos hlt9]
                refine lv_aload_n hx hb d_RF_pass_68 rfl (lv_at hl 0 rfl) ?_
                refine lv_aload_n hx hb d_RF_pass_69 rfl (lv_at hl 0 rfl) ?_
                refine lv_iload_n hx hb d_RF_pass_70 rfl (lv_at hl 2 rfl) ?_
                refine os_call (c_RF_nextBusySecond l hlt D cA bs τ α (nI (t + n7)) hA hL) hE hV k_652 k_1 (os_inV (C := "RobotFaults") (n := 1) (bytes := prog_1_method_40_code) (maxL := 7) (ret := (some .int)) hx hb hown (hts _ k_649) (hts _ k_651) (hts _ k_s16) (hts _ k_652) (by decide +kernel) rfl (os_recv hK hV rfl rfl hr_4) rfl d_RF_pass_71) (hl.1.trans hml.symm) (Nat.le_of_ble_eq_true rfl) (Nat.le_of_ble_eq_true rfl) (Nat.le_of_ble_eq_true rfl) (by show 2 * cpD σ (nI (t + n7)) j + 0 ≤ 21; omega) (by show 19 * cpD σ (nI (t + n7)) j + 0 ≤ 196; omega) (fun v σ1 ad1 H locs hp hext hV => ?_) (fun E q ce σ1 ad1 H locs hp hext hV hce hcv hcl => ?_)
                · obtain ⟨rfl, rfl, hp⟩ := hp
                  cases hp
                  refine W.eq (g2 := F0 m 74 ls [.int (nb2 τ (nb1 τ (nI (t + n7)) 10) 40), .ref (α 0 0)]) rfl ?_
                  refine os_putI (C := "RobotFaults") (T := F_RF) (N := 11) (ci := 0) (K := 0) (j := 10) (i := 0) (v := nb2 τ (nb1 τ (nI (t + n7)) 10) 40) (ty := .int) hx hb hts i_RF t_RF t_RF_ok n_RF hown hK hV rfl rfl (by decide) hr_4 (hts _ k_78) rfl rfl rfl (by decide +kernel) rfl rfl d_RF_pass_74 (fun H locs hV => ?_)
                  refine lv_aload_n hx hb d_RF_pass_77 rfl (lv_at hl 0 rfl) ?_
                  have hD3 : cpD σ (nI (t + n7)) j + lpD (os_sg τ 0 10 0 (nb2 τ (nb1 τ (nI (t + n7)) 10) 40)) 10 ≤ 10 := by have h7 := hk7; have h8 := hRel.C.2.2.2.2.2.2.2.2.2.2.2.1; have h6 : lpD (os_sg τ 0 10 0 (nb2 τ (nb1 τ (nI (t + n7)) 10) 40)) 10 = lpD (os_sg τ 0 10 0 (nbS τ (nI (t + n7)))) 10 := rfl; omega
                  refine os_call (c_RF_letPlantedCome l hlt D cA bs (os_sg τ 0 10 0 (nb2 τ (nb1 τ (nI (t + n7)) 10) 40)) α z s7 n8 (s7 + 1000) _ hb1 hb2 hb3 (by omega)) hE hV k_669 k_1 (os_inV (C := "RobotFaults") (n := 0) (bytes := prog_1_method_41_code) (maxL := 4) (ret := none) hx hb hown (hts _ k_666) (hts _ k_668) (hts _ k_s17) (hts _ k_669) (by decide +kernel) rfl (os_recv hK hV rfl rfl hr_4) rfl d_RF_pass_78) (hl.1.trans hml.symm) (Nat.le_of_ble_eq_true rfl) (Nat.le_of_ble_eq_true rfl) (Nat.le_of_ble_eq_true rfl) (by show 2 * cpD σ (nI (t + n7)) j + 2 * lpD (os_sg τ 0 10 0 (nb2 τ (nb1 τ (nI (t + n7)) 10) 40)) 10 ≤ 21; omega) (by show 19 * cpD σ (nI (t + n7)) j + 19 * lpD (os_sg τ 0 10 0 (nb2 τ (nb1 τ (nI (t + n7)) 10) 40)) 10 ≤ 196; omega) (fun v σ1 ad1 H locs hp hext hV => ?_) (fun E q ce σ1 ad1 H locs hp hext hV hce hcv hcl => ?_)
                  · obtain ⟨z_7s, hp⟩ := hp
                    cases hp
                    obtain ⟨σ_8, rfl⟩ : ∃ z, z = σ1 := ⟨_, rfl⟩
                    obtain ⟨ad_9, rfl⟩ : ∃ z, z = ad1 := ⟨_, rfl⟩
                    have he_10 := hext
                    have hl : lv_has ls 5 [(0, .ref (ad_9 0 0)), (1, .int x), (2, .int (nI (t + n7))), (3, .int a), (4, .int (nI j))] := by rw [he_10.2.1 0 0 hr_4]; exact hl
                    refine W.eq (g2 := F0 m 81 ls []) rfl ?_
                    have hr_11 : 0 < os_n σ_8 0 := Nat.lt_of_lt_of_le hr_4 (he_10.1 0)
                    have hA : rfA σ_8 := (by rw [← z_7s]; exact hLE.1)
                    have hL : rfL σ_8 := (by rw [← z_7s]; exact hLE.2.2.2.2.1)
                    refine lv_iload_n hx hb d_RF_pass_81 rfl (lv_at hl 3 rfl) ?_
                    refine lv_aload_n hx hb d_RF_pass_82 rfl (lv_at hl 0 rfl) ?_
                    refine os_call (c_RF_raiseAlarms l hlt D cA bs σ_8 ad_9 hA hL) hE hV k_677 k_1 (os_inV (C := "RobotFaults") (n := 0) (bytes := prog_1_method_43_code) (maxL := 6) (ret := (some .int)) hx hb hown (hts _ k_674) (hts _ k_676) (hts _ k_s19) (hts _ k_677) (by decide +kernel) rfl (os_recv hK hV rfl rfl hr_11) rfl d_RF_pass_83) (hl.1.trans hml.symm) (Nat.le_of_ble_eq_true rfl) (Nat.le_of_ble_eq_true rfl) (Nat.le_of_ble_eq_true rfl) (by show (2 * cpD σ (nI (t + n7)) j) + 2 * lpD (os_sg τ 0 10 0 (nb2 τ (nb1 τ (nI (t + n7)) 10) 40)) 10 + 0 ≤ 21; omega) (by show (19 * cpD σ (nI (t + n7)) j) + 19 * lpD (os_sg τ 0 10 0 (nb2 τ (nb1 τ (nI (t + n7)) 10) 40)) 10 + 0 ≤ 196; omega) (fun v σ1 ad1 H locs hp hext hV => ?_) (fun E q ce σ1 ad1 H locs hp hext hV hce hcv hcl => ?_)
                    · obtain ⟨zs_12, rfl, hp⟩ := hp
                      cases hp
                      obtain ⟨σ_13, rfl⟩ : ∃ z, z = σ1 := ⟨_, rfl⟩
                      have he_14 := hext
                      have hr_15 : 0 < os_n σ_13 0 := Nat.lt_of_lt_of_le hr_11 (he_14.1 0)
                      refine W.eq (g2 := F0 m 86 ls [.int (raC σ_8 40), .int a]) rfl ?_
                      refine lv_iadd hx hb d_RF_pass_86 ?_
                      refine lv_istore_n (lv' := [(3, .int (a + (raC σ_8 40))), (0, .ref (ad_9 0 0)), (1, .int x), (2, .int (nI (t + n7))), (4, .int (nI j))]) hx hb d_RF_pass_87 rfl hl (by decide) rfl (fun ls hl => ?_)
                      refine lv_iinc (v := nI (j + 1)) (lv' := [(4, .int (nI (j + 1))), (3, .int (a + (raC σ_8 40))), (0, .ref (ad_9 0 0)), (1, .int x), (2, .int (nI (t + n7)))]) hx hb d_RF_pass_88 hl (k := 4) rfl (nI_1 j) (by decide) rfl (fun ls hl => ?_)
                      refine lv_goto (tgt := 54) hx hb d_RF_pass_91 (by decide) ?_
                      show W p l e { frames := 7, cells := 21, slots := 196, locals := 184 } s m ([.ref (ad 0 0), .int x] : List Value).toArray below meth c H locs ((2 * cpD σ (nI (t + n7)) j) + 2 * lpD (os_sg τ 0 10 0 (nb2 τ (nb1 τ (nI (t + n7)) 10) 40)) 10) ((19 * cpD σ (nI (t + n7)) j) + 19 * lpD (os_sg τ 0 10 0 (nb2 τ (nb1 τ (nI (t + n7)) 10) 40)) 10) (os_End D cA bs below s σ ad { frames := 7, cells := 21, slots := 196, locals := 184 } (q_pass σ x)) (F0 m 54 ls [])
                      rw [show (2 * cpD σ (nI (t + n7)) j) + 2 * lpD (os_sg τ 0 10 0 (nb2 τ (nb1 τ (nI (t + n7)) 10) 40)) 10 = 2 * cpD σ (nI (t + n7)) (j + 1) from by rw [hD2]; exact (Nat.mul_add 2 _ _).symm, show (19 * cpD σ (nI (t + n7)) j) + 19 * lpD (os_sg τ 0 10 0 (nb2 τ (nb1 τ (nI (t + n7)) 10) 40)) 10 = 19 * cpD σ (nI (t + n7)) (j + 1) from by rw [hD2]; exact (Nat.mul_add 19 _ _).symm]
                      exact loop_ih (j + 1) (a + (raC σ_8 40)) _ _ ls H locs (Nat.succ_le_of_lt (lt_of_nle c_5 loop_j hxn (by omega))) (by omega) (by rw [cpc, loop_s, if_pos hlt9, ← loop_i]; unfold cst; rw [show lpE (os_sg τ 0 10 0 (nbS τ (nI (t + n7)))) = _ from z_7s]) (by rw [cps, loop_s, if_pos hlt9]; unfold cst; rw [show lpE (os_sg τ 0 10 0 (nbS τ (nI (t + n7)))) = _ from z_7s]; exact zs_12) hV (lv_sub hl [2, 3, 4, 1, 0] rfl)
                    · exact absurd hp.2.2 (fun h => by cases h)
                  · exact absurd hp.2 (fun h => by cases h)
                · exact absurd hp.2.2 (fun h => by cases h)
        exact loop (n7 + 1) 0 0 _ _ ls _ _ (by omega) (by omega) rfl rfl hV (lv_sub hl [3, 4, 2, 1, 0] rfl)
      · skip
        refine os_throw (own := "RobotFaults") (cls := "java/lang/IllegalArgumentException") (text := "time ends at 100000") (names := ["java/lang/RuntimeException", "java/lang/Exception"]) hx hb hlt hown (by decide) (by decide) hE hV k_261 k_10 (by decide +kernel) th_IllegalArgumentException (hl.1.trans hml.symm) d_RF_pass_32 d_RF_pass_35 d_RF_pass_36 d_RF_pass_38 d_RF_pass_41 hout hlocks (Nat.le_of_ble_eq_true rfl) (Nat.le_of_ble_eq_true rfl) (Nat.le_of_ble_eq_true rfl) (Nat.le_of_ble_eq_true rfl) (Nat.le_of_ble_eq_true rfl) (Nat.le_of_ble_eq_true rfl) ?_
        exact Or.inl ⟨fun h => c_3 h.2.2, rfl, rfl⟩
    · skip
      refine os_throw (own := "RobotFaults") (cls := "java/lang/IllegalArgumentException") (text := "0 to 1000 seconds go by") (names := ["java/lang/RuntimeException", "java/lang/Exception"]) hx hb hlt hown (by decide) (by decide) hE hV k_261 k_10 (by decide +kernel) th_IllegalArgumentException (hl.1.trans hml.symm) d_RF_pass_11 d_RF_pass_14 d_RF_pass_15 d_RF_pass_17 d_RF_pass_20 hout hlocks (Nat.le_of_ble_eq_true rfl) (Nat.le_of_ble_eq_true rfl) (Nat.le_of_ble_eq_true rfl) (Nat.le_of_ble_eq_true rfl) (Nat.le_of_ble_eq_true rfl) (Nat.le_of_ble_eq_true rfl) ?_
      exact Or.inl ⟨fun h => c_2 h.2.1, rfl, rfl⟩
