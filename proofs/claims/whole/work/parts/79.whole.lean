/-! THE WHOLE -/
set_option maxHeartbeats 8000000 in
set_option maxRecDepth 100000 in
theorem whole_start {p : Program} {e : Env} {s : State} {m : MethodId} {below : List Frame} {meth : Method} {c : Code} (l : Launch) (hlt : l.stackTraces = false) {b L : Nat} {xs : Nat → Int32} (hL : L ≤ 2560) (C0 : lw_At p s m meth c b L xs) : W p l e room_1 s m #[Value.ref b] below meth c s.heap [] 0 0 (lw_Z below #[Value.ref b] s) (entryFrame m ([Value.ref b] : List Value).toArray 7) := by
  obtain ⟨hx, hb, hr, hml, hown, hts0, hX, hbl, hlocks, hgv⟩ := id C0
  have hown : s.vm.findClass "RobotFaultsLaw" = some m.cls := hown
  obtain ⟨D, cA, hE, hN⟩ := os_enter hts0 hgv
  obtain ⟨bs, hbs0⟩ : ∃ z, z = s.heap.size := ⟨_, rfl⟩
  rw [← hbs0] at hE
  have hts := hE.hts (args := #[Value.ref b])
  have hK := hE.2.1
  have hbs := hE.2.2.1
  obtain ⟨ad0, hAd0⟩ : ∃ z : Nat → Nat → Nat, z = fun _ _ => 0 := ⟨_, rfl⟩
  have hV : os_V D cA bs os_0 ad0 s os_0 ad0 s.heap [] := os_V.rf ⟨fun K i h => absurd h (Nat.not_lt_zero _), fun K i K' i' h => absurd h (Nat.not_lt_zero _), fun K i h => absurd h (Nat.not_lt_zero _), fun K i h => absurd h (Nat.not_lt_zero _)⟩
  have hl := lv_entry ([.ref b]) (n := 7) (Nat.le_of_ble_eq_true rfl)
  rw [lg_entry_eq]
  generalize (lg_sl ([.ref b]) ++ List.replicate (7 - (lg_sl ([.ref b])).length) Slot.unset).toArray = ls at hl ⊢
  have hl : lv_has ls 7 [(0, .ref b)] := hl
  refine os_new (C := "RobotFaults") (T := F_RF) (N := 11) (ci := 0) (K := 0) hx hb hts i_RF t_RF t_RF_ok hown (hts _ k_18) (hts _ k_19) (hts _ k_1) hK hbs hV rfl rfl (by decide) (by show 0 + 1 ≤ 601024; omega) (by show 0 + 11 ≤ 7293034; omega) d_Law_law_0 (fun ad_1 H hV hAd_2 => ?_)
  refine W.eq (g2 := F0 m 3 ls [.ref (ad_1 0 (os_n os_0 0))]) rfl ?_
  refine W.eq (g2 := F0 m 3 ls [.ref (ad_1 0 0)]) rfl ?_
  refine lv_dup hx hb d_Law_law_3 rfl ?_
  refine os_call (c_RF_init l hlt D cA bs (os_nw os_0 0 0) ad_1 (by decide) (fun K h1 h2 => by rw [os_n_nw, if_neg (by omega)]; rfl)) hE hV k_22 k_1 (os_inI (n := 0) (bytes := prog_1_method_1_code) (maxL := 2) hx hb hown (hts _ k_20) rfl (hts _ k_21) (hts _ k_22) (by decide +kernel) rfl rfl d_Law_law_4) (hl.1.trans hml.symm) (Nat.le_of_ble_eq_true rfl) (Nat.le_of_ble_eq_true rfl) (Nat.le_of_ble_eq_true rfl) (by show 0 + 1 + 15 ≤ 601024; omega) (by show 0 + 11 + 152 ≤ 7293034; omega) (fun v σ1 ad1 H locs hp hext hV => ?_) (fun E q ce σ1 ad1 H locs hp hext hV hce hcv hcl => ?_)
  · obtain ⟨z_3s, hp⟩ := hp
    cases hp
    obtain ⟨σ_4, rfl⟩ : ∃ z, z = σ1 := ⟨_, rfl⟩
    obtain ⟨ad_5, rfl⟩ : ∃ z, z = ad1 := ⟨_, rfl⟩
    have he_6 := hext
    refine W.eq (g2 := F0 m 7 ls [.ref (ad_5 0 0)]) (by rw [he_6.2.1 0 0 (show 0 < os_n (os_nw os_0 0 0) 0 from by decide)]; rfl) ?_
    have hr_7 : 0 < os_n σ_4 0 := Nat.lt_of_lt_of_le (show 0 < os_n (os_nw os_0 0 0) 0 from by decide) (he_6.1 0)
    refine lv_astore_n (lv' := [(1, .ref (ad_5 0 0)), (0, .ref b)]) hx hb d_Law_law_7 rfl hl (by decide) rfl (fun ls hl => ?_)
    refine os_new (C := "RobotFaultsModel") (T := F_Model) (N := 38) (ci := 7) (K := 13) hx hb hts i_Model t_Model t_Model_ok hown (hts _ k_719) (hts _ k_720) (hts _ k_4) hK hbs hV rfl rfl (by decide) (by show (0 + 1) + 15 + 1 ≤ 601024; omega) (by show (0 + 11) + 152 + 38 ≤ 7293034; omega) d_Law_law_8 (fun ad_8 H hV hAd_9 => ?_)
    have hl : lv_has ls 7 [(1, .ref (ad_8 0 0)), (0, .ref b)] := by rw [hAd_9 0 0 hr_7]; exact hl
    refine W.eq (g2 := F0 m 11 ls [.ref (ad_8 13 (os_n σ_4 13))]) rfl ?_
    have h13 : os_n σ_4 13 = 0 := by rw [← z_3s]; decide +kernel
    refine W.eq (g2 := F0 m 11 ls [.ref (ad_8 13 0)]) (by rw [h13]) ?_
    refine lv_dup hx hb d_Law_law_11 rfl ?_
    refine os_call (c_Model_init l hlt D cA bs (os_nw σ_4 13 0) ad_8 (show 0 < os_n (os_nw σ_4 13 0) 13 from Nat.succ_pos _)) hE hV k_723 k_4 (os_inI (n := 0) (bytes := prog_9_method_1_code) (maxL := 1) hx hb hown (hts _ k_721) rfl (hts _ k_722) (hts _ k_723) (by decide +kernel) rfl rfl d_Law_law_12) (hl.1.trans hml.symm) (Nat.le_of_ble_eq_true rfl) (Nat.le_of_ble_eq_true rfl) (Nat.le_of_ble_eq_true rfl) (by show (0 + 1) + 15 + 1 + 31 ≤ 601024; omega) (by show (0 + 11) + 152 + 38 + 1244 ≤ 7293034; omega) (fun v σ1 ad1 H locs hp hext hV => ?_) (fun E q ce σ1 ad1 H locs hp hext hV hce hcv hcl => ?_)
    · obtain ⟨z_10s, hp⟩ := hp
      cases hp
      obtain ⟨σ_11, rfl⟩ : ∃ z, z = σ1 := ⟨_, rfl⟩
      obtain ⟨ad_12, rfl⟩ : ∃ z, z = ad1 := ⟨_, rfl⟩
      have he_13 := hext
      have hl : lv_has ls 7 [(1, .ref (ad_12 0 0)), (0, .ref b)] := by rw [he_13.2.1 0 0 hr_7]; exact hl
      refine W.eq (g2 := F0 m 15 ls [.ref (ad_12 13 0)]) (by rw [he_13.2.1 13 0 (show 0 < os_n (os_nw σ_4 13 0) 13 from Nat.succ_pos _)]; rfl) ?_
      have hr_14 : 0 < os_n σ_11 0 := Nat.lt_of_lt_of_le hr_7 (he_13.1 0)
      have hr_15 : 0 < os_n σ_11 13 := Nat.lt_of_lt_of_le (show 0 < os_n (os_nw σ_4 13 0) 13 from Nat.succ_pos _) (he_13.1 13)
      refine lv_astore_n (lv' := [(2, .ref (ad_12 13 0)), (1, .ref (ad_12 0 0)), (0, .ref b)]) hx hb d_Law_law_15 rfl hl (by decide) rfl (fun ls hl => ?_)
      refine lv_iconst (v := 1) hx hb d_Law_law_16 (by decide) ?_
      refine os_newi (atype := .long) (ty := .long) (K := 45) (t0 := 2) (N' := 1) hx hb rfl (hts _ k_987) (fun _ _ => rfl) hK hbs hV rfl rfl (fun _ => rfl) (by decide) (by decide +kernel) (by decide) (by show ((0 + 1) + 15 + 1) + 31 + 1 ≤ 601024; omega) (by show ((0 + 11) + 152 + 38) + 1244 + 1 ≤ 7293034; omega) d_Law_law_17 (fun ad_16 H hV hAd_17 => ?_)
      have hl : lv_has ls 7 [(2, .ref (ad_16 13 0)), (1, .ref (ad_16 0 0)), (0, .ref b)] := by rw [hAd_17 13 0 hr_15, hAd_17 0 0 hr_14]; exact hl
      refine W.eq (g2 := F0 m 19 ls [.ref (ad_16 45 (os_n σ_11 45))]) rfl ?_
      have h45z : os_n σ_11 45 = 0 := by rw [← z_10s, ← z_3s]; decide +kernel
      refine W.eq (g2 := F0 m 19 ls [.ref (ad_16 45 0)]) (by rw [h45z]) ?_
      refine lv_astore_n (lv' := [(3, .ref (ad_16 45 0)), (2, .ref (ad_16 13 0)), (1, .ref (ad_16 0 0)), (0, .ref b)]) hx hb d_Law_law_19 rfl hl (by decide) rfl (fun ls hl => ?_)
      refine lv_iconst (v := 0) hx hb d_Law_law_20 (by decide) ?_
      refine lv_istore (lv' := [(4, .int 0), (3, .ref (ad_16 45 0)), (2, .ref (ad_16 13 0)), (1, .ref (ad_16 0 0)), (0, .ref b)]) hx hb d_Law_law_21 hl (by decide) rfl (fun ls hl => ?_)
      have hI0 : lwI (os_nw σ_11 45 1) := by rw [← z_10s, ← z_3s]; exact ⟨⟨0, 0, 0, rel_1⟩, n45_1⟩
      have loop : ∀ (n j : Nat) (τ : os_S) (α : Nat → Nat → Nat) (ls : Array Slot) (H : Heap) (locs : List Loc), 5 * j ≤ L → L < 5 * j + n → lwI τ → os_V D cA bs os_0 ad0 s τ α H locs → lv_has ls 7 [(0, .ref b), (1, .ref (α 0 0)), (2, .ref (α 13 0)), (3, .ref (α 45 0)), (4, .int (nI (5 * j)))] → W p l e room_1 s m #[Value.ref b] below meth c H locs (49 + 21 * j) (1446 + 196 * j) (lw_Z below #[Value.ref b] s) (F0 m 23 ls []) := by
        intro n
        induction n with
        | zero => intro j τ α ls H locs h1 h2; exact absurd h2 (by omega)
        | succ n ih =>
          intro j τ α ls H locs hj hn hI9 hV hl
          have hr0 : 0 < os_n τ 0 := by obtain ⟨⟨z, t, nP, hRel⟩, h45⟩ := hI9; exact hRel.1.n 0 (by decide)
          have hr13 : 0 < os_n τ 13 := by obtain ⟨⟨z, t, nP, hRel⟩, h45⟩ := hI9; exact hRel.2.1.1.n 13 (by decide) (by decide)
          have hr45 : 0 < os_n τ 45 := hI9.2.1
          refine lv_iload hx hb d_Law_law_23 (lv_at hl 4 rfl) ?_
          refine lv_aload_n hx hb d_Law_law_25 rfl (lv_at hl 0 rfl) ?_
          refine os_slen hx hb hX hbl hV d_Law_law_26 ?_
          refine lv_iconst (v := 5) hx hb d_Law_law_27 (by decide) ?_
          refine lv_isub hx hb d_Law_law_28 ?_
          refine lv_icmp_gt (tgt := 1367) hx hb d_Law_law_29 (by decide) (fun c_18 => ?_) (fun c_18 => ?_)
          · skip
            refine lv_iconst (v := 1) hx hb d_Law_law_1367 (by decide) ?_
            refine va_forget (fun q hq => (hV.2.2.2.2 q hq).elim (fun ⟨K, i, h, _⟩ => absurd h (Nat.not_lt_zero _)) id) ?_
            refine W.widen (k := 601024) (n := 7293034) (by omega) (by omega) ?_
            exact lw_ret hx hb hr hlocks d_Law_law_1368
          · skip
            have h5 := sub5 hL hj c_18
            have kk : lwK p l e s m b below meth c (49 + 21 * j) (1446 + 196 * j) (5 * j) D cA bs ad0 (lw_Z below #[Value.ref b] s) := by
              intro σ2 ad2 ls H locs hI2 hV hl
              show W p l e room_1 s m #[Value.ref b] below meth c H locs (49 + 21 * j + 21) (1446 + 196 * j + 196) (lw_Z below #[Value.ref b] s) (F0 m 1361 ls [])
              rw [show 49 + 21 * j + 21 = 49 + 21 * (j + 1) from by omega, show 1446 + 196 * j + 196 = 1446 + 196 * (j + 1) from by omega]
              refine lv_iinc (v := nI (5 * (j + 1))) (lv' := [(4, .int (nI (5 * (j + 1)))), (0, .ref b), (1, .ref (ad2 0 0)), (2, .ref (ad2 13 0)), (3, .ref (ad2 45 0))]) hx hb d_Law_law_1361 hl (k := 4) rfl (show nI (5 * j) + 5 = nI (5 * (j + 1)) from nI_add (5 * j) 5) (by decide) rfl (fun ls hl => ?_)
              refine lv_goto (tgt := 23) hx hb d_Law_law_1364 (by decide) ?_
              exact ih (j + 1) σ2 ad2 ls H locs (by omega) (by omega) hI2 hV (lv_sub hl [1, 2, 3, 4, 0] rfl)
            refine lv_aload_n hx hb d_Law_law_32 rfl (lv_at hl 0 rfl) ?_
            refine lv_iload hx hb d_Law_law_33 (lv_at hl 4 rfl) ?_
            refine os_sld (n := (5 * j)) hx hb hX hbl hV hL rfl (by omega) d_Law_law_35 ?_
            refine lv_bipush (v := 31) hx hb d_Law_law_36 (by decide) ?_
            refine lv_iand hx hb d_Law_law_38 ?_
            by_cases h_19 : (xs (5 * j)) &&& 31 = 0
            · skip
              refine lv_tableIn (off := 97) (tgt := 136) hx hb d_Law_law_39 (by rw [h_19]; decide) (by rw [h_19]; decide) (by rw [h_19]; rfl) (by decide) ?_
              exact lc_piece l hlt hx hb hml hown hE hN hX hbl hL h5 (by omega) (by omega) kk hI9 hV (lv_sub hl [0, 1, 2, 3, 4] rfl)
            by_cases h_20 : (xs (5 * j)) &&& 31 = 1
            · skip
              refine lv_tableIn (off := 141) (tgt := 180) hx hb d_Law_law_39 (by rw [h_20]; decide) (by rw [h_20]; decide) (by rw [h_20]; rfl) (by decide) ?_
              exact lc_link l hlt hx hb hml hown hE hN hX hbl hL h5 (by omega) (by omega) kk hI9 hV (lv_sub hl [0, 1, 2, 3, 4] rfl)
            by_cases h_21 : (xs (5 * j)) &&& 31 = 2
            · skip
              refine lv_tableIn (off := 189) (tgt := 228) hx hb d_Law_law_39 (by rw [h_21]; decide) (by rw [h_21]; decide) (by rw [h_21]; rfl) (by decide) ?_
              exact lc_robot l hlt hx hb hml hown hE hN hX hbl hL h5 (by omega) (by omega) kk hI9 hV (lv_sub hl [0, 1, 2, 3, 4] rfl)
            by_cases h_22 : (xs (5 * j)) &&& 31 = 3
            · skip
              refine lv_tableIn (off := 245) (tgt := 284) hx hb d_Law_law_39 (by rw [h_22]; decide) (by rw [h_22]; decide) (by rw [h_22]; rfl) (by decide) ?_
              exact lc_rule l hlt hx hb hml hown hE hN hX hbl hL h5 (by omega) (by omega) kk hI9 hV (lv_sub hl [0, 1, 2, 3, 4] rfl)
            by_cases h_23 : (xs (5 * j)) &&& 31 = 4
            · skip
              refine lv_tableIn (off := 333) (tgt := 372) hx hb d_Law_law_39 (by rw [h_23]; decide) (by rw [h_23]; decide) (by rw [h_23]; rfl) (by decide) ?_
              exact lc_move l hlt hx hb hml hown hE hN hX hbl hL h5 (by omega) (by omega) kk hI9 hV (lv_sub hl [0, 1, 2, 3, 4] rfl)
            by_cases h_24 : (xs (5 * j)) &&& 31 = 5
            · skip
              refine lv_tableIn (off := 381) (tgt := 420) hx hb d_Law_law_39 (by rw [h_24]; decide) (by rw [h_24]; decide) (by rw [h_24]; rfl) (by decide) ?_
              exact lc_load l hlt hx hb hml hown hE hN hX hbl hL h5 (by omega) (by omega) kk hI9 hV (lv_sub hl [0, 1, 2, 3, 4] rfl)
            by_cases h_25 : (xs (5 * j)) &&& 31 = 6
            · skip
              refine lv_tableIn (off := 429) (tgt := 468) hx hb d_Law_law_39 (by rw [h_25]; decide) (by rw [h_25]; decide) (by rw [h_25]; rfl) (by decide) ?_
              exact lc_fault l hlt hx hb hml hown hE hN hX hbl hL h5 (by omega) (by omega) kk hI9 hV (lv_sub hl [0, 1, 2, 3, 4] rfl)
            by_cases h_26 : (xs (5 * j)) &&& 31 = 7
            · skip
              refine lv_tableIn (off := 497) (tgt := 536) hx hb d_Law_law_39 (by rw [h_26]; decide) (by rw [h_26]; decide) (by rw [h_26]; rfl) (by decide) ?_
              exact lc_step l hlt hx hb hml hown hE hN hX hbl hL h5 (by omega) (by omega) kk hI9 hV (lv_sub hl [0, 1, 2, 3, 4] rfl)
            by_cases h_27 : (xs (5 * j)) &&& 31 = 8
            · skip
              refine lv_tableIn (off := 565) (tgt := 604) hx hb d_Law_law_39 (by rw [h_27]; decide) (by rw [h_27]; decide) (by rw [h_27]; rfl) (by decide) ?_
              exact lc_test l hlt hx hb hml hown hE hN hX hbl hL h5 (by omega) (by omega) kk hI9 hV (lv_sub hl [0, 1, 2, 3, 4] rfl)
            by_cases h_28 : (xs (5 * j)) &&& 31 = 9
            · skip
              refine lv_tableIn (off := 656) (tgt := 695) hx hb d_Law_law_39 (by rw [h_28]; decide) (by rw [h_28]; decide) (by rw [h_28]; rfl) (by decide) ?_
              exact lc_resume l hlt hx hb hml hown hE hN hX hbl hL h5 (by omega) (by omega) kk hI9 hV (lv_sub hl [0, 1, 2, 3, 4] rfl)
            by_cases h_29 : (xs (5 * j)) &&& 31 = 10
            · skip
              refine lv_tableIn (off := 712) (tgt := 751) hx hb d_Law_law_39 (by rw [h_29]; decide) (by rw [h_29]; decide) (by rw [h_29]; rfl) (by decide) ?_
              exact lc_zone l hlt hx hb hml hown hE hN hX hbl hL h5 (by omega) (by omega) kk hI9 hV (lv_sub hl [0, 1, 2, 3, 4] rfl)
            by_cases h_30 : (xs (5 * j)) &&& 31 = 11
            · skip
              refine lv_tableIn (off := 780) (tgt := 819) hx hb d_Law_law_39 (by rw [h_30]; decide) (by rw [h_30]; decide) (by rw [h_30]; rfl) (by decide) ?_
              exact lc_found l hlt hx hb hml hown hE hN hX hbl hL h5 (by omega) (by omega) kk hI9 hV (lv_sub hl [0, 1, 2, 3, 4] rfl)
            by_cases h_31 : (xs (5 * j)) &&& 31 = 12
            · skip
              refine lv_tableIn (off := 848) (tgt := 887) hx hb d_Law_law_39 (by rw [h_31]; decide) (by rw [h_31]; decide) (by rw [h_31]; rfl) (by decide) ?_
              exact lc_tow l hlt hx hb hml hown hE hN hX hbl hL h5 (by omega) (by omega) kk hI9 hV (lv_sub hl [0, 1, 2, 3, 4] rfl)
            by_cases h_32 : (xs (5 * j)) &&& 31 = 13
            · skip
              refine lv_tableIn (off := 896) (tgt := 935) hx hb d_Law_law_39 (by rw [h_32]; decide) (by rw [h_32]; decide) (by rw [h_32]; rfl) (by decide) ?_
              exact lc_plant l hlt hx hb hml hown hE hN hX hbl hL h5 (by omega) (by omega) kk hI9 hV (lv_sub hl [0, 1, 2, 3, 4] rfl)
            by_cases h_33 : (xs (5 * j)) &&& 31 = 14
            · skip
              refine lv_tableIn (off := 956) (tgt := 995) hx hb d_Law_law_39 (by rw [h_33]; decide) (by rw [h_33]; decide) (by rw [h_33]; rfl) (by decide) ?_
              exact lc_pass l hlt hx hb hml hown hE hN hX hbl hL h5 (by omega) (by omega) kk hI9 hV (lv_sub hl [0, 1, 2, 3, 4] rfl)
            by_cases h_34 : (xs (5 * j)) &&& 31 = 15
            · skip
              refine lv_tableIn (off := 1012) (tgt := 1051) hx hb d_Law_law_39 (by rw [h_34]; decide) (by rw [h_34]; decide) (by rw [h_34]; rfl) (by decide) ?_
              exact lc_acknowledge l hlt hx hb hml hown hE hN hX hbl hL h5 (by omega) (by omega) kk hI9 hV (lv_sub hl [0, 1, 2, 3, 4] rfl)
            by_cases h_35 : (xs (5 * j)) &&& 31 = 16
            · skip
              refine lv_tableIn (off := 1080) (tgt := 1119) hx hb d_Law_law_39 (by rw [h_35]; decide) (by rw [h_35]; decide) (by rw [h_35]; rfl) (by decide) ?_
              exact lc_alarm l hlt hx hb hml hown hE hN hX hbl hL h5 (by omega) (by omega) kk hI9 hV (lv_sub hl [0, 1, 2, 3, 4] rfl)
            by_cases h_36 : (xs (5 * j)) &&& 31 = 17
            · skip
              refine lv_tableIn (off := 1148) (tgt := 1187) hx hb d_Law_law_39 (by rw [h_36]; decide) (by rw [h_36]; decide) (by rw [h_36]; rfl) (by decide) ?_
              exact lc_known l hlt hx hb hml hown hE hN hX hbl hL h5 (by omega) (by omega) kk hI9 hV (lv_sub hl [0, 1, 2, 3, 4] rfl)
            by_cases h_37 : (xs (5 * j)) &&& 31 = 18
            · skip
              refine lv_tableIn (off := 1216) (tgt := 1255) hx hb d_Law_law_39 (by rw [h_37]; decide) (by rw [h_37]; decide) (by rw [h_37]; rfl) (by decide) ?_
              exact lc_told l hlt hx hb hml hown hE hN hX hbl hL h5 (by omega) (by omega) kk hI9 hV (lv_sub hl [0, 1, 2, 3, 4] rfl)
            by_cases h_38 : (xs (5 * j)) &&& 31 = 19
            · skip
              refine lv_tableIn (off := 1284) (tgt := 1323) hx hb d_Law_law_39 (by rw [h_38]; decide) (by rw [h_38]; decide) (by rw [h_38]; rfl) (by decide) ?_
              exact lc_first l hlt hx hb hml hown hE hN hX hbl hL h5 (by omega) (by omega) kk hI9 hV (lv_sub hl [0, 1, 2, 3, 4] rfl)
            by_cases h_39 : (xs (5 * j)) &&& 31 = 20
            · skip
              refine lv_tableIn (off := 1297) (tgt := 1336) hx hb d_Law_law_39 (by rw [h_39]; decide) (by rw [h_39]; decide) (by rw [h_39]; rfl) (by decide) ?_
              exact lc_count l hlt hx hb hml hown hE hN hX hbl hL h5 (by omega) (by omega) kk hI9 hV (lv_sub hl [0, 1, 2, 3, 4] rfl)
            refine lv_tableOut (tgt := 1361) hx hb d_Law_law_39 (tsOut (n := 21) (fun k hk => by rcases (show k = 0 ∨ k = 1 ∨ k = 2 ∨ k = 3 ∨ k = 4 ∨ k = 5 ∨ k = 6 ∨ k = 7 ∨ k = 8 ∨ k = 9 ∨ k = 10 ∨ k = 11 ∨ k = 12 ∨ k = 13 ∨ k = 14 ∨ k = 15 ∨ k = 16 ∨ k = 17 ∨ k = 18 ∨ k = 19 ∨ k = 20 by omega) with rfl | rfl | rfl | rfl | rfl | rfl | rfl | rfl | rfl | rfl | rfl | rfl | rfl | rfl | rfl | rfl | rfl | rfl | rfl | rfl | rfl <;> assumption)) (by decide) ?_
            refine W.widen (k := 49 + 21 * j + 21) (n := 1446 + 196 * j + 196) (by omega) (by omega) ?_
            exact kk τ α ls H locs hI9 hV (lv_sub hl [0, 1, 2, 3, 4] rfl)
      exact loop (L + 1) 0 _ _ ls _ _ (by omega) (by omega) hI0 hV (lv_sub hl [4, 3, 2, 1, 0] rfl)
    · exact absurd hp.2 (fun h => by cases h)
  · exact absurd hp.2 (fun h => by cases h)
set_option maxHeartbeats 4000000 in
theorem lw_walk (l : Launch) (hlt : l.stackTraces = false) (b : Addr) (xs : List Int32) : MetFree l x (headSpec (Jvm.Cond.code x code maxLocals ret :: tables_1) room_1) (lw_P b xs) (fun _ _ _ _ _ => True) lw_Q := by
  refine MetFree.of_bodyS (code := code) (maxLocals := maxLocals) (ret := ret) (by decide) ?_ ?_
  · intro args s m h hn
    obtain ⟨meth, c, h1, h2, h3, h4, h5, h6, -, -⟩ := Cond.code_spec hn (atoms_spec (ws := Jvm.Cond.code x code maxLocals ret :: tables_1) h _ List.mem_cons_self)
    exact ⟨meth, c, h1, h2, h3, h4, h5, h6⟩
  · intro p e s m args below meth c s₁ B hml0 hP _
    obtain ⟨rfl, hx, hbd, hgv⟩ := hP
    obtain ⟨scr, harrAt, hlist, hof, hsmall⟩ := hx
    obtain ⟨hcb, hkn, -, -⟩ := State.arrayAt?_spec harrAt
    have hown : s.vm.findClass R_law = some m.cls := findClass_of_methodNamed B.named
    have hts0 : ∀ c ∈ (Jvm.Cond.code x code maxLocals ret :: tables_1), c.before #[Value.ref b] s = true := atoms_spec (ws := Jvm.Cond.code x code maxLocals ret :: tables_1) B.pre
    have hts : ∀ w ∈ lw_tbl, w.before #[Value.ref b] s = true := k2_hts_sels lw_privs (fun w hw => hts0 w (List.mem_cons_of_mem _ hw)) lw_privs_ok
    have hml : c.maxLocals = 7 := B.maxLocals_eq (hts0 _ List.mem_cons_self)
    have X₀ : Stand p l e room_1 s m #[Value.ref b] below meth c s₁ [] 0 0 := Stand.of_body B
    have hh0 : s₁.heap = s.heap := by rw [B.state]; rfl
    have hsz : scr.slots.size = xs.length := by rw [← Array.length_toList, hlist, List.length_map]
    have hval : ∀ j : Nat, j < xs.length → scr.slots[j]? = some (.int (xs.getD j 0)) := fun j hj => by
      rw [← Array.getElem?_toList, hlist]
      simp [hj]
    have hbl : b < s.heap.size := (Array.getElem?_eq_some_iff.mp hcb).1
    have hX : va_X b xs.length (fun j => xs.getD j 0) s s.heap := ⟨scr, hcb, hof, hkn, hsz, hval⟩
    have K : W p l e room_1 s m #[Value.ref b] below meth c s₁.heap [] 0 0 (lw_Z below #[Value.ref b] s) (entryFrame m ([Value.ref b] : List Value).toArray 7) := by
      rw [hh0]
      exact whole_start l hlt hbd ⟨B.exec, B.bytes, B.returns, hml, hown, hts, hX, hbl, B.notSynchronized, hgv⟩
    obtain ⟨t, a1, o, b1, b2, b3⟩ := K s₁ rfl X₀
    exact ⟨t, o, a1, b1, b2, b3⟩
theorem lw_pre_spec {args : Array Value} {s : State} (h : (Jvm.Cond.and given_1 narrow_1).before args s = true) (hr : rest_1_c.before args s = true) : ∃ (b : Addr) (xs : List Int32), lw_P b xs args s := by
  have hs := flat_of_before _ h
  have hq := flat_of_before _ hr
  have hc : (Cond.count 1).before args s = true := hs _ (by decide +kernel)
  have harr : (Cond.arrayOf (.arg 0) .int).before args s = true := hs _ (by decide +kernel)
  have hle : (Cond.le (.length (.arg 0)) (.int 2560)).before args s = true := hs _ (by decide +kernel)
  have hlen : (Cond.isInt (.length (.arg 0))).before args s = true := hq _ (by decide +kernel)
  have hall : (Cond.all (.arg 0) (.isInt (.elem (.arg 0) (.index 0)))).before args s = true := hq _ (by decide +kernel)
  obtain ⟨b, xs, hb, hx⟩ := State.ints_of_pre rfl harr hlen hall
  have hsm : xs.length < 2 ^ 31 := hx.choose_spec.2.2.2
  have hev : (Term.length (.arg 0)).eval args s none [] s = some (.int xs.length.toInt32) := hx.length_eval hb
  have hv := Cond.le_ints hev (show (Term.int 2560).eval args s none [] s = some (.int 2560) from rfl)
  have hd : xs.length.toInt32 ≤ 2560 := by
    simpa [Cond.before, Cond.holds, hv] using hle
  have hN : xs.length ≤ 2560 := (Int32.ofNat_le_ofNat hsm (by decide)).mp (show Int32.ofNat xs.length ≤ Int32.ofNat 2560 from hd)
  exact ⟨b, xs, Cond.one_arg hc (show args[0]? = some (.ref b) from hb), hx, hN, h⟩
theorem lw_comes (l : Launch) (hlt : l.stackTraces = false) : Comes l x (Jvm.Cond.code x code maxLocals ret :: tables_1) room_1 (fun tb e args s => Calls_1 tb e args s ∧ rest_1 tb e args s ∧ Pre_1 tb e args s)
    (fun _ _ args s o t => lw_Q args s o t) := by
  intro p e ha hc hk s m args below hf hfit hheap happ hpre
  obtain ⟨b, xs, hP⟩ := lw_pre_spec hpre.2.2 hpre.2.1
  obtain ⟨k, o, h1, h2, h3, hQ⟩ := lw_walk l hlt b xs p e ha hc hk s m args below hf ((Spec.applies_iff_loose hf).mp happ).1 hP trivial
  exact ⟨k, o, h1, h2, h3, hQ⟩
theorem lw_frame {s t : State} {o : Outcome} {args : Array Value} (h : Framed s o t [] 601024 7293034) :
    Framed s o t (fieldLocs frame_1_writes args s ++ arrayLocs frame_1_arrays args s ++ staticLocs frame_1_statics s) 601024 7293034 := h
theorem lw_limb (L : Cond) (hL : ∀ (args : Array Value) (s t : State), L.after args s (.returned (some (.int 1))) t = true) :
    ArmFor flags0 classFile x code maxLocals ret World_1 tables_1 room_1 Calls_1 rest_1 Pre_1
      (fun tb e a s o t => postC L tb e a s o t ∧ Framed s o t (fieldLocs frame_1_writes a s ++ arrayLocs frame_1_arrays a s ++ staticLocs frame_1_statics s) 601024 7293034) := by
  intro l hfl _ _ p e ha hc hk s m args below hf hfit hheap happ hpre
  obtain ⟨k, o, h1, h2, h3, rfl, hF⟩ := lw_comes l (by unfold Launch.stackTraces; rw [hfl]; decide +kernel) p e ha hc hk s m args below hf hfit hheap happ hpre
  exact ⟨k, _, h1, h2, h3, hL args s _, lw_frame hF⟩
theorem i_vc : Claimed_1_1 ∧ Claimed_1_2 := ⟨lw_limb limb_1_1 (fun args s t => by simp [limb_1_1, Cond.after, Cond.holds, Cond.value]), lw_limb limb_1_2 (fun args s t => Cond.after_iff.mpr (by
  first | (rw [show limb_1_2 = Cond.eq .result (.int 1) from rfl, Cond.eq_ints (x := 1) (y := 1) rfl rfl]; simp; done) | (simp [limb_1_2, Cond.value, Term.eval]; done)))⟩
