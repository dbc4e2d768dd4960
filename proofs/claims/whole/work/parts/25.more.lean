/-! LOOPS THAT SEEK; small methods of faults, alarms, robots, rules -/
/-- the first open fault of a robot and a kind, among the first -/
def ofA (σ : os_S) (r : Nat) (k : Int32) : Nat → Option Nat
  | 0 => none
  | j + 1 => match ofA σ r k j with
    | some t => some t
    | none => if j < os_n σ 10 ∧ fop σ j = true ∧ fR σ j = r ∧ os_g σ 10 2 j = k then some j else none
theorem ofA_step {σ : os_S} {r j : Nat} {k : Int32} (h : ofA σ r k j = none) : ofA σ r k (j + 1) = if j < os_n σ 10 ∧ fop σ j = true ∧ fR σ j = r ∧ os_g σ 10 2 j = k then some j else none := by rw [ofA, h]
theorem ofA_more {σ : os_S} {r j t : Nat} {k : Int32} (h : ofA σ r k j = some t) : ∀ d, ofA σ r k (j + d) = some t
  | 0 => h
  | d + 1 => by
    have := ofA_more h d
    rw [show j + (d + 1) = (j + d) + 1 by omega, ofA, this]
theorem ofA_found {σ : os_S} {r j : Nat} {k : Int32} (h : ofA σ r k j = none) (hc : j < os_n σ 10 ∧ fop σ j = true ∧ fR σ j = r ∧ os_g σ 10 2 j = k) (hj : j < 40) : ofA σ r k 40 = some j := by
  have h1 : ofA σ r k (j + 1) = some j := by rw [ofA_step h, if_pos hc]
  have h2 := ofA_more h1 (39 - j)
  rwa [show j + 1 + (39 - j) = 40 by omega] at h2
theorem ofA_is {σ : os_S} {r t : Nat} {k : Int32} : ∀ {j : Nat}, ofA σ r k j = some t → t < j ∧ t < os_n σ 10 ∧ fop σ t = true ∧ fR σ t = r ∧ os_g σ 10 2 t = k
  | 0, h => by cases h
  | j + 1, h => by
    rw [ofA] at h
    cases hq : ofA σ r k j with
    | some u =>
      rw [hq] at h
      cases h
      have := ofA_is hq
      exact ⟨by omega, this.2⟩
    | none =>
      rw [hq] at h
      simp only at h
      split at h
      · rename_i hc
        cases h
        exact ⟨by omega, hc⟩
      · cases h
/-- the latest alarm of a robot and a kind, among the first -/
def laA (σ : os_S) (r : Nat) (k : Int32) : Nat → Option Nat
  | 0 => none
  | j + 1 => if j < os_n σ 11 ∧ aR σ j = r ∧ os_g σ 11 2 j = k then some j else laA σ r k j
theorem laA_is {σ : os_S} {r t : Nat} {k : Int32} : ∀ {j : Nat}, laA σ r k j = some t → t < j ∧ t < os_n σ 11 ∧ aR σ t = r ∧ os_g σ 11 2 t = k
  | 0, h => by cases h
  | j + 1, h => by
    rw [laA] at h
    split at h
    · rename_i hc
      cases h
      exact ⟨by omega, hc⟩
    · have := laA_is h
      exact ⟨by omega, this.2⟩
set_option maxHeartbeats 4000000 in
set_option maxRecDepth 100000 in
theorem c_RF_openFault (l : Launch) (hlt : l.stackTraces = false) (D : va_G) (cA : Nat → ClassId) (bs : Nat) (σ : os_S) (ad : Nat → Nat → Nat) (i : Nat) (k : Int32) (hA : rfA σ) (hF : rfF σ) (hi : i < os_n σ 9) : os_Met l y_RF_openFault prog_1_method_34_code 7 (some (.object "RobotFaults$Fault")) { frames := 1, cells := 0, slots := 0, locals := 20 } D cA bs [.ref (ad 0 0), .ref (ad 9 i), .int k] σ ad (pv σ ad (some (va_rf ((ofA σ i k 40).map (ad 10))))) := by
  refine os_ofW (by decide) ?_
  intro p e s m below meth c hx hb hr hml hown hlocks hmn hout hE hV
  have hts := hE.hts (args := ([.ref (ad 0 0), .ref (ad 9 i), .int k] : List Value).toArray)
  have hK := hE.2.1
  have hbs := hE.2.2.1
  have hown : s.vm.findClass "RobotFaults" = some m.cls := hown
  have hl := lv_entry ([.ref (ad 0 0), .ref (ad 9 i), .int k]) (n := 7) (Nat.le_of_ble_eq_true rfl)
  rw [lg_entry_eq]
  generalize (lg_sl ([.ref (ad 0 0), .ref (ad 9 i), .int k]) ++ List.replicate (7 - (lg_sl ([.ref (ad 0 0), .ref (ad 9 i), .int k])).length) Slot.unset).toArray = ls at hl ⊢
  have hl : lv_has ls 7 [(0, .ref (ad 0 0)), (1, .ref (ad 9 i)), (2, .int k)] := hl
  refine lv_aload_n hx hb d_RF_openFault_0 rfl (lv_at hl 0 rfl) ?_
  refine os_get (C := "RobotFaults") (T := F_RF) (N := 11) (ci := 0) (K := 0) (j := 3) (i := 0) (v := .ref (ad 5 0)) hx hb hts i_RF hown hK hV rfl rfl (by decide) (hA.n 0 (by decide)) (hts _ k_71) (congrArg (fun z => va_rf (Option.map (ad 5) z)) (hA.r 3 (by decide))) d_RF_openFault_1 ?_
  refine lv_astore_n (lv' := [(3, .ref (ad 5 0)), (0, .ref (ad 0 0)), (1, .ref (ad 9 i)), (2, .int k)]) hx hb d_RF_openFault_4 rfl hl (by decide) rfl (fun ls hl => ?_)
  refine lv_aload_n hx hb d_RF_openFault_5 rfl (lv_at hl 0 rfl) ?_
  refine os_alen (K := 5) (i := 0) (t0 := 5) (v := 40) hx hb hK hV rfl rfl (hA.n 5 (by decide)) (congrArg Int32.ofNat hA.l5) d_RF_openFault_6 ?_
  refine lv_istore (lv' := [(4, .int 40), (3, .ref (ad 5 0)), (0, .ref (ad 0 0)), (1, .ref (ad 9 i)), (2, .int k)]) hx hb d_RF_openFault_7 hl (by decide) rfl (fun ls hl => ?_)
  refine lv_iconst (v := 0) hx hb d_RF_openFault_9 (by decide) ?_
  refine lv_istore (lv' := [(5, .int 0), (4, .int 40), (3, .ref (ad 5 0)), (0, .ref (ad 0 0)), (1, .ref (ad 9 i)), (2, .int k)]) hx hb d_RF_openFault_10 hl (by decide) rfl (fun ls hl => ?_)
  have loop : ∀ (n j : Nat)  (ls : Array Slot) (H : Heap) (locs : List Loc), j ≤ 40 → 40 < j + n → ofA σ i k j = none → os_V D cA bs σ ad s σ ad H locs → lv_has ls 7 [(0, .ref (ad 0 0)), (1, .ref (ad 9 i)), (2, .int k), (3, .ref (ad 5 0)), (4, .int 40), (5, .int (nI j))] → W p l e { frames := 1, cells := 0, slots := 0, locals := 20 } s m ([.ref (ad 0 0), .ref (ad 9 i), .int k] : List Value).toArray below meth c H locs (0) (0) (os_End D cA bs below s σ ad { frames := 1, cells := 0, slots := 0, locals := 20 } (pv σ ad (some (va_rf ((ofA σ i k 40).map (ad 10)))))) (F0 m 12 ls []) := by
    intro n
    induction n with
    | zero => intro j  ls H locs h1 h2; exact absurd h2 (by omega)
    | succ n loop_ih =>
      intro j  ls H locs loop_j loop_n loop_i hV hl
      refine lv_iload hx hb d_RF_openFault_12 (lv_at hl 5 rfl) ?_
      refine lv_iload hx hb d_RF_openFault_14 (lv_at hl 4 rfl) ?_
      refine lv_icmp_ge (tgt := 65) hx hb d_RF_openFault_16 (by decide) (fun c_1 => ?_) (fun c_1 => ?_)
      · skip
        refine lv_null hx hb d_RF_openFault_65 ?_
        refine os_aret hx hb hr (Or.inl ⟨_, rfl⟩) (Or.inl rfl) hlocks hV (Nat.le_of_ble_eq_true rfl) (Nat.le_of_ble_eq_true rfl) d_RF_openFault_66 ?_
        have hj := eq_of_le c_1 loop_j
        subst hj
        exact ⟨rfl, rfl, by rw [loop_i]; rfl⟩
      · skip
        refine lv_aload_n hx hb d_RF_openFault_19 rfl (lv_at hl 3 rfl) ?_
        refine lv_iload hx hb d_RF_openFault_20 (lv_at hl 5 rfl) ?_
        refine os_aaldN (K := 5) (i := 0) (t0 := 5) (n := j) hx hb hK hV rfl rfl (hA.n 5 (by decide)) rfl (by rw [show os_l σ 5 0 = 40 from hA.l5]; exact (lt_of_nle c_1 loop_j)) (by rw [show os_l σ 5 0 = 40 from hA.l5]; decide) d_RF_openFault_22 ?_
        by_cases u_2 : j < os_n σ 10
        · skip
          refine W.eq (g2 := F0 m 23 ls [.ref (ad 10 j)]) (by rw [hF.1.at (lt_of_nle c_1 loop_j) u_2]; rfl) ?_
          refine lv_astore (lv' := [(6, .ref (ad 10 j)), (0, .ref (ad 0 0)), (1, .ref (ad 9 i)), (2, .int k), (3, .ref (ad 5 0)), (4, .int 40), (5, .int (nI j))]) hx hb d_RF_openFault_23 hl (by decide) rfl (fun ls hl => ?_)
          refine lv_aload hx hb d_RF_openFault_25 (lv_at hl 0 rfl) ?_
          refine lv_ifnull hx hb d_RF_openFault_27 ?_
          refine lv_aload hx hb d_RF_openFault_30 (lv_at hl 0 rfl) ?_
          refine os_call (c_Fault_isOpen l hlt D cA bs σ ad j u_2) hE hV k_129 k_13 (os_inV (C := "RobotFaults$Fault") (n := 0) (bytes := prog_3_method_2_code) (maxL := 1) (ret := (some .boolean)) hx hb hown (hts _ k_126) (hts _ k_127) (hts _ k_128) (hts _ k_129) (by decide +kernel) rfl (os_recv hK hV rfl rfl u_2) rfl d_RF_openFault_32) (hl.1.trans hml.symm) (Nat.le_of_ble_eq_true rfl) (Nat.le_of_ble_eq_true rfl) (Nat.le_of_ble_eq_true rfl) (Nat.le_of_ble_eq_true rfl) (Nat.le_of_ble_eq_true rfl) (fun v σ1 ad1 H locs hp hext hV => ?_) (fun E q ce σ1 ad1 H locs hp hext hV hce hcv hcl => ?_)
          · obtain ⟨rfl, rfl, hp⟩ := hp
            cases hp
            refine W.eq (g2 := F0 m 35 ls [.int (bz (decide (os_g σ 10 10 j = -1)))]) rfl ?_
            refine lv_if_eq (tgt := 59) hx hb d_RF_openFault_35 (by decide) (fun c_3 => ?_) (fun c_3 => ?_)
            · skip
              refine lv_iinc (v := nI (j + 1)) (lv' := [(5, .int (nI (j + 1))), (6, .ref (ad 10 j)), (0, .ref (ad 0 0)), (1, .ref (ad 9 i)), (2, .int k), (3, .ref (ad 5 0)), (4, .int 40)]) hx hb d_RF_openFault_59 hl (k := 6) rfl (nI_1 j) (by decide) rfl (fun ls hl => ?_)
              refine lv_goto (tgt := 12) hx hb d_RF_openFault_62 (by decide) ?_
              exact loop_ih (j + 1)  ls H locs (Nat.succ_le_of_lt (lt_of_nle c_1 loop_j)) (by omega) (by rw [ofA_step loop_i, if_neg (fun h => bz_t c_3 h.2.1)]) hV (lv_sub hl [2, 3, 4, 5, 6, 0] rfl)
            · skip
              refine lv_aload hx hb d_RF_openFault_38 (lv_at hl 0 rfl) ?_
              refine os_getN (C := "RobotFaults$Fault") (T := F_Fault) (N := 11) (ci := 4) (K := 10) (j := 1) (i := j) (v := .ref (ad 9 (fR σ j))) hx hb hts i_Fault hown hK hV rfl rfl (by decide) u_2 (hts _ k_421) (congrArg (fun z => va_rf (Option.map (ad 9) z)) (hF.2 j u_2)) d_RF_openFault_40 ?_
              refine lv_aload_n hx hb d_RF_openFault_43 rfl (lv_at hl 2 rfl) ?_
              refine lv_acmp_ne (rx := some (ad 9 (fR σ j))) (ry := some (ad 9 i)) (tgt := 59) hx hb d_RF_openFault_44 (by decide) (fun c_4 => ?_) (fun c_4 => ?_)
              · skip
                have e_5 : ¬ fR σ j = i := fun h => c_4 (by rw [h])
                refine lv_iinc (v := nI (j + 1)) (lv' := [(5, .int (nI (j + 1))), (6, .ref (ad 10 j)), (0, .ref (ad 0 0)), (1, .ref (ad 9 i)), (2, .int k), (3, .ref (ad 5 0)), (4, .int 40)]) hx hb d_RF_openFault_59 hl (k := 6) rfl (nI_1 j) (by decide) rfl (fun ls hl => ?_)
                refine lv_goto (tgt := 12) hx hb d_RF_openFault_62 (by decide) ?_
                exact loop_ih (j + 1)  ls H locs (Nat.succ_le_of_lt (lt_of_nle c_1 loop_j)) (by omega) (by rw [ofA_step loop_i, if_neg (fun h => e_5 h.2.2.1)]) hV (lv_sub hl [2, 3, 4, 5, 6, 0] rfl)
              · skip
                have e_6 : fR σ j = i := (hV.1.2.1 9 (fR σ j) 9 i (hV.1.2.2.1 10 j u_2 1 9 _ rfl (hF.2 j u_2)) hi (Option.some.inj c_4)).2
                refine lv_aload hx hb d_RF_openFault_47 (lv_at hl 0 rfl) ?_
                refine os_getN (C := "RobotFaults$Fault") (T := F_Fault) (N := 11) (ci := 4) (K := 10) (j := 2) (i := j) (v := .int (os_g σ 10 2 j)) hx hb hts i_Fault hown hK hV rfl rfl (by decide) u_2 (hts _ k_424) rfl d_RF_openFault_49 ?_
                refine lv_iload_n hx hb d_RF_openFault_52 rfl (lv_at hl 3 rfl) ?_
                refine lv_icmp_ne (tgt := 59) hx hb d_RF_openFault_53 (by decide) (fun c_7 => ?_) (fun c_7 => ?_)
                · skip
                  refine lv_iinc (v := nI (j + 1)) (lv' := [(5, .int (nI (j + 1))), (6, .ref (ad 10 j)), (0, .ref (ad 0 0)), (1, .ref (ad 9 i)), (2, .int k), (3, .ref (ad 5 0)), (4, .int 40)]) hx hb d_RF_openFault_59 hl (k := 6) rfl (nI_1 j) (by decide) rfl (fun ls hl => ?_)
                  refine lv_goto (tgt := 12) hx hb d_RF_openFault_62 (by decide) ?_
                  exact loop_ih (j + 1)  ls H locs (Nat.succ_le_of_lt (lt_of_nle c_1 loop_j)) (by omega) (by rw [ofA_step loop_i, if_neg (fun h => c_7 h.2.2.2)]) hV (lv_sub hl [2, 3, 4, 5, 6, 0] rfl)
                · skip
                  refine lv_aload hx hb d_RF_openFault_56 (lv_at hl 0 rfl) ?_
                  refine os_aret hx hb hr (Or.inl ⟨_, rfl⟩) (Or.inr ⟨_, rfl⟩) hlocks hV (Nat.le_of_ble_eq_true rfl) (Nat.le_of_ble_eq_true rfl) d_RF_openFault_58 ?_
                  exact ⟨rfl, rfl, by rw [ofA_found loop_i ⟨u_2, bz_1 c_3, e_6, c_7⟩ (lt_of_nle c_1 loop_j)]; rfl⟩
          · exact absurd hp.2.2 (fun h => by cases h)
        · skip
          refine W.eq (g2 := F0 m 23 ls [.null]) (by rw [hF.1.an (lt_of_nle c_1 loop_j) u_2]; rfl) ?_
          refine lv_astoreN (lv' := [(6, .null), (0, .ref (ad 0 0)), (1, .ref (ad 9 i)), (2, .int k), (3, .ref (ad 5 0)), (4, .int 40), (5, .int (nI j))]) hx hb d_RF_openFault_23 hl (by decide) rfl (fun ls hl => ?_)
          refine lv_aloadN hx hb d_RF_openFault_25 (lv_at hl 0 rfl) ?_
          refine lv_ifnullN (tgt := 59) hx hb d_RF_openFault_27 (by decide) ?_
          refine lv_iinc (v := nI (j + 1)) (lv' := [(5, .int (nI (j + 1))), (6, .null), (0, .ref (ad 0 0)), (1, .ref (ad 9 i)), (2, .int k), (3, .ref (ad 5 0)), (4, .int 40)]) hx hb d_RF_openFault_59 hl (k := 6) rfl (nI_1 j) (by decide) rfl (fun ls hl => ?_)
          refine lv_goto (tgt := 12) hx hb d_RF_openFault_62 (by decide) ?_
          exact loop_ih (j + 1)  ls H locs (Nat.succ_le_of_lt (lt_of_nle c_1 loop_j)) (by omega) (by rw [ofA_step loop_i, if_neg (fun h => u_2 h.1)]) hV (lv_sub hl [2, 3, 4, 5, 6, 0] rfl)
  exact loop (40 + 1) 0  ls _ _ (by omega) (by omega) rfl hV (lv_sub hl [3, 4, 5, 2, 1, 0] rfl)
set_option maxHeartbeats 4000000 in
set_option maxRecDepth 100000 in
theorem c_RF_latestAlarm (l : Launch) (hlt : l.stackTraces = false) (D : va_G) (cA : Nat → ClassId) (bs : Nat) (σ : os_S) (ad : Nat → Nat → Nat) (i : Nat) (k : Int32) (hA : rfA σ) (hL : rfL σ) (hi : i < os_n σ 9) : os_Met l y_RF_latestAlarm prog_1_method_37_code 8 (some (.object "RobotFaults$Alarm")) { frames := 0, cells := 0, slots := 0, locals := 0 } D cA bs [.ref (ad 0 0), .ref (ad 9 i), .int k] σ ad (pv σ ad (some (va_rf ((laA σ i k 40).map (ad 11))))) := by
  refine os_ofW (by decide) ?_
  intro p e s m below meth c hx hb hr hml hown hlocks hmn hout hE hV
  have hts := hE.hts (args := ([.ref (ad 0 0), .ref (ad 9 i), .int k] : List Value).toArray)
  have hK := hE.2.1
  have hbs := hE.2.2.1
  have hown : s.vm.findClass "RobotFaults" = some m.cls := hown
  have hl := lv_entry ([.ref (ad 0 0), .ref (ad 9 i), .int k]) (n := 8) (Nat.le_of_ble_eq_true rfl)
  rw [lg_entry_eq]
  generalize (lg_sl ([.ref (ad 0 0), .ref (ad 9 i), .int k]) ++ List.replicate (8 - (lg_sl ([.ref (ad 0 0), .ref (ad 9 i), .int k])).length) Slot.unset).toArray = ls at hl ⊢
  have hl : lv_has ls 8 [(0, .ref (ad 0 0)), (1, .ref (ad 9 i)), (2, .int k)] := hl
  refine lv_null hx hb d_RF_latestAlarm_0 ?_
  refine lv_astore_nN (lv' := [(3, .null), (0, .ref (ad 0 0)), (1, .ref (ad 9 i)), (2, .int k)]) hx hb d_RF_latestAlarm_1 rfl hl (by decide) rfl (fun ls hl => ?_)
  refine lv_aload_n hx hb d_RF_latestAlarm_2 rfl (lv_at hl 1 rfl) ?_
  refine os_get (C := "RobotFaults") (T := F_RF) (N := 11) (ci := 0) (K := 0) (j := 4) (i := 0) (v := .ref (ad 6 0)) hx hb hts i_RF hown hK hV rfl rfl (by decide) (hA.n 0 (by decide)) (hts _ k_72) (congrArg (fun z => va_rf (Option.map (ad 6) z)) (hA.r 4 (by decide))) d_RF_latestAlarm_3 ?_
  refine lv_astore (lv' := [(4, .ref (ad 6 0)), (3, .null), (0, .ref (ad 0 0)), (1, .ref (ad 9 i)), (2, .int k)]) hx hb d_RF_latestAlarm_6 hl (by decide) rfl (fun ls hl => ?_)
  refine lv_aload hx hb d_RF_latestAlarm_8 (lv_at hl 0 rfl) ?_
  refine os_alen (K := 6) (i := 0) (t0 := 6) (v := 40) hx hb hK hV rfl rfl (hA.n 6 (by decide)) (congrArg Int32.ofNat hA.l6) d_RF_latestAlarm_10 ?_
  refine lv_istore (lv' := [(5, .int 40), (4, .ref (ad 6 0)), (3, .null), (0, .ref (ad 0 0)), (1, .ref (ad 9 i)), (2, .int k)]) hx hb d_RF_latestAlarm_11 hl (by decide) rfl (fun ls hl => ?_)
  refine lv_iconst (v := 0) hx hb d_RF_latestAlarm_13 (by decide) ?_
  refine lv_istore (lv' := [(6, .int 0), (5, .int 40), (4, .ref (ad 6 0)), (3, .null), (0, .ref (ad 0 0)), (1, .ref (ad 9 i)), (2, .int k)]) hx hb d_RF_latestAlarm_14 hl (by decide) rfl (fun ls hl => ?_)
  have loop : ∀ (n j : Nat) (la : Option Nat) (ls : Array Slot) (H : Heap) (locs : List Loc), j ≤ 40 → 40 < j + n → la = laA σ i k j → os_V D cA bs σ ad s σ ad H locs → lv_has ls 8 [(0, .ref (ad 0 0)), (1, .ref (ad 9 i)), (2, .int k), (3, va_rf (la.map (ad 11))), (4, .ref (ad 6 0)), (5, .int 40), (6, .int (nI j))] → W p l e { frames := 0, cells := 0, slots := 0, locals := 0 } s m ([.ref (ad 0 0), .ref (ad 9 i), .int k] : List Value).toArray below meth c H locs (0) (0) (os_End D cA bs below s σ ad { frames := 0, cells := 0, slots := 0, locals := 0 } (pv σ ad (some (va_rf ((laA σ i k 40).map (ad 11)))))) (F0 m 16 ls []) := by
    intro n
    induction n with
    | zero => intro j la ls H locs h1 h2; exact absurd h2 (by omega)
    | succ n loop_ih =>
      intro j la ls H locs loop_j loop_n loop_i hV hl
      refine lv_iload hx hb d_RF_latestAlarm_16 (lv_at hl 6 rfl) ?_
      refine lv_iload hx hb d_RF_latestAlarm_18 (lv_at hl 5 rfl) ?_
      refine lv_icmp_ge (tgt := 62) hx hb d_RF_latestAlarm_20 (by decide) (fun c_1 => ?_) (fun c_1 => ?_)
      · skip
        cases la with
        | none =>
          have hl : lv_has ls 8 [(0, .ref (ad 0 0)), (1, .ref (ad 9 i)), (2, .int k), (3, .null), (4, .ref (ad 6 0)), (5, .int 40), (6, .int (nI j))] := hl
          refine lv_aload_nN hx hb d_RF_latestAlarm_62 rfl (lv_at hl 3 rfl) ?_
          refine os_aret hx hb hr (Or.inl ⟨_, rfl⟩) (Or.inl rfl) hlocks hV (Nat.le_of_ble_eq_true rfl) (Nat.le_of_ble_eq_true rfl) d_RF_latestAlarm_63 ?_
          have hj := eq_of_le c_1 loop_j
          subst hj
          exact ⟨rfl, rfl, by rw [← loop_i]; rfl⟩
        | some t_2 =>
          have hl : lv_has ls 8 [(0, .ref (ad 0 0)), (1, .ref (ad 9 i)), (2, .int k), (3, .ref (ad 11 t_2)), (4, .ref (ad 6 0)), (5, .int 40), (6, .int (nI j))] := hl
          refine lv_aload_n hx hb d_RF_latestAlarm_62 rfl (lv_at hl 3 rfl) ?_
          refine os_aret hx hb hr (Or.inl ⟨_, rfl⟩) (Or.inr ⟨_, rfl⟩) hlocks hV (Nat.le_of_ble_eq_true rfl) (Nat.le_of_ble_eq_true rfl) d_RF_latestAlarm_63 ?_
          have hj := eq_of_le c_1 loop_j
          subst hj
          exact ⟨rfl, rfl, by rw [← loop_i]; rfl⟩
      · skip
        refine lv_aload hx hb d_RF_latestAlarm_23 (lv_at hl 4 rfl) ?_
        refine lv_iload hx hb d_RF_latestAlarm_25 (lv_at hl 6 rfl) ?_
        refine os_aaldN (K := 6) (i := 0) (t0 := 6) (n := j) hx hb hK hV rfl rfl (hA.n 6 (by decide)) rfl (by rw [show os_l σ 6 0 = 40 from hA.l6]; exact (lt_of_nle c_1 loop_j)) (by rw [show os_l σ 6 0 = 40 from hA.l6]; decide) d_RF_latestAlarm_27 ?_
        by_cases u_3 : j < os_n σ 11
        · skip
          refine W.eq (g2 := F0 m 28 ls [.ref (ad 11 j)]) (by rw [hL.1.at (lt_of_nle c_1 loop_j) u_3]; rfl) ?_
          refine lv_astore (lv' := [(7, .ref (ad 11 j)), (0, .ref (ad 0 0)), (1, .ref (ad 9 i)), (2, .int k), (3, va_rf (la.map (ad 11))), (4, .ref (ad 6 0)), (5, .int 40), (6, .int (nI j))]) hx hb d_RF_latestAlarm_28 hl (by decide) rfl (fun ls hl => ?_)
          refine lv_aload hx hb d_RF_latestAlarm_30 (lv_at hl 0 rfl) ?_
          refine lv_ifnull hx hb d_RF_latestAlarm_32 ?_
          refine lv_aload hx hb d_RF_latestAlarm_35 (lv_at hl 0 rfl) ?_
          refine os_getN (C := "RobotFaults$Alarm") (T := F_Alarm) (N := 8) (ci := 5) (K := 11) (j := 1) (i := j) (v := .ref (ad 9 (aR σ j))) hx hb hts i_Alarm hown hK hV rfl rfl (by decide) u_3 (hts _ k_484) (congrArg (fun z => va_rf (Option.map (ad 9) z)) (hL.2.1 j u_3)) d_RF_latestAlarm_37 ?_
          refine lv_aload_n hx hb d_RF_latestAlarm_40 rfl (lv_at hl 2 rfl) ?_
          refine lv_acmp_ne (rx := some (ad 9 (aR σ j))) (ry := some (ad 9 i)) (tgt := 56) hx hb d_RF_latestAlarm_41 (by decide) (fun c_4 => ?_) (fun c_4 => ?_)
          · skip
            have e_5 : ¬ aR σ j = i := fun h => c_4 (by rw [h])
            refine lv_iinc (v := nI (j + 1)) (lv' := [(6, .int (nI (j + 1))), (7, .ref (ad 11 j)), (0, .ref (ad 0 0)), (1, .ref (ad 9 i)), (2, .int k), (3, va_rf (la.map (ad 11))), (4, .ref (ad 6 0)), (5, .int 40)]) hx hb d_RF_latestAlarm_56 hl (k := 7) rfl (nI_1 j) (by decide) rfl (fun ls hl => ?_)
            refine lv_goto (tgt := 16) hx hb d_RF_latestAlarm_59 (by decide) ?_
            exact loop_ih (j + 1) la ls H locs (Nat.succ_le_of_lt (lt_of_nle c_1 loop_j)) (by omega) (by rw [laA, if_neg (fun h => e_5 h.2.1), loop_i]) hV (lv_sub hl [2, 3, 4, 5, 6, 7, 0] rfl)
          · skip
            have e_6 : aR σ j = i := (hV.1.2.1 9 (aR σ j) 9 i (hV.1.2.2.1 11 j u_3 1 9 _ rfl (hL.2.1 j u_3)) hi (Option.some.inj c_4)).2
            refine lv_aload hx hb d_RF_latestAlarm_44 (lv_at hl 0 rfl) ?_
            refine os_getN (C := "RobotFaults$Alarm") (T := F_Alarm) (N := 8) (ci := 5) (K := 11) (j := 2) (i := j) (v := .int (os_g σ 11 2 j)) hx hb hts i_Alarm hown hK hV rfl rfl (by decide) u_3 (hts _ k_486) rfl d_RF_latestAlarm_46 ?_
            refine lv_iload_n hx hb d_RF_latestAlarm_49 rfl (lv_at hl 3 rfl) ?_
            refine lv_icmp_ne (tgt := 56) hx hb d_RF_latestAlarm_50 (by decide) (fun c_7 => ?_) (fun c_7 => ?_)
            · skip
              refine lv_iinc (v := nI (j + 1)) (lv' := [(6, .int (nI (j + 1))), (7, .ref (ad 11 j)), (0, .ref (ad 0 0)), (1, .ref (ad 9 i)), (2, .int k), (3, va_rf (la.map (ad 11))), (4, .ref (ad 6 0)), (5, .int 40)]) hx hb d_RF_latestAlarm_56 hl (k := 7) rfl (nI_1 j) (by decide) rfl (fun ls hl => ?_)
              refine lv_goto (tgt := 16) hx hb d_RF_latestAlarm_59 (by decide) ?_
              exact loop_ih (j + 1) la ls H locs (Nat.succ_le_of_lt (lt_of_nle c_1 loop_j)) (by omega) (by rw [laA, if_neg (fun h => c_7 h.2.2), loop_i]) hV (lv_sub hl [2, 3, 4, 5, 6, 7, 0] rfl)
            · skip
              refine lv_aload hx hb d_RF_latestAlarm_53 (lv_at hl 0 rfl) ?_
              refine lv_astore_n (lv' := [(3, .ref (ad 11 j)), (7, .ref (ad 11 j)), (0, .ref (ad 0 0)), (1, .ref (ad 9 i)), (2, .int k), (4, .ref (ad 6 0)), (5, .int 40), (6, .int (nI j))]) hx hb d_RF_latestAlarm_55 rfl hl (by decide) rfl (fun ls hl => ?_)
              refine lv_iinc (v := nI (j + 1)) (lv' := [(6, .int (nI (j + 1))), (3, .ref (ad 11 j)), (7, .ref (ad 11 j)), (0, .ref (ad 0 0)), (1, .ref (ad 9 i)), (2, .int k), (4, .ref (ad 6 0)), (5, .int 40)]) hx hb d_RF_latestAlarm_56 hl (k := 7) rfl (nI_1 j) (by decide) rfl (fun ls hl => ?_)
              refine lv_goto (tgt := 16) hx hb d_RF_latestAlarm_59 (by decide) ?_
              exact loop_ih (j + 1) (some j) ls H locs (Nat.succ_le_of_lt (lt_of_nle c_1 loop_j)) (by omega) (by rw [laA, if_pos ⟨u_3, e_6, c_7⟩]) hV (lv_sub hl [3, 4, 5, 1, 6, 7, 0] rfl)
        · skip
          refine W.eq (g2 := F0 m 28 ls [.null]) (by rw [hL.1.an (lt_of_nle c_1 loop_j) u_3]; rfl) ?_
          refine lv_astoreN (lv' := [(7, .null), (0, .ref (ad 0 0)), (1, .ref (ad 9 i)), (2, .int k), (3, va_rf (la.map (ad 11))), (4, .ref (ad 6 0)), (5, .int 40), (6, .int (nI j))]) hx hb d_RF_latestAlarm_28 hl (by decide) rfl (fun ls hl => ?_)
          refine lv_aloadN hx hb d_RF_latestAlarm_30 (lv_at hl 0 rfl) ?_
          refine lv_ifnullN (tgt := 56) hx hb d_RF_latestAlarm_32 (by decide) ?_
          refine lv_iinc (v := nI (j + 1)) (lv' := [(6, .int (nI (j + 1))), (7, .null), (0, .ref (ad 0 0)), (1, .ref (ad 9 i)), (2, .int k), (3, va_rf (la.map (ad 11))), (4, .ref (ad 6 0)), (5, .int 40)]) hx hb d_RF_latestAlarm_56 hl (k := 7) rfl (nI_1 j) (by decide) rfl (fun ls hl => ?_)
          refine lv_goto (tgt := 16) hx hb d_RF_latestAlarm_59 (by decide) ?_
          exact loop_ih (j + 1) la ls H locs (Nat.succ_le_of_lt (lt_of_nle c_1 loop_j)) (by omega) (by rw [laA, if_neg (fun h => u_3 h.1), loop_i]) hV (lv_sub hl [2, 3, 4, 5, 6, 7, 0] rfl)
  exact loop (40 + 1) 0 none ls _ _ (by omega) (by omega) rfl hV (lv_sub hl [4, 5, 6, 3, 2, 1, 0] rfl)
