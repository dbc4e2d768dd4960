/-! THE REFERENCE: the lost -/
set_option maxHeartbeats 4000000 in
set_option maxRecDepth 100000 in
theorem c_Model_reach (l : Launch) (hlt : l.stackTraces = false) (D : va_G) (cA : Nat → ClassId) (bs : Nat) (σ : os_S) (ad : Nat → Nat → Nat) (f : Nat) (hM : MI σ) (hf : f < 20) : os_Met l y_Model_reach prog_9_method_25_code 5 none { frames := 0, cells := 0, slots := 0, locals := 0 } D cA bs [.ref (ad 13 0), .int (nI f)] σ ad (fun r σ' ad' => ad = ad' ∧ fEq σ σ' ∧ (∃ g, fC σ' g ∧ farO (lkM σ) (iN (os_g σ 13 2 0)) f g) ∧ r = .inl none) := by
  refine os_ofW (by decide) ?_
  intro p e s m below meth c hx hb hr hml hown hlocks hmn hout hE hV
  have hts := hE.hts (args := ([.ref (ad 13 0), .int (nI f)] : List Value).toArray)
  have hK := hE.2.1
  have hbs := hE.2.2.1
  have hown : s.vm.findClass "RobotFaultsModel" = some m.cls := hown
  have hl := lv_entry ([.ref (ad 13 0), .int (nI f)]) (n := 5) (Nat.le_of_ble_eq_true rfl)
  rw [lg_entry_eq]
  generalize (lg_sl ([.ref (ad 13 0), .int (nI f)]) ++ List.replicate (5 - (lg_sl ([.ref (ad 13 0), .int (nI f)])).length) Slot.unset).toArray = ls at hl ⊢
  have hl : lv_has ls 5 [(0, .ref (ad 13 0)), (1, .int (nI f))] := hl
  have hM0 := hM
  refine lv_iconst (v := 0) hx hb d_Model_reach_0 (by decide) ?_
  refine lv_istore_n (lv' := [(2, .int 0), (0, .ref (ad 13 0)), (1, .int (nI f))]) hx hb d_Model_reach_1 rfl hl (by decide) rfl (fun ls hl => ?_)
  have loop : ∀ (n j : Nat)  (τ : os_S)  (ls : Array Slot) (H : Heap) (locs : List Loc), j ≤ 20 → 20 < j + n → True → (fEq σ τ ∧ ∀ x, x < j → os_g τ 44 x 0 = nI (if x = f then 0 else 20)) → os_V D cA bs σ ad s τ ad H locs → lv_has ls 5 [(0, .ref (ad 13 0)), (1, .int (nI f)), (2, .int (nI j))] → W p l e { frames := 0, cells := 0, slots := 0, locals := 0 } s m ([.ref (ad 13 0), .int (nI f)] : List Value).toArray below meth c H locs (0) (0) (os_End D cA bs below s σ ad { frames := 0, cells := 0, slots := 0, locals := 0 } (fun r σ' ad' => ad = ad' ∧ fEq σ σ' ∧ (∃ g, fC σ' g ∧ farO (lkM σ) (iN (os_g σ 13 2 0)) f g) ∧ r = .inl none)) (F0 m 2 ls []) := by
    intro n
    induction n with
    | zero => intro j  τ  ls H locs h1 h2; exact absurd h2 (by omega)
    | succ n loop_ih =>
      intro j  τ  ls H locs loop_j loop_n loop_i loop_s hV hl
      have hr_1 : 0 < os_n τ 13 := Nat.lt_of_lt_of_le (hM0.1.n 13 (by decide) (by decide)) (hV.2.1.1 13)
      have hM : MI τ := loop_s.1.MI hM0
      refine lv_iload_n hx hb d_Model_reach_2 rfl (lv_at hl 2 rfl) ?_
      refine lv_bipush (v := 20) hx hb d_Model_reach_3 (by decide) ?_
      refine lv_icmp_ge (tgt := 31) hx hb d_Model_reach_5 (by decide) (fun c_2 => ?_) (fun c_2 => ?_)
      · skip
        refine lv_iconst (v := 0) hx hb d_Model_reach_31 (by decide) ?_
        refine lv_istore_n (lv' := [(2, .int 0), (0, .ref (ad 13 0)), (1, .int (nI f))]) hx hb d_Model_reach_32 rfl hl (by decide) rfl (fun ls hl => ?_)
        have loop2 : ∀ (n j2 : Nat)  (τ2 : os_S)  (ls : Array Slot) (H : Heap) (locs : List Loc), j2 ≤ 20 → 20 < j2 + n → True → (fEq σ τ2 ∧ ∃ g, fC τ2 g ∧ rI (lkM σ) (iN (os_g σ 13 2 0)) f j2 g) → os_V D cA bs σ ad s τ2 ad H locs → lv_has ls 5 [(0, .ref (ad 13 0)), (1, .int (nI f)), (2, .int (nI j2))] → W p l e { frames := 0, cells := 0, slots := 0, locals := 0 } s m ([.ref (ad 13 0), .int (nI f)] : List Value).toArray below meth c H locs (0) (0) (os_End D cA bs below s σ ad { frames := 0, cells := 0, slots := 0, locals := 0 } (fun r σ' ad' => ad = ad' ∧ fEq σ σ' ∧ (∃ g, fC σ' g ∧ farO (lkM σ) (iN (os_g σ 13 2 0)) f g) ∧ r = .inl none)) (F0 m 33 ls []) := by
          intro n
          induction n with
          | zero => intro j2  τ2  ls H locs h1 h2; exact absurd h2 (by omega)
          | succ n loop2_ih =>
            intro j2  τ2  ls H locs loop2_j loop2_n loop2_i loop2_s hV hl
            have hr_3 : 0 < os_n τ2 13 := Nat.lt_of_lt_of_le (hM0.1.n 13 (by decide) (by decide)) (hV.2.1.1 13)
            obtain ⟨hfe2, g, hfc2, hri⟩ := loop2_s
            have hM : MI τ2 := hfe2.MI hM0
            refine lv_iload_n hx hb d_Model_reach_33 rfl (lv_at hl 2 rfl) ?_
            refine lv_bipush (v := 20) hx hb d_Model_reach_34 (by decide) ?_
            refine lv_icmp_ge (tgt := 126) hx hb d_Model_reach_36 (by decide) (fun c_4 => ?_) (fun c_4 => ?_)
            · skip
              refine os_vret hx hb hr hlocks hV (Nat.le_of_ble_eq_true rfl) (Nat.le_of_ble_eq_true rfl) d_Model_reach_126 ?_
              have hj := eq_of_le c_4 loop2_j
              rw [hj] at hri
              exact ⟨rfl, hfe2, ⟨g, hfc2, rI_far hri (fun x hx => (hfc2 x hx).2)⟩, rfl⟩
            · skip
              refine lv_iconst (v := 0) hx hb d_Model_reach_39 (by decide) ?_
              refine lv_istore_n (lv' := [(3, .int 0), (0, .ref (ad 13 0)), (1, .int (nI f)), (2, .int (nI j2))]) hx hb d_Model_reach_40 rfl hl (by decide) rfl (fun ls hl => ?_)
              have loop3 : ∀ (n j3 : Nat)  (τ3 : os_S)  (ls : Array Slot) (H : Heap) (locs : List Loc), j3 ≤ (iN (os_g σ 13 2 0)) → (iN (os_g σ 13 2 0)) < j3 + n → True → (fEq σ τ3 ∧ ∃ g', fC τ3 g' ∧ rM (lkM σ) (iN (os_g σ 13 2 0)) j2 j3 0 g g') → os_V D cA bs σ ad s τ3 ad H locs → lv_has ls 5 [(0, .ref (ad 13 0)), (1, .int (nI f)), (2, .int (nI j2)), (3, .int (nI j3))] → W p l e { frames := 0, cells := 0, slots := 0, locals := 0 } s m ([.ref (ad 13 0), .int (nI f)] : List Value).toArray below meth c H locs (0) (0) (os_End D cA bs below s σ ad { frames := 0, cells := 0, slots := 0, locals := 0 } (fun r σ' ad' => ad = ad' ∧ fEq σ σ' ∧ (∃ g, fC σ' g ∧ farO (lkM σ) (iN (os_g σ 13 2 0)) f g) ∧ r = .inl none)) (F0 m 41 ls []) := by
                intro n
                induction n with
                | zero => intro j3  τ3  ls H locs h1 h2; exact absurd h2 (by omega)
                | succ n loop3_ih =>
                  intro j3  τ3  ls H locs loop3_j loop3_n loop3_i loop3_s hV hl
                  have hr_5 : 0 < os_n τ3 13 := Nat.lt_of_lt_of_le (hM0.1.n 13 (by decide) (by decide)) (hV.2.1.1 13)
                  obtain ⟨hfe3, g3, hfc3, hrm3⟩ := loop3_s
                  have hM : MI τ3 := hfe3.MI hM0
                  have hz3 : os_g τ3 13 2 0 = nI (iN (os_g σ 13 2 0)) := (hfe3.2.2.2 13 2 0 (by decide)).trans hM0.2.1.1
                  refine lv_iload_n hx hb d_Model_reach_41 rfl (lv_at hl 3 rfl) ?_
                  refine lv_aload_n hx hb d_Model_reach_42 rfl (lv_at hl 0 rfl) ?_
                  refine os_get (C := "RobotFaultsModel") (T := F_Model) (N := 38) (ci := 7) (K := 13) (j := 2) (i := 0) (v := .int (os_g τ3 13 2 0)) hx hb hts i_Model hown hK hV rfl rfl (by decide) hr_5 (hts _ k_727) rfl d_Model_reach_43 ?_
                  refine lv_icmp_ge (tgt := 120) hx hb d_Model_reach_46 (by decide) (fun c_6 => ?_) (fun c_6 => ?_)
                  · skip
                    refine lv_iinc (v := nI (j2 + 1)) (lv' := [(2, .int (nI (j2 + 1))), (0, .ref (ad 13 0)), (1, .int (nI f)), (3, .int (nI j3))]) hx hb d_Model_reach_120 hl (k := 2) rfl (nI_1 j2) (by decide) rfl (fun ls hl => ?_)
                    refine lv_goto (tgt := 33) hx hb d_Model_reach_123 (by decide) ?_
                    exact loop2_ih (j2 + 1)  _  ls H locs (Nat.succ_le_of_lt (lt_of_nle c_4 loop2_j)) (by omega) trivial ⟨hfe3, g3, hfc3, rM_end (eq_of_le c_6 loop3_j hz3 (by have := hM0.2.1.2; omega)) hrm3 hri hM0.2.1.2 (lt_of_nle c_4 loop2_j)⟩ hV (lv_sub hl [1, 2, 0] rfl)
                  · skip
                    refine lv_iconst (v := 0) hx hb d_Model_reach_49 (by decide) ?_
                    refine lv_istore (lv' := [(4, .int 0), (0, .ref (ad 13 0)), (1, .int (nI f)), (2, .int (nI j2)), (3, .int (nI j3))]) hx hb d_Model_reach_50 hl (by decide) rfl (fun ls hl => ?_)
                    have loop4 : ∀ (n j4 : Nat)  (τ4 : os_S)  (ls : Array Slot) (H : Heap) (locs : List Loc), j4 ≤ (iN (os_g σ 13 2 0)) → (iN (os_g σ 13 2 0)) < j4 + n → True → (fEq σ τ4 ∧ ∃ g', fC τ4 g' ∧ rM (lkM σ) (iN (os_g σ 13 2 0)) j2 j3 j4 g g') → os_V D cA bs σ ad s τ4 ad H locs → lv_has ls 5 [(0, .ref (ad 13 0)), (1, .int (nI f)), (2, .int (nI j2)), (3, .int (nI j3)), (4, .int (nI j4))] → W p l e { frames := 0, cells := 0, slots := 0, locals := 0 } s m ([.ref (ad 13 0), .int (nI f)] : List Value).toArray below meth c H locs (0) (0) (os_End D cA bs below s σ ad { frames := 0, cells := 0, slots := 0, locals := 0 } (fun r σ' ad' => ad = ad' ∧ fEq σ σ' ∧ (∃ g, fC σ' g ∧ farO (lkM σ) (iN (os_g σ 13 2 0)) f g) ∧ r = .inl none)) (F0 m 52 ls []) := by
                      intro n
                      induction n with
                      | zero => intro j4  τ4  ls H locs h1 h2; exact absurd h2 (by omega)
                      | succ n loop4_ih =>
                        intro j4  τ4  ls H locs loop4_j loop4_n loop4_i loop4_s hV hl
                        have hr_7 : 0 < os_n τ4 13 := Nat.lt_of_lt_of_le (hM0.1.n 13 (by decide) (by decide)) (hV.2.1.1 13)
                        obtain ⟨hfe4, g4, hfc4, hrm4⟩ := loop4_s
                        have hM : MI τ4 := hfe4.MI hM0
                        have hz4 : os_g τ4 13 2 0 = nI (iN (os_g σ 13 2 0)) := (hfe4.2.2.2 13 2 0 (by decide)).trans hM0.2.1.1
                        refine lv_iload hx hb d_Model_reach_52 (lv_at hl 4 rfl) ?_
                        refine lv_aload_n hx hb d_Model_reach_54 rfl (lv_at hl 0 rfl) ?_
                        refine os_get (C := "RobotFaultsModel") (T := F_Model) (N := 38) (ci := 7) (K := 13) (j := 2) (i := 0) (v := .int (os_g τ4 13 2 0)) hx hb hts i_Model hown hK hV rfl rfl (by decide) hr_7 (hts _ k_727) rfl d_Model_reach_55 ?_
                        refine lv_icmp_ge (tgt := 114) hx hb d_Model_reach_58 (by decide) (fun c_8 => ?_) (fun c_8 => ?_)
                        · skip
                          refine lv_iinc (v := nI (j3 + 1)) (lv' := [(3, .int (nI (j3 + 1))), (0, .ref (ad 13 0)), (1, .int (nI f)), (2, .int (nI j2)), (4, .int (nI j4))]) hx hb d_Model_reach_114 hl (k := 3) rfl (nI_1 j3) (by decide) rfl (fun ls hl => ?_)
                          refine lv_goto (tgt := 41) hx hb d_Model_reach_117 (by decide) ?_
                          exact loop3_ih (j3 + 1)  _  ls H locs (Nat.succ_le_of_lt (lt_of_nle c_6 loop3_j hz3 (by have := hM0.2.1.2; omega))) (by omega) trivial ⟨hfe4, g4, hfc4, rM_next hrm4 (Or.inl (eq_of_le c_8 loop4_j hz4 (by have := hM0.2.1.2; omega)))⟩ hV (lv_sub hl [1, 2, 3, 0] rfl)
                        · skip
                          refine lv_aload_n hx hb d_Model_reach_61 rfl (lv_at hl 0 rfl) ?_
                          refine os_get (C := "RobotFaultsModel") (T := F_Model) (N := 38) (ci := 7) (K := 13) (j := 37) (i := 0) (v := .ref (ad 44 0)) hx hb hts i_Model hown hK hV rfl rfl (by decide) hr_7 (hts _ k_762) (congrArg (fun z => va_rf (Option.map (ad 44) z)) (hM.1.2.1 37 (by decide) (by decide))) d_Model_reach_62 ?_
                          refine lv_iload_n hx hb d_Model_reach_65 rfl (lv_at hl 3 rfl) ?_
                          refine os_ialdN (K := 44) (i := 0) (t0 := 0) (n := j3) hx hb hK hV rfl rfl rfl (hM.1.n 44 (by decide) (by decide)) rfl (by rw [show os_l τ4 44 0 = 20 from hM.1.2.2 44 (by decide) (by decide)]; have h9 := (Nat.lt_of_lt_of_le (lt_of_nle c_6 loop3_j hz3 (by have := hM0.2.1.2; omega)) hM0.2.1.2); omega) (by rw [show os_l τ4 44 0 = 20 from hM.1.2.2 44 (by decide) (by decide)]; decide) d_Model_reach_66 ?_
                          refine lv_iload_n hx hb d_Model_reach_67 rfl (lv_at hl 2 rfl) ?_
                          refine lv_icmp_ne (tgt := 114) hx hb d_Model_reach_68 (by decide) (fun c_9 => ?_) (fun c_9 => ?_)
                          · skip
                            refine lv_iinc (v := nI (j3 + 1)) (lv' := [(3, .int (nI (j3 + 1))), (0, .ref (ad 13 0)), (1, .int (nI f)), (2, .int (nI j2)), (4, .int (nI j4))]) hx hb d_Model_reach_114 hl (k := 3) rfl (nI_1 j3) (by decide) rfl (fun ls hl => ?_)
                            refine lv_goto (tgt := 41) hx hb d_Model_reach_117 (by decide) ?_
                            exact loop3_ih (j3 + 1)  _  ls H locs (Nat.succ_le_of_lt (lt_of_nle c_6 loop3_j hz3 (by have := hM0.2.1.2; omega))) (by omega) trivial ⟨hfe4, g4, hfc4, rM_next hrm4 (Or.inr (fun h => c_9 (by rw [(hfc4 j3 (Nat.lt_of_lt_of_le (lt_of_nle c_6 loop3_j hz3 (by have := hM0.2.1.2; omega)) hM0.2.1.2)).1, (rM_q hrm4 (Nat.lt_of_lt_of_le (lt_of_nle c_6 loop3_j hz3 (by have := hM0.2.1.2; omega)) hM0.2.1.2) (lt_of_nle c_4 loop2_j)).mpr h])))⟩ hV (lv_sub hl [1, 2, 3, 0] rfl)
                          · skip
                            refine lv_aload_n hx hb d_Model_reach_71 rfl (lv_at hl 0 rfl) ?_
                            refine os_get (C := "RobotFaultsModel") (T := F_Model) (N := 38) (ci := 7) (K := 13) (j := 3) (i := 0) (v := .ref (ad 14 0)) hx hb hts i_Model hown hK hV rfl rfl (by decide) hr_7 (hts _ k_728) (congrArg (fun z => va_rf (Option.map (ad 14) z)) (hM.1.2.1 3 (by decide) (by decide))) d_Model_reach_72 ?_
                            refine lv_bipush (v := 20) hx hb d_Model_reach_75 (by decide) ?_
                            refine lv_iload_n hx hb d_Model_reach_77 rfl (lv_at hl 3 rfl) ?_
                            refine lv_imul hx hb d_Model_reach_78 ?_
                            refine lv_iload hx hb d_Model_reach_79 (lv_at hl 4 rfl) ?_
                            refine lv_iadd hx hb d_Model_reach_81 ?_
                            refine os_zaldN (K := 14) (i := 0) (t0 := 1) (n := (20 * j3 + j4)) hx hb hK hV rfl rfl rfl (hM.1.n 14 (by decide) (by decide)) (ix20 rfl rfl) (by rw [show os_l τ4 14 0 = 400 from hM.1.2.2 14 (by decide) (by decide)]; have h9 := (show j3 < 20 ∧ j4 < 20 from ⟨(Nat.lt_of_lt_of_le (lt_of_nle c_6 loop3_j hz3 (by have := hM0.2.1.2; omega)) hM0.2.1.2), (Nat.lt_of_lt_of_le (lt_of_nle c_8 loop4_j hz4 (by have := hM0.2.1.2; omega)) hM0.2.1.2)⟩); omega) (by rw [show os_l τ4 14 0 = 400 from hM.1.2.2 14 (by decide) (by decide)]; decide) d_Model_reach_82 ?_
                            refine lv_if_eq (tgt := 108) hx hb d_Model_reach_83 (by decide) (fun c_10 => ?_) (fun c_10 => ?_)
                            · skip
                              refine lv_iinc (v := nI (j4 + 1)) (lv' := [(4, .int (nI (j4 + 1))), (0, .ref (ad 13 0)), (1, .int (nI f)), (2, .int (nI j2)), (3, .int (nI j3))]) hx hb d_Model_reach_108 hl (k := 4) rfl (nI_1 j4) (by decide) rfl (fun ls hl => ?_)
                              refine lv_goto (tgt := 52) hx hb d_Model_reach_111 (by decide) ?_
                              exact loop4_ih (j4 + 1)  _  ls H locs (Nat.succ_le_of_lt (lt_of_nle c_8 loop4_j hz4 (by have := hM0.2.1.2; omega))) (by omega) trivial ⟨hfe4, g4, hfc4, rM_skip hrm4 (lt_of_nle c_8 loop4_j hz4 (by have := hM0.2.1.2; omega)) hM0.2.1.2 (lt_of_nle c_6 loop3_j hz3 (by have := hM0.2.1.2; omega)) (lt_of_nle c_4 loop2_j) (fun h => (of_decide_eq_true h.1) ((hfe4.2.2.2 14 (20 * j3 + j4) 0 (by decide)).symm.trans c_10))⟩ hV (lv_sub hl [1, 2, 3, 4, 0] rfl)
                            · skip
                              refine lv_aload_n hx hb d_Model_reach_86 rfl (lv_at hl 0 rfl) ?_
                              refine os_get (C := "RobotFaultsModel") (T := F_Model) (N := 38) (ci := 7) (K := 13) (j := 37) (i := 0) (v := .ref (ad 44 0)) hx hb hts i_Model hown hK hV rfl rfl (by decide) hr_7 (hts _ k_762) (congrArg (fun z => va_rf (Option.map (ad 44) z)) (hM.1.2.1 37 (by decide) (by decide))) d_Model_reach_87 ?_
                              refine lv_iload hx hb d_Model_reach_90 (lv_at hl 4 rfl) ?_
                              refine os_ialdN (K := 44) (i := 0) (t0 := 0) (n := j4) hx hb hK hV rfl rfl rfl (hM.1.n 44 (by decide) (by decide)) rfl (by rw [show os_l τ4 44 0 = 20 from hM.1.2.2 44 (by decide) (by decide)]; have h9 := (Nat.lt_of_lt_of_le (lt_of_nle c_8 loop4_j hz4 (by have := hM0.2.1.2; omega)) hM0.2.1.2); omega) (by rw [show os_l τ4 44 0 = 20 from hM.1.2.2 44 (by decide) (by decide)]; decide) d_Model_reach_92 ?_
                              refine lv_bipush (v := 20) hx hb d_Model_reach_93 (by decide) ?_
                              refine lv_icmp_ne (tgt := 108) hx hb d_Model_reach_95 (by decide) (fun c_11 => ?_) (fun c_11 => ?_)
                              · skip
                                refine lv_iinc (v := nI (j4 + 1)) (lv' := [(4, .int (nI (j4 + 1))), (0, .ref (ad 13 0)), (1, .int (nI f)), (2, .int (nI j2)), (3, .int (nI j3))]) hx hb d_Model_reach_108 hl (k := 4) rfl (nI_1 j4) (by decide) rfl (fun ls hl => ?_)
                                refine lv_goto (tgt := 52) hx hb d_Model_reach_111 (by decide) ?_
                                exact loop4_ih (j4 + 1)  _  ls H locs (Nat.succ_le_of_lt (lt_of_nle c_8 loop4_j hz4 (by have := hM0.2.1.2; omega))) (by omega) trivial ⟨hfe4, g4, hfc4, rM_skip hrm4 (lt_of_nle c_8 loop4_j hz4 (by have := hM0.2.1.2; omega)) hM0.2.1.2 (lt_of_nle c_6 loop3_j hz3 (by have := hM0.2.1.2; omega)) (lt_of_nle c_4 loop2_j) (fun h => c_11 (by rw [(hfc4 j4 (Nat.lt_of_lt_of_le (lt_of_nle c_8 loop4_j hz4 (by have := hM0.2.1.2; omega)) hM0.2.1.2)).1, h.2]; rfl))⟩ hV (lv_sub hl [1, 2, 3, 4, 0] rfl)
                              · skip
                                refine lv_aload_n hx hb d_Model_reach_98 rfl (lv_at hl 0 rfl) ?_
                                refine os_get (C := "RobotFaultsModel") (T := F_Model) (N := 38) (ci := 7) (K := 13) (j := 37) (i := 0) (v := .ref (ad 44 0)) hx hb hts i_Model hown hK hV rfl rfl (by decide) hr_7 (hts _ k_762) (congrArg (fun z => va_rf (Option.map (ad 44) z)) (hM.1.2.1 37 (by decide) (by decide))) d_Model_reach_99 ?_
                                refine lv_iload hx hb d_Model_reach_102 (lv_at hl 4 rfl) ?_
                                refine lv_iload_n hx hb d_Model_reach_104 rfl (lv_at hl 2 rfl) ?_
                                refine lv_iconst (v := 1) hx hb d_Model_reach_105 (by decide) ?_
                                refine lv_iadd hx hb d_Model_reach_106 ?_
                                refine os_iastN (K := 44) (i := 0) (t0 := 0) (n := j4) hx hb hK hV rfl rfl rfl (hM.1.n 44 (by decide) (by decide)) rfl (by rw [show os_l τ4 44 0 = 20 from hM.1.2.2 44 (by decide) (by decide)]; have h9 := (Nat.lt_of_lt_of_le (lt_of_nle c_8 loop4_j hz4 (by have := hM0.2.1.2; omega)) hM0.2.1.2); omega) (by rw [show os_l τ4 44 0 = 20 from hM.1.2.2 44 (by decide) (by decide)]; decide) d_Model_reach_107 (fun H locs hV => ?_)
                                refine lv_iinc (v := nI (j4 + 1)) (lv' := [(4, .int (nI (j4 + 1))), (0, .ref (ad 13 0)), (1, .int (nI f)), (2, .int (nI j2)), (3, .int (nI j3))]) hx hb d_Model_reach_108 hl (k := 4) rfl (nI_1 j4) (by decide) rfl (fun ls hl => ?_)
                                refine lv_goto (tgt := 52) hx hb d_Model_reach_111 (by decide) ?_
                                exact loop4_ih (j4 + 1)  _  ls H locs (Nat.succ_le_of_lt (lt_of_nle c_8 loop4_j hz4 (by have := hM0.2.1.2; omega))) (by omega) trivial ⟨hfe4.sg, gup g4 j4 (j2 + 1), (by rw [nI_1]; exact hfc4.up (Nat.succ_le_of_lt (lt_of_nle c_4 loop2_j))), rM_write hrm4 (lt_of_nle c_8 loop4_j hz4 (by have := hM0.2.1.2; omega)) hM0.2.1.2 (lt_of_nle c_6 loop3_j hz3 (by have := hM0.2.1.2; omega)) (lt_of_nle c_4 loop2_j) (nI_inj ((hfc4 j3 (Nat.lt_of_lt_of_le (lt_of_nle c_6 loop3_j hz3 (by have := hM0.2.1.2; omega)) hM0.2.1.2)).1.symm.trans c_9) (by have := (hfc4 j3 (Nat.lt_of_lt_of_le (lt_of_nle c_6 loop3_j hz3 (by have := hM0.2.1.2; omega)) hM0.2.1.2)).2; omega) (by have := (lt_of_nle c_4 loop2_j); omega)) (decide_eq_true (fun h => c_10 ((hfe4.2.2.2 14 (20 * j3 + j4) 0 (by decide)).trans h))) (nI_inj ((hfc4 j4 (Nat.lt_of_lt_of_le (lt_of_nle c_8 loop4_j hz4 (by have := hM0.2.1.2; omega)) hM0.2.1.2)).1.symm.trans (show os_g τ4 44 j4 0 = nI 20 from c_11)) (by have := (hfc4 j4 (Nat.lt_of_lt_of_le (lt_of_nle c_8 loop4_j hz4 (by have := hM0.2.1.2; omega)) hM0.2.1.2)).2; omega) (by decide))⟩ hV (lv_sub hl [1, 2, 3, 4, 0] rfl)
                    exact loop4 ((iN (os_g σ 13 2 0)) + 1) 0  _  ls _ _ (by omega) (by omega) trivial ⟨hfe3, g3, hfc3, hrm3⟩ hV (lv_sub hl [1, 2, 3, 4, 0] rfl)
              exact loop3 ((iN (os_g σ 13 2 0)) + 1) 0  _  ls _ _ (by omega) (by omega) trivial ⟨hfe2, g, hfc2, rM_0⟩ hV (lv_sub hl [1, 2, 3, 0] rfl)
        exact loop2 (20 + 1) 0  _  ls _ _ (by omega) (by omega) trivial ⟨loop_s.1, far2 (eq_of_le c_2 loop_j) loop_s.2⟩ hV (lv_sub hl [1, 2, 0] rfl)
      · skip
        refine lv_aload_n hx hb d_Model_reach_8 rfl (lv_at hl 0 rfl) ?_
        refine os_get (C := "RobotFaultsModel") (T := F_Model) (N := 38) (ci := 7) (K := 13) (j := 37) (i := 0) (v := .ref (ad 44 0)) hx hb hts i_Model hown hK hV rfl rfl (by decide) hr_1 (hts _ k_762) (congrArg (fun z => va_rf (Option.map (ad 44) z)) (hM.1.2.1 37 (by decide) (by decide))) d_Model_reach_9 ?_
        refine lv_iload_n hx hb d_Model_reach_12 rfl (lv_at hl 2 rfl) ?_
        refine lv_iload_n hx hb d_Model_reach_13 rfl (lv_at hl 2 rfl) ?_
        refine lv_iload_n hx hb d_Model_reach_14 rfl (lv_at hl 1 rfl) ?_
        refine lv_icmp_ne (tgt := 22) hx hb d_Model_reach_15 (by decide) (fun c_12 => ?_) (fun c_12 => ?_)
        · skip
          refine lv_bipush (v := 20) hx hb d_Model_reach_22 (by decide) ?_
          refine os_iastN (K := 44) (i := 0) (t0 := 0) (n := j) hx hb hK hV rfl rfl rfl (hM.1.n 44 (by decide) (by decide)) rfl (by rw [show os_l τ 44 0 = 20 from hM.1.2.2 44 (by decide) (by decide)]; have h9 := (lt_of_nle c_2 loop_j); omega) (by rw [show os_l τ 44 0 = 20 from hM.1.2.2 44 (by decide) (by decide)]; decide) d_Model_reach_24 (fun H locs hV => ?_)
          refine lv_iinc (v := nI (j + 1)) (lv' := [(2, .int (nI (j + 1))), (0, .ref (ad 13 0)), (1, .int (nI f))]) hx hb d_Model_reach_25 hl (k := 2) rfl (nI_1 j) (by decide) rfl (fun ls hl => ?_)
          refine lv_goto (tgt := 2) hx hb d_Model_reach_28 (by decide) ?_
          exact loop_ih (j + 1)  _  ls H locs (Nat.succ_le_of_lt (lt_of_nle c_2 loop_j)) (by omega) trivial ⟨loop_s.1.sg, far1 loop_s.2 (by rw [if_neg (fun h => c_12 (by rw [h]))]; rfl)⟩ hV (lv_sub hl [1, 2, 0] rfl)
        · skip
          refine lv_iconst (v := 0) hx hb d_Model_reach_18 (by decide) ?_
          refine lv_goto (tgt := 24) hx hb d_Model_reach_19 (by decide) ?_
          refine os_iastN (K := 44) (i := 0) (t0 := 0) (n := j) hx hb hK hV rfl rfl rfl (hM.1.n 44 (by decide) (by decide)) rfl (by rw [show os_l τ 44 0 = 20 from hM.1.2.2 44 (by decide) (by decide)]; have h9 := (lt_of_nle c_2 loop_j); omega) (by rw [show os_l τ 44 0 = 20 from hM.1.2.2 44 (by decide) (by decide)]; decide) d_Model_reach_24 (fun H locs hV => ?_)
          refine lv_iinc (v := nI (j + 1)) (lv' := [(2, .int (nI (j + 1))), (0, .ref (ad 13 0)), (1, .int (nI f))]) hx hb d_Model_reach_25 hl (k := 2) rfl (nI_1 j) (by decide) rfl (fun ls hl => ?_)
          refine lv_goto (tgt := 2) hx hb d_Model_reach_28 (by decide) ?_
          exact loop_ih (j + 1)  _  ls H locs (Nat.succ_le_of_lt (lt_of_nle c_2 loop_j)) (by omega) trivial ⟨loop_s.1.sg, far1 loop_s.2 (by rw [if_pos (nI_inj c_12 (by have := (lt_of_nle c_2 loop_j); omega) (by omega))]; rfl)⟩ hV (lv_sub hl [1, 2, 0] rfl)
  exact loop (20 + 1) 0  _  ls _ _ (by omega) (by omega) trivial ⟨fEq.rf, fun x hx => absurd hx (Nat.not_lt_zero _)⟩ hV (lv_sub hl [1, 2, 0] rfl)
set_option maxHeartbeats 4000000 in
set_option maxRecDepth 100000 in
theorem c_Model_mayBe (l : Launch) (hlt : l.stackTraces = false) (D : va_G) (cA : Nat → ClassId) (bs : Nat) (σ : os_S) (ad : Nat → Nat → Nat) (x y : Int32) (hM : MI σ) (hx9 : x = nI (iN x) ∧ iN x < 8) (hy9 : y = nI (iN y) ∧ iN y < 20) : os_Met l y_Model_mayBe prog_9_method_26_code 3 (some .boolean) { frames := 1, cells := 0, slots := 0, locals := 25 } D cA bs [.ref (ad 13 0), .int x, .int y] σ ad (fun r σ' ad' => ad = ad' ∧ fEq σ σ' ∧ ∃ g, fC σ' g ∧ farO (lkM σ) (iN (os_g σ 13 2 0)) (iN (os_g σ 15 (iN x) 0)) g ∧ r = .inl (some (.int (bz (mayB σ x (g (iN y))))))) := by
  refine os_ofW (by decide) ?_
  intro p e s m below meth c hx hb hr hml hown hlocks hmn hout hE hV
  have hts := hE.hts (args := ([.ref (ad 13 0), .int x, .int y] : List Value).toArray)
  have hK := hE.2.1
  have hbs := hE.2.2.1
  have hown : s.vm.findClass "RobotFaultsModel" = some m.cls := hown
  have hl := lv_entry ([.ref (ad 13 0), .int x, .int y]) (n := 3) (Nat.le_of_ble_eq_true rfl)
  rw [lg_entry_eq]
  generalize (lg_sl ([.ref (ad 13 0), .int x, .int y]) ++ List.replicate (3 - (lg_sl ([.ref (ad 13 0), .int x, .int y])).length) Slot.unset).toArray = ls at hl ⊢
  have hl : lv_has ls 3 [(0, .ref (ad 13 0)), (1, .int x), (2, .int y)] := hl
  refine lv_aload_n hx hb d_Model_mayBe_0 rfl (lv_at hl 0 rfl) ?_
  refine lv_aload_n hx hb d_Model_mayBe_1 rfl (lv_at hl 0 rfl) ?_
  refine os_get (C := "RobotFaultsModel") (T := F_Model) (N := 38) (ci := 7) (K := 13) (j := 5) (i := 0) (v := .ref (ad 15 0)) hx hb hts i_Model hown hK hV rfl rfl (by decide) (hM.1.n 13 (by decide) (by decide)) (hts _ k_730) (congrArg (fun z => va_rf (Option.map (ad 15) z)) (hM.1.2.1 5 (by decide) (by decide))) d_Model_mayBe_2 ?_
  refine lv_iload_n hx hb d_Model_mayBe_5 rfl (lv_at hl 1 rfl) ?_
  refine os_ialdN (K := 15) (i := 0) (t0 := 0) (n := (iN x)) hx hb hK hV rfl rfl rfl (hM.1.n 15 (by decide) (by decide)) hx9.1 (by rw [show os_l σ 15 0 = 8 from hM.1.2.2 15 (by decide) (by decide)]; have h9 := hx9.2; omega) (by rw [show os_l σ 15 0 = 8 from hM.1.2.2 15 (by decide) (by decide)]; decide) d_Model_mayBe_6 ?_
  refine W.eq (g2 := F0 m 7 ls [.int (nI (iN (os_g σ 15 (iN x) 0))), .ref (ad 13 0)]) (congrArg (fun z => F0 m 7 ls [.int z, .ref (ad 13 0)]) (hM.2.2.2.2.2.2.1 (iN x) hx9.2).1) ?_
  refine os_call (c_Model_reach l hlt D cA bs σ ad (iN (os_g σ 15 (iN x) 0)) hM (hM.2.2.2.2.2.2.1 (iN x) hx9.2).2) hE hV k_937 k_4 (os_inV (C := "RobotFaultsModel") (n := 1) (bytes := prog_9_method_25_code) (maxL := 5) (ret := none) hx hb hown (hts _ k_934) (hts _ k_936) (hts _ k_s30) (hts _ k_937) (by decide +kernel) rfl (os_recv hK hV rfl rfl (hM.1.n 13 (by decide) (by decide))) rfl d_Model_mayBe_7) (hl.1.trans hml.symm) (Nat.le_of_ble_eq_true rfl) (Nat.le_of_ble_eq_true rfl) (Nat.le_of_ble_eq_true rfl) (Nat.le_of_ble_eq_true rfl) (Nat.le_of_ble_eq_true rfl) (fun v σ1 ad1 H locs hp hext hV => ?_) (fun E q ce σ1 ad1 H locs hp hext hV hce hcv hcl => ?_)
  · obtain ⟨rfl, hfe1, ⟨g1, hfc1, hfar1⟩, hp⟩ := hp
    cases hp
    obtain ⟨σ_2, rfl⟩ : ∃ z, z = σ1 := ⟨_, rfl⟩
    have he_3 := hext
    have hr_4 : 0 < os_n σ_2 13 := Nat.lt_of_lt_of_le (hM.1.n 13 (by decide) (by decide)) (he_3.1 13)
    have hM : MI σ_2 := hfe1.MI hM
    refine W.eq (g2 := F0 m 10 ls []) rfl ?_
    refine lv_aload_n hx hb d_Model_mayBe_10 rfl (lv_at hl 0 rfl) ?_
    refine os_get (C := "RobotFaultsModel") (T := F_Model) (N := 38) (ci := 7) (K := 13) (j := 37) (i := 0) (v := .ref (ad 44 0)) hx hb hts i_Model hown hK hV rfl rfl (by decide) hr_4 (hts _ k_762) (congrArg (fun z => va_rf (Option.map (ad 44) z)) (hM.1.2.1 37 (by decide) (by decide))) d_Model_mayBe_11 ?_
    refine lv_iload_n hx hb d_Model_mayBe_14 rfl (lv_at hl 2 rfl) ?_
    refine os_ialdN (K := 44) (i := 0) (t0 := 0) (n := (iN y)) hx hb hK hV rfl rfl rfl (hM.1.n 44 (by decide) (by decide)) hy9.1 (by rw [show os_l σ_2 44 0 = 20 from hM.1.2.2 44 (by decide) (by decide)]; have h9 := hy9.2; omega) (by rw [show os_l σ_2 44 0 = 20 from hM.1.2.2 44 (by decide) (by decide)]; decide) d_Model_mayBe_15 ?_
    refine lv_bipush (v := 20) hx hb d_Model_mayBe_16 (by decide) ?_
    refine lv_icmp_ge (tgt := 48) hx hb d_Model_mayBe_18 (by decide) (fun c_5 => ?_) (fun c_5 => ?_)
    · skip
      refine lv_iconst (v := 0) hx hb d_Model_mayBe_48 (by decide) ?_
      refine os_zret hx hb hr rfl hlocks hV (Nat.le_of_ble_eq_true rfl) (Nat.le_of_ble_eq_true rfl) d_Model_mayBe_49 ?_
      exact ⟨rfl, hfe1, g1, hfc1, hfar1, by rw [may_no1 (hfc1 (iN y) hy9.2) c_5]⟩
    · skip
      refine lv_aload_n hx hb d_Model_mayBe_21 rfl (lv_at hl 0 rfl) ?_
      refine os_get (C := "RobotFaultsModel") (T := F_Model) (N := 38) (ci := 7) (K := 13) (j := 37) (i := 0) (v := .ref (ad 44 0)) hx hb hts i_Model hown hK hV rfl rfl (by decide) hr_4 (hts _ k_762) (congrArg (fun z => va_rf (Option.map (ad 44) z)) (hM.1.2.1 37 (by decide) (by decide))) d_Model_mayBe_22 ?_
      refine lv_iload_n hx hb d_Model_mayBe_25 rfl (lv_at hl 2 rfl) ?_
      refine os_ialdN (K := 44) (i := 0) (t0 := 0) (n := (iN y)) hx hb hK hV rfl rfl rfl (hM.1.n 44 (by decide) (by decide)) hy9.1 (by rw [show os_l σ_2 44 0 = 20 from hM.1.2.2 44 (by decide) (by decide)]; have h9 := hy9.2; omega) (by rw [show os_l σ_2 44 0 = 20 from hM.1.2.2 44 (by decide) (by decide)]; decide) d_Model_mayBe_26 ?_
      refine lv_aload_n hx hb d_Model_mayBe_27 rfl (lv_at hl 0 rfl) ?_
      refine os_get (C := "RobotFaultsModel") (T := F_Model) (N := 38) (ci := 7) (K := 13) (j := 1) (i := 0) (v := .int (os_g σ_2 13 1 0)) hx hb hts i_Model hown hK hV rfl rfl (by decide) hr_4 (hts _ k_726) rfl d_Model_mayBe_28 ?_
      refine lv_aload_n hx hb d_Model_mayBe_31 rfl (lv_at hl 0 rfl) ?_
      refine os_get (C := "RobotFaultsModel") (T := F_Model) (N := 38) (ci := 7) (K := 13) (j := 9) (i := 0) (v := .ref (ad 19 0)) hx hb hts i_Model hown hK hV rfl rfl (by decide) hr_4 (hts _ k_734) (congrArg (fun z => va_rf (Option.map (ad 19) z)) (hM.1.2.1 9 (by decide) (by decide))) d_Model_mayBe_32 ?_
      refine lv_iload_n hx hb d_Model_mayBe_35 rfl (lv_at hl 1 rfl) ?_
      refine os_ialdN (K := 19) (i := 0) (t0 := 0) (n := (iN x)) hx hb hK hV rfl rfl rfl (hM.1.n 19 (by decide) (by decide)) hx9.1 (by rw [show os_l σ_2 19 0 = 8 from hM.1.2.2 19 (by decide) (by decide)]; have h9 := hx9.2; omega) (by rw [show os_l σ_2 19 0 = 8 from hM.1.2.2 19 (by decide) (by decide)]; decide) d_Model_mayBe_36 ?_
      refine lv_isub hx hb d_Model_mayBe_37 ?_
      refine lv_bipush (v := 10) hx hb d_Model_mayBe_38 (by decide) ?_
      refine lv_idiv hx hb d_Model_mayBe_40 (by decide) ?_
      refine lv_icmp_gt (tgt := 48) hx hb d_Model_mayBe_41 (by decide) (fun c_6 => ?_) (fun c_6 => ?_)
      · skip
        refine lv_iconst (v := 0) hx hb d_Model_mayBe_48 (by decide) ?_
        refine os_zret hx hb hr rfl hlocks hV (Nat.le_of_ble_eq_true rfl) (Nat.le_of_ble_eq_true rfl) d_Model_mayBe_49 ?_
        exact ⟨rfl, hfe1, g1, hfc1, hfar1, by rw [may_no2 hfe1 (hfc1 (iN y) hy9.2) c_6]⟩
      · skip
        refine lv_iconst (v := 1) hx hb d_Model_mayBe_44 (by decide) ?_
        refine lv_goto (tgt := 49) hx hb d_Model_mayBe_45 (by decide) ?_
        refine os_zret hx hb hr rfl hlocks hV (Nat.le_of_ble_eq_true rfl) (Nat.le_of_ble_eq_true rfl) d_Model_mayBe_49 ?_
        exact ⟨rfl, hfe1, g1, hfc1, hfar1, by rw [may_yes hfe1 (hfc1 (iN y) hy9.2) c_5 c_6]⟩
  · exact absurd hp.2.2.2 (fun h => by cases h)
def m_zone (σ : os_S) (ad : Nat → Nat → Nat) (x y : Int32) (P : Nat → Bool) : os_O → os_S → (Nat → Nat → Nat) → Prop := fun r σ' ad' => ad = ad' ∧ ((bz (inF x 0 (os_g σ 13 4 0 - 1)) = 0 ∧ os_sg σ 13 0 0 1 = σ' ∧ r = .inl (some (.int 0))) ∨ (¬ bz (inF x 0 (os_g σ 13 4 0 - 1)) = 0 ∧ ¬ 0 ≤ y ∧ os_sg σ 13 0 0 2 = σ' ∧ r = .inl (some (.int 0))) ∨ (¬ bz (inF x 0 (os_g σ 13 4 0 - 1)) = 0 ∧ 0 ≤ y ∧ ¬ os_g σ 17 (iN x) 0 = 2 ∧ os_sg (os_sg σ 13 0 0 0) 13 0 0 3 = σ' ∧ r = .inl (some (.int 0))) ∨ (¬ bz (inF x 0 (os_g σ 13 4 0 - 1)) = 0 ∧ 0 ≤ y ∧ os_g σ 17 (iN x) 0 = 2 ∧ fEq (os_sg (os_sg σ 13 0 0 0) 13 0 0 0) σ' ∧ r = .inl (some (.int (mzn P (iN (os_g σ 13 2 0)) 0 y)))))
set_option maxHeartbeats 4000000 in
set_option maxRecDepth 100000 in
theorem c_Model_zone (l : Launch) (hlt : l.stackTraces = false) (D : va_G) (cA : Nat → ClassId) (bs : Nat) (σ : os_S) (ad : Nat → Nat → Nat) (x y : Int32) (P : Nat → Bool) (hM : MI σ) (hP : ∀ g, farO (lkM σ) (iN (os_g σ 13 2 0)) (iN (os_g σ 15 (iN x) 0)) g → ∀ p, p < 20 → P p = mayB σ x (g p)) : os_Met l y_Model_zone prog_9_method_27_code 5 (some .int) { frames := 2, cells := 0, slots := 0, locals := 50 } D cA bs [.ref (ad 13 0), .int x, .int y] σ ad (m_zone σ ad x y P) := by
  refine os_ofW (by decide) ?_
  intro p e s m below meth c hx hb hr hml hown hlocks hmn hout hE hV
  have hts := hE.hts (args := ([.ref (ad 13 0), .int x, .int y] : List Value).toArray)
  have hK := hE.2.1
  have hbs := hE.2.2.1
  have hown : s.vm.findClass "RobotFaultsModel" = some m.cls := hown
  have hl := lv_entry ([.ref (ad 13 0), .int x, .int y]) (n := 5) (Nat.le_of_ble_eq_true rfl)
  rw [lg_entry_eq]
  generalize (lg_sl ([.ref (ad 13 0), .int x, .int y]) ++ List.replicate (5 - (lg_sl ([.ref (ad 13 0), .int x, .int y])).length) Slot.unset).toArray = ls at hl ⊢
  have hl : lv_has ls 5 [(0, .ref (ad 13 0)), (1, .int x), (2, .int y)] := hl
  have hM0 := hM
  refine lv_aload_n hx hb d_Model_zone_0 rfl (lv_at hl 0 rfl) ?_
  refine lv_aload_n hx hb d_Model_zone_1 rfl (lv_at hl 0 rfl) ?_
  refine lv_iload_n hx hb d_Model_zone_2 rfl (lv_at hl 1 rfl) ?_
  refine os_call (c_Model_isRobot l hlt D cA bs σ ad x hM) hE hV k_878 k_4 (os_inV (C := "RobotFaultsModel") (n := 1) (bytes := prog_9_method_5_code) (maxL := 2) (ret := (some .boolean)) hx hb hown (hts _ k_875) (hts _ k_877) (hts _ k_s22) (hts _ k_878) (by decide +kernel) rfl (os_recv hK hV rfl rfl (hM.1.n 13 (by decide) (by decide))) rfl d_Model_zone_3) (hl.1.trans hml.symm) (Nat.le_of_ble_eq_true rfl) (Nat.le_of_ble_eq_true rfl) (Nat.le_of_ble_eq_true rfl) (Nat.le_of_ble_eq_true rfl) (Nat.le_of_ble_eq_true rfl) (fun v σ1 ad1 H locs hp hext hV => ?_) (fun E q ce σ1 ad1 H locs hp hext hV hce hcv hcl => ?_)
  · obtain ⟨rfl, rfl, hp⟩ := hp
    cases hp
    refine W.eq (g2 := F0 m 6 ls [.int (bz (inF x 0 (os_g σ 13 4 0 - 1))), .ref (ad 13 0)]) rfl ?_
    refine lv_if_ne (tgt := 13) hx hb d_Model_zone_6 (by decide) (fun c_1 => ?_) (fun c_1 => ?_)
    · skip
      refine lv_iload_n hx hb d_Model_zone_13 rfl (lv_at hl 2 rfl) ?_
      refine lv_if_ge (tgt := 21) hx hb d_Model_zone_14 (by decide) (fun c_2 => ?_) (fun c_2 => ?_)
      · skip
        refine lv_iconst (v := 0) hx hb d_Model_zone_21 (by decide) ?_
        refine os_putI (C := "RobotFaultsModel") (T := F_Model) (N := 38) (ci := 7) (K := 13) (j := 0) (i := 0) (v := 0) (ty := .int) hx hb hts i_Model t_Model t_Model_ok n_Model hown hK hV rfl rfl (by decide) (hM.1.n 13 (by decide) (by decide)) (hts _ k_725) rfl rfl rfl (by decide +kernel) rfl rfl d_Model_zone_22 (fun H locs hV => ?_)
        refine lv_aload_n hx hb d_Model_zone_25 rfl (lv_at hl 0 rfl) ?_
        refine os_get (C := "RobotFaultsModel") (T := F_Model) (N := 38) (ci := 7) (K := 13) (j := 0) (i := 0) (v := .int 0) hx hb hts i_Model hown hK hV rfl rfl (by decide) (hM.1.n 13 (by decide) (by decide)) (hts _ k_725) (os_fv_sgs (σ := σ) (ad := ad) (K := 13) (j := 0) (i := 0) (v := 0) rfl rfl) d_Model_zone_26 ?_
        refine lv_if_ne (tgt := 51) hx hb d_Model_zone_29 (by decide) (fun c_3 => ?_) (fun c_3 => ?_)
        · exact absurd c_3 (by decide)
        · skip
          refine lv_aload_n hx hb d_Model_zone_32 rfl (lv_at hl 0 rfl) ?_
          refine lv_aload_n hx hb d_Model_zone_33 rfl (lv_at hl 0 rfl) ?_
          refine os_get (C := "RobotFaultsModel") (T := F_Model) (N := 38) (ci := 7) (K := 13) (j := 7) (i := 0) (v := .ref (ad 17 0)) hx hb hts i_Model hown hK hV rfl rfl (by decide) (hM.1.n 13 (by decide) (by decide)) (hts _ k_732) (congrArg (fun z => va_rf (Option.map (ad 17) z)) (hM.1.2.1 7 (by decide) (by decide))) d_Model_zone_34 ?_
          refine lv_iload_n hx hb d_Model_zone_37 rfl (lv_at hl 1 rfl) ?_
          refine os_ialdN (K := 17) (i := 0) (t0 := 0) (n := (iN x)) hx hb hK hV rfl rfl rfl (hM.1.n 17 (by decide) (by decide)) (inF.ix (σ := σ) (bz_1 c_1) hM.2.2.1).1 (by rw [show os_l (os_sg σ 13 0 0 0) 17 0 = 8 from hM.1.2.2 17 (by decide) (by decide)]; have h9 := (Nat.lt_of_lt_of_le (inF.ix (σ := σ) (bz_1 c_1) hM.2.2.1).2 hM.2.2.1.2); omega) (by rw [show os_l (os_sg σ 13 0 0 0) 17 0 = 8 from hM.1.2.2 17 (by decide) (by decide)]; decide) d_Model_zone_38 ?_
          refine W.eq (g2 := F0 m 39 ls [.int (os_g σ 17 (iN x) 0), .ref (ad 13 0)]) (congrArg (fun z => F0 m 39 ls (.int z :: [.ref (ad 13 0)])) (show os_g (os_sg σ 13 0 0 0) 17 (iN x) 0 = os_g σ 17 (iN x) 0 from rfl)) ?_
          refine lv_iconst (v := 2) hx hb d_Model_zone_39 (by decide) ?_
          refine lv_icmp_eq (tgt := 47) hx hb d_Model_zone_40 (by decide) (fun c_4 => ?_) (fun c_4 => ?_)
          · skip
            refine lv_iconst (v := 0) hx hb d_Model_zone_47 (by decide) ?_
            refine os_putI (C := "RobotFaultsModel") (T := F_Model) (N := 38) (ci := 7) (K := 13) (j := 0) (i := 0) (v := 0) (ty := .int) hx hb hts i_Model t_Model t_Model_ok n_Model hown hK hV rfl rfl (by decide) (hM.1.n 13 (by decide) (by decide)) (hts _ k_725) rfl rfl rfl (by decide +kernel) rfl rfl d_Model_zone_48 (fun H locs hV => ?_)
            refine lv_aload_n hx hb d_Model_zone_51 rfl (lv_at hl 0 rfl) ?_
            refine os_get (C := "RobotFaultsModel") (T := F_Model) (N := 38) (ci := 7) (K := 13) (j := 0) (i := 0) (v := .int 0) hx hb hts i_Model hown hK hV rfl rfl (by decide) (hM.1.n 13 (by decide) (by decide)) (hts _ k_725) (os_fv_sgs (σ := os_sg σ 13 0 0 0) (ad := ad) (K := 13) (j := 0) (i := 0) (v := 0) rfl rfl) d_Model_zone_52 ?_
            refine lv_if_le (tgt := 60) hx hb d_Model_zone_55 (by decide) (fun c_5 => ?_) (fun c_5 => ?_)
            · skip
              refine lv_iload_n hx hb d_Model_zone_60 rfl (lv_at hl 2 rfl) ?_
              refine lv_istore_n (lv' := [(3, .int y), (0, .ref (ad 13 0)), (1, .int x), (2, .int y)]) hx hb d_Model_zone_61 rfl hl (by decide) rfl (fun ls hl => ?_)
              refine lv_iconst (v := 0) hx hb d_Model_zone_62 (by decide) ?_
              refine lv_istore (lv' := [(4, .int 0), (3, .int y), (0, .ref (ad 13 0)), (1, .int x), (2, .int y)]) hx hb d_Model_zone_63 hl (by decide) rfl (fun ls hl => ?_)
              have loop : ∀ (n j : Nat) (a : Int32) (τ : os_S)  (ls : Array Slot) (H : Heap) (locs : List Loc), j ≤ (iN (os_g σ 13 2 0)) → (iN (os_g σ 13 2 0)) < j + n → mzn P ((iN (os_g σ 13 2 0)) - j) j a = mzn P (iN (os_g σ 13 2 0)) 0 y → fEq (os_sg (os_sg σ 13 0 0 0) 13 0 0 0) τ → os_V D cA bs σ ad s τ ad H locs → lv_has ls 5 [(0, .ref (ad 13 0)), (1, .int x), (2, .int y), (3, .int a), (4, .int (nI j))] → W p l e { frames := 2, cells := 0, slots := 0, locals := 50 } s m ([.ref (ad 13 0), .int x, .int y] : List Value).toArray below meth c H locs (0) (0) (os_End D cA bs below s σ ad { frames := 2, cells := 0, slots := 0, locals := 50 } (m_zone σ ad x y P)) (F0 m 65 ls []) := by
                intro n
                induction n with
                | zero => intro j a τ  ls H locs h1 h2; exact absurd h2 (by omega)
                | succ n loop_ih =>
                  intro j a τ  ls H locs loop_j loop_n loop_i loop_s hV hl
                  have hr_6 : 0 < os_n τ 13 := Nat.lt_of_lt_of_le (hM.1.n 13 (by decide) (by decide)) (hV.2.1.1 13)
                  have hM : MI τ := loop_s.MI (show MI (os_sg (os_sg σ 13 0 0 0) 13 0 0 0) from hM0)
                  have hz : os_g τ 13 2 0 = nI (iN (os_g σ 13 2 0)) := (loop_s.2.2.2 13 2 0 (by decide)).trans hM0.2.1.1
                  refine lv_iload hx hb d_Model_zone_65 (lv_at hl 4 rfl) ?_
                  refine lv_aload_n hx hb d_Model_zone_67 rfl (lv_at hl 0 rfl) ?_
                  refine os_get (C := "RobotFaultsModel") (T := F_Model) (N := 38) (ci := 7) (K := 13) (j := 2) (i := 0) (v := .int (os_g τ 13 2 0)) hx hb hts i_Model hown hK hV rfl rfl (by decide) hr_6 (hts _ k_727) rfl d_Model_zone_68 ?_
                  refine lv_icmp_ge (tgt := 103) hx hb d_Model_zone_71 (by decide) (fun c_7 => ?_) (fun c_7 => ?_)
                  · skip
                    refine lv_iconst (v := (-1)) hx hb d_Model_zone_103 (by decide) ?_
                    refine os_iret hx hb hr hlocks hV (Nat.le_of_ble_eq_true rfl) (Nat.le_of_ble_eq_true rfl) d_Model_zone_104 ?_
                    have hj := eq_of_le c_7 loop_j hz (by have := hM0.2.1.2; omega)
                    exact ⟨rfl, Or.inr (Or.inr (Or.inr ⟨c_1, c_2, c_4, loop_s, by rw [← loop_i, hj, Nat.sub_self]; rfl⟩))⟩
                  · skip
                    refine lv_aload_n hx hb d_Model_zone_74 rfl (lv_at hl 0 rfl) ?_
                    refine lv_iload_n hx hb d_Model_zone_75 rfl (lv_at hl 1 rfl) ?_
                    refine lv_iload hx hb d_Model_zone_76 (lv_at hl 4 rfl) ?_
                    refine os_call (c_Model_mayBe l hlt D cA bs τ ad x (nI j) hM ⟨(inF.ix (σ := σ) (bz_1 c_1) hM0.2.2.1).1, (Nat.lt_of_lt_of_le (inF.ix (σ := σ) (bz_1 c_1) hM0.2.2.1).2 hM0.2.2.1.2)⟩ (ix_nI (Nat.lt_of_lt_of_le (lt_of_nle c_7 loop_j hz (by have := hM0.2.1.2; omega)) hM0.2.1.2))) hE hV k_933 k_4 (os_inV (C := "RobotFaultsModel") (n := 2) (bytes := prog_9_method_26_code) (maxL := 3) (ret := (some .boolean)) hx hb hown (hts _ k_930) (hts _ k_932) (hts _ k_s29) (hts _ k_933) (by decide +kernel) rfl (os_recv hK hV rfl rfl hr_6) rfl d_Model_zone_78) (hl.1.trans hml.symm) (Nat.le_of_ble_eq_true rfl) (Nat.le_of_ble_eq_true rfl) (Nat.le_of_ble_eq_true rfl) (Nat.le_of_ble_eq_true rfl) (Nat.le_of_ble_eq_true rfl) (fun v σ1 ad1 H locs hp hext hV => ?_) (fun E q ce σ1 ad1 H locs hp hext hV hce hcv hcl => ?_)
                    · obtain ⟨rfl, hfe8, g8, hfc8, hfar8, hp⟩ := hp
                      cases hp
                      obtain ⟨σ_9, rfl⟩ : ∃ z, z = σ1 := ⟨_, rfl⟩
                      have he_10 := hext
                      have hr_11 : 0 < os_n σ_9 13 := Nat.lt_of_lt_of_le hr_6 (he_10.1 13)
                      have hM : MI σ_9 := hfe8.MI hM
                      refine W.eq (g2 := F0 m 81 ls [.int (bz (mayB τ x (g8 (iN (nI j)))))]) rfl ?_
                      have hPj : P j = mayB τ x (g8 (iN (nI j))) := by rw [iN_nI (by have := (lt_of_nle c_7 loop_j hz (by have := hM0.2.1.2; omega)); have := hM0.2.1.2; omega), mayB_fEq (σ := os_sg (os_sg σ 13 0 0 0) 13 0 0 0) loop_s]; exact hP g8 (farO_fEq (σ := os_sg (os_sg σ 13 0 0 0) 13 0 0 0) loop_s hfar8) j (Nat.lt_of_lt_of_le (lt_of_nle c_7 loop_j hz (by have := hM0.2.1.2; omega)) hM0.2.1.2)
                      refine lv_if_ne (tgt := 87) hx hb d_Model_zone_81 (by decide) (fun c_12 => ?_) (fun c_12 => ?_)
                      · skip
                        refine lv_iload_n hx hb d_Model_zone_87 rfl (lv_at hl 3 rfl) ?_
                        refine lv_if_ne (tgt := 94) hx hb d_Model_zone_88 (by decide) (fun c_13 => ?_) (fun c_13 => ?_)
                        · skip
                          refine lv_iinc (v := a + (-1)) (lv' := [(3, .int (a + (-1))), (0, .ref (ad 13 0)), (1, .int x), (2, .int y), (4, .int (nI j))]) hx hb d_Model_zone_94 hl (k := 3) rfl rfl (by decide) rfl (fun ls hl => ?_)
                          refine lv_iinc (v := nI (j + 1)) (lv' := [(4, .int (nI (j + 1))), (3, .int (a + (-1))), (0, .ref (ad 13 0)), (1, .int x), (2, .int y)]) hx hb d_Model_zone_97 hl (k := 4) rfl (nI_1 j) (by decide) rfl (fun ls hl => ?_)
                          refine lv_goto (tgt := 65) hx hb d_Model_zone_100 (by decide) ?_
                          exact loop_ih (j + 1) (a + (-1)) _  ls H locs (Nat.succ_le_of_lt (lt_of_nle c_7 loop_j hz (by have := hM0.2.1.2; omega))) (by omega) ((mzn_yes (hPj.trans (bz_1 c_12)) c_13 (lt_of_nle c_7 loop_j hz (by have := hM0.2.1.2; omega))).trans loop_i) (loop_s.trans hfe8) hV (lv_sub hl [2, 3, 4, 1, 0] rfl)
                        · skip
                          refine lv_iload hx hb d_Model_zone_91 (lv_at hl 4 rfl) ?_
                          refine os_iret hx hb hr hlocks hV (Nat.le_of_ble_eq_true rfl) (Nat.le_of_ble_eq_true rfl) d_Model_zone_93 ?_
                          exact ⟨rfl, Or.inr (Or.inr (Or.inr ⟨c_1, c_2, c_4, loop_s.trans hfe8, by rw [← loop_i, mzn_here (hPj.trans (bz_1 c_12)) c_13 (lt_of_nle c_7 loop_j hz (by have := hM0.2.1.2; omega))]⟩))⟩
                      · skip
                        refine lv_goto (tgt := 97) hx hb d_Model_zone_84 (by decide) ?_
                        refine lv_iinc (v := nI (j + 1)) (lv' := [(4, .int (nI (j + 1))), (0, .ref (ad 13 0)), (1, .int x), (2, .int y), (3, .int a)]) hx hb d_Model_zone_97 hl (k := 4) rfl (nI_1 j) (by decide) rfl (fun ls hl => ?_)
                        refine lv_goto (tgt := 65) hx hb d_Model_zone_100 (by decide) ?_
                        exact loop_ih (j + 1) a _  ls H locs (Nat.succ_le_of_lt (lt_of_nle c_7 loop_j hz (by have := hM0.2.1.2; omega))) (by omega) ((mzn_no (fun h => bz_t c_12 (hPj.symm.trans h)) (lt_of_nle c_7 loop_j hz (by have := hM0.2.1.2; omega))).trans loop_i) (loop_s.trans hfe8) hV (lv_sub hl [1, 2, 3, 4, 0] rfl)
                    · obtain ⟨rfl, hfe, g, hfc, hfar, hp⟩ := hp; cases hp
              exact loop ((iN (os_g σ 13 2 0)) + 1) 0 y _  ls _ _ (by omega) (by omega) rfl fEq.rf hV (lv_sub hl [2, 3, 4, 1, 0] rfl)
            · exact absurd (by decide) c_5
          · skip
            refine lv_iconst (v := 3) hx hb d_Model_zone_43 (by decide) ?_
            refine lv_goto (tgt := 48) hx hb d_Model_zone_44 (by decide) ?_
            refine os_putI (C := "RobotFaultsModel") (T := F_Model) (N := 38) (ci := 7) (K := 13) (j := 0) (i := 0) (v := 3) (ty := .int) hx hb hts i_Model t_Model t_Model_ok n_Model hown hK hV rfl rfl (by decide) (hM.1.n 13 (by decide) (by decide)) (hts _ k_725) rfl rfl rfl (by decide +kernel) rfl rfl d_Model_zone_48 (fun H locs hV => ?_)
            refine lv_aload_n hx hb d_Model_zone_51 rfl (lv_at hl 0 rfl) ?_
            refine os_get (C := "RobotFaultsModel") (T := F_Model) (N := 38) (ci := 7) (K := 13) (j := 0) (i := 0) (v := .int 3) hx hb hts i_Model hown hK hV rfl rfl (by decide) (hM.1.n 13 (by decide) (by decide)) (hts _ k_725) (os_fv_sgs (σ := os_sg σ 13 0 0 0) (ad := ad) (K := 13) (j := 0) (i := 0) (v := 3) rfl rfl) d_Model_zone_52 ?_
            refine lv_if_le (tgt := 60) hx hb d_Model_zone_55 (by decide) (fun c_14 => ?_) (fun c_14 => ?_)
            · exact absurd c_14 (by decide)
            · skip
              refine lv_iconst (v := 0) hx hb d_Model_zone_58 (by decide) ?_
              refine os_iret hx hb hr hlocks hV (Nat.le_of_ble_eq_true rfl) (Nat.le_of_ble_eq_true rfl) d_Model_zone_59 ?_
              exact ⟨rfl, Or.inr (Or.inr (Or.inl (⟨c_1, c_2, c_4, rfl, rfl⟩)))⟩
      · skip
        refine lv_iconst (v := 2) hx hb d_Model_zone_17 (by decide) ?_
        refine lv_goto (tgt := 22) hx hb d_Model_zone_18 (by decide) ?_
        refine os_putI (C := "RobotFaultsModel") (T := F_Model) (N := 38) (ci := 7) (K := 13) (j := 0) (i := 0) (v := 2) (ty := .int) hx hb hts i_Model t_Model t_Model_ok n_Model hown hK hV rfl rfl (by decide) (hM.1.n 13 (by decide) (by decide)) (hts _ k_725) rfl rfl rfl (by decide +kernel) rfl rfl d_Model_zone_22 (fun H locs hV => ?_)
        refine lv_aload_n hx hb d_Model_zone_25 rfl (lv_at hl 0 rfl) ?_
        refine os_get (C := "RobotFaultsModel") (T := F_Model) (N := 38) (ci := 7) (K := 13) (j := 0) (i := 0) (v := .int 2) hx hb hts i_Model hown hK hV rfl rfl (by decide) (hM.1.n 13 (by decide) (by decide)) (hts _ k_725) (os_fv_sgs (σ := σ) (ad := ad) (K := 13) (j := 0) (i := 0) (v := 2) rfl rfl) d_Model_zone_26 ?_
        refine lv_if_ne (tgt := 51) hx hb d_Model_zone_29 (by decide) (fun c_15 => ?_) (fun c_15 => ?_)
        · skip
          refine lv_aload_n hx hb d_Model_zone_51 rfl (lv_at hl 0 rfl) ?_
          refine os_get (C := "RobotFaultsModel") (T := F_Model) (N := 38) (ci := 7) (K := 13) (j := 0) (i := 0) (v := .int 2) hx hb hts i_Model hown hK hV rfl rfl (by decide) (hM.1.n 13 (by decide) (by decide)) (hts _ k_725) (os_fv_sgs (σ := σ) (ad := ad) (K := 13) (j := 0) (i := 0) (v := 2) rfl rfl) d_Model_zone_52 ?_
          refine lv_if_le (tgt := 60) hx hb d_Model_zone_55 (by decide) (fun c_16 => ?_) (fun c_16 => ?_)
          · exact absurd c_16 (by decide)
          · skip
            refine lv_iconst (v := 0) hx hb d_Model_zone_58 (by decide) ?_
            refine os_iret hx hb hr hlocks hV (Nat.le_of_ble_eq_true rfl) (Nat.le_of_ble_eq_true rfl) d_Model_zone_59 ?_
            exact ⟨rfl, Or.inr (Or.inl (⟨c_1, c_2, rfl, rfl⟩))⟩
        · exact absurd c_15 (by decide)
    · skip
      refine lv_iconst (v := 1) hx hb d_Model_zone_9 (by decide) ?_
      refine lv_goto (tgt := 22) hx hb d_Model_zone_10 (by decide) ?_
      refine os_putI (C := "RobotFaultsModel") (T := F_Model) (N := 38) (ci := 7) (K := 13) (j := 0) (i := 0) (v := 1) (ty := .int) hx hb hts i_Model t_Model t_Model_ok n_Model hown hK hV rfl rfl (by decide) (hM.1.n 13 (by decide) (by decide)) (hts _ k_725) rfl rfl rfl (by decide +kernel) rfl rfl d_Model_zone_22 (fun H locs hV => ?_)
      refine lv_aload_n hx hb d_Model_zone_25 rfl (lv_at hl 0 rfl) ?_
      refine os_get (C := "RobotFaultsModel") (T := F_Model) (N := 38) (ci := 7) (K := 13) (j := 0) (i := 0) (v := .int 1) hx hb hts i_Model hown hK hV rfl rfl (by decide) (hM.1.n 13 (by decide) (by decide)) (hts _ k_725) (os_fv_sgs (σ := σ) (ad := ad) (K := 13) (j := 0) (i := 0) (v := 1) rfl rfl) d_Model_zone_26 ?_
      refine lv_if_ne (tgt := 51) hx hb d_Model_zone_29 (by decide) (fun c_17 => ?_) (fun c_17 => ?_)
      · skip
        refine lv_aload_n hx hb d_Model_zone_51 rfl (lv_at hl 0 rfl) ?_
        refine os_get (C := "RobotFaultsModel") (T := F_Model) (N := 38) (ci := 7) (K := 13) (j := 0) (i := 0) (v := .int 1) hx hb hts i_Model hown hK hV rfl rfl (by decide) (hM.1.n 13 (by decide) (by decide)) (hts _ k_725) (os_fv_sgs (σ := σ) (ad := ad) (K := 13) (j := 0) (i := 0) (v := 1) rfl rfl) d_Model_zone_52 ?_
        refine lv_if_le (tgt := 60) hx hb d_Model_zone_55 (by decide) (fun c_18 => ?_) (fun c_18 => ?_)
        · exact absurd c_18 (by decide)
        · skip
          refine lv_iconst (v := 0) hx hb d_Model_zone_58 (by decide) ?_
          refine os_iret hx hb hr hlocks hV (Nat.le_of_ble_eq_true rfl) (Nat.le_of_ble_eq_true rfl) d_Model_zone_59 ?_
          exact ⟨rfl, Or.inl (⟨c_1, rfl, rfl⟩)⟩
      · exact absurd c_17 (by decide)
  · exact absurd hp.2.2 (fun h => by cases h)
def m_found (σ : os_S) (ad : Nat → Nat → Nat) (x y : Int32) : os_O → os_S → (Nat → Nat → Nat) → Prop := fun r σ' ad' => ad = ad' ∧ ((bz (inF x 0 (os_g σ 13 4 0 - 1)) = 0 ∧ os_sg σ 13 0 0 1 = σ' ∧ r = .inl (some (.int 0))) ∨ (¬ bz (inF x 0 (os_g σ 13 4 0 - 1)) = 0 ∧ bz (inF y 0 (os_g σ 13 2 0 - 1)) = 0 ∧ os_sg σ 13 0 0 1 = σ' ∧ r = .inl (some (.int 0))) ∨ (¬ bz (inF x 0 (os_g σ 13 4 0 - 1)) = 0 ∧ ¬ bz (inF y 0 (os_g σ 13 2 0 - 1)) = 0 ∧ ¬ os_g σ 17 (iN x) 0 = 2 ∧ os_sg (os_sg σ 13 0 0 0) 13 0 0 2 = σ' ∧ r = .inl (some (.int 0))) ∨ (¬ bz (inF x 0 (os_g σ 13 4 0 - 1)) = 0 ∧ ¬ bz (inF y 0 (os_g σ 13 2 0 - 1)) = 0 ∧ os_g σ 17 (iN x) 0 = 2 ∧ ∃ g u, fEq (os_sg (os_sg σ 13 0 0 0) 13 0 0 0) u ∧ farO (lkM σ) (iN (os_g σ 13 2 0)) (iN (os_g σ 15 (iN x) 0)) g ∧ ((bz (mayB σ x (g (iN y))) = 0 ∧ os_sg u 13 0 0 2 = σ' ∧ r = .inl (some (.int 0))) ∨ (¬ bz (mayB σ x (g (iN y))) = 0 ∧ os_sg (os_sg (os_sg u 13 0 0 0) 15 (iN x) 0 y) 17 (iN x) 0 1 = σ' ∧ r = .inl (some (.int (nI (g (iN y)))))))))
set_option maxHeartbeats 4000000 in
set_option maxRecDepth 100000 in
theorem c_Model_found (l : Launch) (hlt : l.stackTraces = false) (D : va_G) (cA : Nat → ClassId) (bs : Nat) (σ : os_S) (ad : Nat → Nat → Nat) (x y : Int32) (hM : MI σ) : os_Met l y_Model_found prog_9_method_28_code 3 (some .int) { frames := 2, cells := 0, slots := 0, locals := 50 } D cA bs [.ref (ad 13 0), .int x, .int y] σ ad (m_found σ ad x y) := by
  refine os_ofW (by decide) ?_
  intro p e s m below meth c hx hb hr hml hown hlocks hmn hout hE hV
  have hts := hE.hts (args := ([.ref (ad 13 0), .int x, .int y] : List Value).toArray)
  have hK := hE.2.1
  have hbs := hE.2.2.1
  have hown : s.vm.findClass "RobotFaultsModel" = some m.cls := hown
  have hl := lv_entry ([.ref (ad 13 0), .int x, .int y]) (n := 3) (Nat.le_of_ble_eq_true rfl)
  rw [lg_entry_eq]
  generalize (lg_sl ([.ref (ad 13 0), .int x, .int y]) ++ List.replicate (3 - (lg_sl ([.ref (ad 13 0), .int x, .int y])).length) Slot.unset).toArray = ls at hl ⊢
  have hl : lv_has ls 3 [(0, .ref (ad 13 0)), (1, .int x), (2, .int y)] := hl
  have hM0 := hM
  refine lv_aload_n hx hb d_Model_found_0 rfl (lv_at hl 0 rfl) ?_
  refine lv_aload_n hx hb d_Model_found_1 rfl (lv_at hl 0 rfl) ?_
  refine lv_iload_n hx hb d_Model_found_2 rfl (lv_at hl 1 rfl) ?_
  refine os_call (c_Model_isRobot l hlt D cA bs σ ad x hM) hE hV k_878 k_4 (os_inV (C := "RobotFaultsModel") (n := 1) (bytes := prog_9_method_5_code) (maxL := 2) (ret := (some .boolean)) hx hb hown (hts _ k_875) (hts _ k_877) (hts _ k_s22) (hts _ k_878) (by decide +kernel) rfl (os_recv hK hV rfl rfl (hM.1.n 13 (by decide) (by decide))) rfl d_Model_found_3) (hl.1.trans hml.symm) (Nat.le_of_ble_eq_true rfl) (Nat.le_of_ble_eq_true rfl) (Nat.le_of_ble_eq_true rfl) (Nat.le_of_ble_eq_true rfl) (Nat.le_of_ble_eq_true rfl) (fun v σ1 ad1 H locs hp hext hV => ?_) (fun E q ce σ1 ad1 H locs hp hext hV hce hcv hcl => ?_)
  · obtain ⟨rfl, rfl, hp⟩ := hp
    cases hp
    refine W.eq (g2 := F0 m 6 ls [.int (bz (inF x 0 (os_g σ 13 4 0 - 1))), .ref (ad 13 0)]) rfl ?_
    refine lv_if_eq (tgt := 17) hx hb d_Model_found_6 (by decide) (fun c_1 => ?_) (fun c_1 => ?_)
    · skip
      refine lv_iconst (v := 1) hx hb d_Model_found_17 (by decide) ?_
      refine lv_goto (tgt := 22) hx hb d_Model_found_18 (by decide) ?_
      refine os_putI (C := "RobotFaultsModel") (T := F_Model) (N := 38) (ci := 7) (K := 13) (j := 0) (i := 0) (v := 1) (ty := .int) hx hb hts i_Model t_Model t_Model_ok n_Model hown hK hV rfl rfl (by decide) (hM.1.n 13 (by decide) (by decide)) (hts _ k_725) rfl rfl rfl (by decide +kernel) rfl rfl d_Model_found_22 (fun H locs hV => ?_)
      refine lv_aload_n hx hb d_Model_found_25 rfl (lv_at hl 0 rfl) ?_
      refine os_get (C := "RobotFaultsModel") (T := F_Model) (N := 38) (ci := 7) (K := 13) (j := 0) (i := 0) (v := .int 1) hx hb hts i_Model hown hK hV rfl rfl (by decide) (hM.1.n 13 (by decide) (by decide)) (hts _ k_725) (os_fv_sgs (σ := σ) (ad := ad) (K := 13) (j := 0) (i := 0) (v := 1) rfl rfl) d_Model_found_26 ?_
      refine lv_if_ne (tgt := 51) hx hb d_Model_found_29 (by decide) (fun c_2 => ?_) (fun c_2 => ?_)
      · skip
        refine lv_aload_n hx hb d_Model_found_51 rfl (lv_at hl 0 rfl) ?_
        refine os_get (C := "RobotFaultsModel") (T := F_Model) (N := 38) (ci := 7) (K := 13) (j := 0) (i := 0) (v := .int 1) hx hb hts i_Model hown hK hV rfl rfl (by decide) (hM.1.n 13 (by decide) (by decide)) (hts _ k_725) (os_fv_sgs (σ := σ) (ad := ad) (K := 13) (j := 0) (i := 0) (v := 1) rfl rfl) d_Model_found_52 ?_
        refine lv_if_ne (tgt := 76) hx hb d_Model_found_55 (by decide) (fun c_3 => ?_) (fun c_3 => ?_)
        · skip
          refine lv_aload_n hx hb d_Model_found_76 rfl (lv_at hl 0 rfl) ?_
          refine os_get (C := "RobotFaultsModel") (T := F_Model) (N := 38) (ci := 7) (K := 13) (j := 0) (i := 0) (v := .int 1) hx hb hts i_Model hown hK hV rfl rfl (by decide) (hM.1.n 13 (by decide) (by decide)) (hts _ k_725) (os_fv_sgs (σ := σ) (ad := ad) (K := 13) (j := 0) (i := 0) (v := 1) rfl rfl) d_Model_found_77 ?_
          refine lv_if_le (tgt := 85) hx hb d_Model_found_80 (by decide) (fun c_4 => ?_) (fun c_4 => ?_)
          · exact absurd c_4 (by decide)
          · skip
            refine lv_iconst (v := 0) hx hb d_Model_found_83 (by decide) ?_
            refine os_iret hx hb hr hlocks hV (Nat.le_of_ble_eq_true rfl) (Nat.le_of_ble_eq_true rfl) d_Model_found_84 ?_
            exact ⟨rfl, Or.inl (⟨c_1, rfl, rfl⟩)⟩
        · exact absurd c_3 (by decide)
      · exact absurd c_2 (by decide)
    · skip
      refine lv_aload_n hx hb d_Model_found_9 rfl (lv_at hl 0 rfl) ?_
      refine lv_iload_n hx hb d_Model_found_10 rfl (lv_at hl 2 rfl) ?_
      refine os_call (c_Model_isPiece l hlt D cA bs σ ad y hM) hE hV k_856 k_4 (os_inV (C := "RobotFaultsModel") (n := 1) (bytes := prog_9_method_4_code) (maxL := 2) (ret := (some .boolean)) hx hb hown (hts _ k_853) (hts _ k_855) (hts _ k_s21) (hts _ k_856) (by decide +kernel) rfl (os_recv hK hV rfl rfl (hM.1.n 13 (by decide) (by decide))) rfl d_Model_found_11) (hl.1.trans hml.symm) (Nat.le_of_ble_eq_true rfl) (Nat.le_of_ble_eq_true rfl) (Nat.le_of_ble_eq_true rfl) (Nat.le_of_ble_eq_true rfl) (Nat.le_of_ble_eq_true rfl) (fun v σ1 ad1 H locs hp hext hV => ?_) (fun E q ce σ1 ad1 H locs hp hext hV hce hcv hcl => ?_)
      · obtain ⟨rfl, rfl, hp⟩ := hp
        cases hp
        refine W.eq (g2 := F0 m 14 ls [.int (bz (inF y 0 (os_g σ 13 2 0 - 1))), .ref (ad 13 0)]) rfl ?_
        refine lv_if_ne (tgt := 21) hx hb d_Model_found_14 (by decide) (fun c_5 => ?_) (fun c_5 => ?_)
        · skip
          refine lv_iconst (v := 0) hx hb d_Model_found_21 (by decide) ?_
          refine os_putI (C := "RobotFaultsModel") (T := F_Model) (N := 38) (ci := 7) (K := 13) (j := 0) (i := 0) (v := 0) (ty := .int) hx hb hts i_Model t_Model t_Model_ok n_Model hown hK hV rfl rfl (by decide) (hM.1.n 13 (by decide) (by decide)) (hts _ k_725) rfl rfl rfl (by decide +kernel) rfl rfl d_Model_found_22 (fun H locs hV => ?_)
          refine lv_aload_n hx hb d_Model_found_25 rfl (lv_at hl 0 rfl) ?_
          refine os_get (C := "RobotFaultsModel") (T := F_Model) (N := 38) (ci := 7) (K := 13) (j := 0) (i := 0) (v := .int 0) hx hb hts i_Model hown hK hV rfl rfl (by decide) (hM.1.n 13 (by decide) (by decide)) (hts _ k_725) (os_fv_sgs (σ := σ) (ad := ad) (K := 13) (j := 0) (i := 0) (v := 0) rfl rfl) d_Model_found_26 ?_
          refine lv_if_ne (tgt := 51) hx hb d_Model_found_29 (by decide) (fun c_6 => ?_) (fun c_6 => ?_)
          · exact absurd c_6 (by decide)
          · skip
            refine lv_aload_n hx hb d_Model_found_32 rfl (lv_at hl 0 rfl) ?_
            refine lv_aload_n hx hb d_Model_found_33 rfl (lv_at hl 0 rfl) ?_
            refine os_get (C := "RobotFaultsModel") (T := F_Model) (N := 38) (ci := 7) (K := 13) (j := 7) (i := 0) (v := .ref (ad 17 0)) hx hb hts i_Model hown hK hV rfl rfl (by decide) (hM.1.n 13 (by decide) (by decide)) (hts _ k_732) (congrArg (fun z => va_rf (Option.map (ad 17) z)) (hM.1.2.1 7 (by decide) (by decide))) d_Model_found_34 ?_
            refine lv_iload_n hx hb d_Model_found_37 rfl (lv_at hl 1 rfl) ?_
            refine os_ialdN (K := 17) (i := 0) (t0 := 0) (n := (iN x)) hx hb hK hV rfl rfl rfl (hM.1.n 17 (by decide) (by decide)) (inF.ix (σ := σ) (bz_1 c_1) hM0.2.2.1).1 (by rw [show os_l (os_sg σ 13 0 0 0) 17 0 = 8 from hM.1.2.2 17 (by decide) (by decide)]; have h9 := (Nat.lt_of_lt_of_le (inF.ix (σ := σ) (bz_1 c_1) hM0.2.2.1).2 hM0.2.2.1.2); omega) (by rw [show os_l (os_sg σ 13 0 0 0) 17 0 = 8 from hM.1.2.2 17 (by decide) (by decide)]; decide) d_Model_found_38 ?_
            refine W.eq (g2 := F0 m 39 ls [.int (os_g σ 17 (iN x) 0), .ref (ad 13 0)]) (congrArg (fun z => F0 m 39 ls (.int z :: [.ref (ad 13 0)])) (show os_g (os_sg σ 13 0 0 0) 17 (iN x) 0 = os_g σ 17 (iN x) 0 from rfl)) ?_
            refine lv_iconst (v := 2) hx hb d_Model_found_39 (by decide) ?_
            refine lv_icmp_eq (tgt := 47) hx hb d_Model_found_40 (by decide) (fun c_7 => ?_) (fun c_7 => ?_)
            · skip
              refine lv_iconst (v := 0) hx hb d_Model_found_47 (by decide) ?_
              refine os_putI (C := "RobotFaultsModel") (T := F_Model) (N := 38) (ci := 7) (K := 13) (j := 0) (i := 0) (v := 0) (ty := .int) hx hb hts i_Model t_Model t_Model_ok n_Model hown hK hV rfl rfl (by decide) (hM.1.n 13 (by decide) (by decide)) (hts _ k_725) rfl rfl rfl (by decide +kernel) rfl rfl d_Model_found_48 (fun H locs hV => ?_)
              refine lv_aload_n hx hb d_Model_found_51 rfl (lv_at hl 0 rfl) ?_
              refine os_get (C := "RobotFaultsModel") (T := F_Model) (N := 38) (ci := 7) (K := 13) (j := 0) (i := 0) (v := .int 0) hx hb hts i_Model hown hK hV rfl rfl (by decide) (hM.1.n 13 (by decide) (by decide)) (hts _ k_725) (os_fv_sgs (σ := os_sg σ 13 0 0 0) (ad := ad) (K := 13) (j := 0) (i := 0) (v := 0) rfl rfl) d_Model_found_52 ?_
              refine lv_if_ne (tgt := 76) hx hb d_Model_found_55 (by decide) (fun c_8 => ?_) (fun c_8 => ?_)
              · exact absurd c_8 (by decide)
              · skip
                refine lv_aload_n hx hb d_Model_found_58 rfl (lv_at hl 0 rfl) ?_
                refine lv_aload_n hx hb d_Model_found_59 rfl (lv_at hl 0 rfl) ?_
                refine lv_iload_n hx hb d_Model_found_60 rfl (lv_at hl 1 rfl) ?_
                refine lv_iload_n hx hb d_Model_found_61 rfl (lv_at hl 2 rfl) ?_
                refine os_call (c_Model_mayBe l hlt D cA bs (os_sg (os_sg σ 13 0 0 0) 13 0 0 0) ad x y (MI.c (v := 0) (MI.c (v := 0) hM)) ⟨(inF.ix (σ := σ) (bz_1 c_1) hM0.2.2.1).1, (Nat.lt_of_lt_of_le (inF.ix (σ := σ) (bz_1 c_1) hM0.2.2.1).2 hM0.2.2.1.2)⟩ ⟨(inF.ix (σ := σ) (bz_1 c_5) hM0.2.1).1, (Nat.lt_of_lt_of_le (inF.ix (σ := σ) (bz_1 c_5) hM0.2.1).2 hM0.2.1.2)⟩) hE hV k_933 k_4 (os_inV (C := "RobotFaultsModel") (n := 2) (bytes := prog_9_method_26_code) (maxL := 3) (ret := (some .boolean)) hx hb hown (hts _ k_930) (hts _ k_932) (hts _ k_s29) (hts _ k_933) (by decide +kernel) rfl (os_recv hK hV rfl rfl (hM.1.n 13 (by decide) (by decide))) rfl d_Model_found_62) (hl.1.trans hml.symm) (Nat.le_of_ble_eq_true rfl) (Nat.le_of_ble_eq_true rfl) (Nat.le_of_ble_eq_true rfl) (Nat.le_of_ble_eq_true rfl) (Nat.le_of_ble_eq_true rfl) (fun v σ1 ad1 H locs hp hext hV => ?_) (fun E q ce σ1 ad1 H locs hp hext hV hce hcv hcl => ?_)
                · obtain ⟨rfl, hfe9, g9, hfc9, hfar9, hp⟩ := hp
                  cases hp
                  obtain ⟨σ_10, rfl⟩ : ∃ z, z = σ1 := ⟨_, rfl⟩
                  have he_11 := hext
                  have hr_12 : 0 < os_n σ_10 13 := Nat.lt_of_lt_of_le (hM.1.n 13 (by decide) (by decide)) (he_11.1 13)
                  have hM : MI σ_10 := hfe9.MI (MI.c (v := 0) (MI.c (v := 0) hM))
                  refine W.eq (g2 := F0 m 65 ls [.int (bz (mayB (os_sg (os_sg σ 13 0 0 0) 13 0 0 0) x (g9 (iN y)))), .ref (ad 13 0)]) rfl ?_
                  refine lv_if_ne (tgt := 72) hx hb d_Model_found_65 (by decide) (fun c_13 => ?_) (fun c_13 => ?_)
                  · skip
                    refine lv_iconst (v := 0) hx hb d_Model_found_72 (by decide) ?_
                    refine os_putI (C := "RobotFaultsModel") (T := F_Model) (N := 38) (ci := 7) (K := 13) (j := 0) (i := 0) (v := 0) (ty := .int) hx hb hts i_Model t_Model t_Model_ok n_Model hown hK hV rfl rfl (by decide) hr_12 (hts _ k_725) rfl rfl rfl (by decide +kernel) rfl rfl d_Model_found_73 (fun H locs hV => ?_)
                    refine lv_aload_n hx hb d_Model_found_76 rfl (lv_at hl 0 rfl) ?_
                    refine os_get (C := "RobotFaultsModel") (T := F_Model) (N := 38) (ci := 7) (K := 13) (j := 0) (i := 0) (v := .int 0) hx hb hts i_Model hown hK hV rfl rfl (by decide) hr_12 (hts _ k_725) (os_fv_sgs (σ := σ_10) (ad := ad) (K := 13) (j := 0) (i := 0) (v := 0) rfl rfl) d_Model_found_77 ?_
                    refine lv_if_le (tgt := 85) hx hb d_Model_found_80 (by decide) (fun c_14 => ?_) (fun c_14 => ?_)
                    · skip
                      refine lv_aload_n hx hb d_Model_found_85 rfl (lv_at hl 0 rfl) ?_
                      refine os_get (C := "RobotFaultsModel") (T := F_Model) (N := 38) (ci := 7) (K := 13) (j := 5) (i := 0) (v := .ref (ad 15 0)) hx hb hts i_Model hown hK hV rfl rfl (by decide) hr_12 (hts _ k_730) (congrArg (fun z => va_rf (Option.map (ad 15) z)) (hM.1.2.1 5 (by decide) (by decide))) d_Model_found_86 ?_
                      refine lv_iload_n hx hb d_Model_found_89 rfl (lv_at hl 1 rfl) ?_
                      refine lv_iload_n hx hb d_Model_found_90 rfl (lv_at hl 2 rfl) ?_
                      refine os_iastN (K := 15) (i := 0) (t0 := 0) (n := (iN x)) hx hb hK hV rfl rfl rfl (hM.1.n 15 (by decide) (by decide)) (inF.ix (σ := σ) (bz_1 c_1) hM0.2.2.1).1 (by rw [show os_l (os_sg σ_10 13 0 0 0) 15 0 = 8 from hM.1.2.2 15 (by decide) (by decide)]; have h9 := (Nat.lt_of_lt_of_le (inF.ix (σ := σ) (bz_1 c_1) hM0.2.2.1).2 hM0.2.2.1.2); omega) (by rw [show os_l (os_sg σ_10 13 0 0 0) 15 0 = 8 from hM.1.2.2 15 (by decide) (by decide)]; decide) d_Model_found_91 (fun H locs hV => ?_)
                      refine lv_aload_n hx hb d_Model_found_92 rfl (lv_at hl 0 rfl) ?_
                      refine os_get (C := "RobotFaultsModel") (T := F_Model) (N := 38) (ci := 7) (K := 13) (j := 7) (i := 0) (v := .ref (ad 17 0)) hx hb hts i_Model hown hK hV rfl rfl (by decide) hr_12 (hts _ k_732) (congrArg (fun z => va_rf (Option.map (ad 17) z)) (hM.1.2.1 7 (by decide) (by decide))) d_Model_found_93 ?_
                      refine lv_iload_n hx hb d_Model_found_96 rfl (lv_at hl 1 rfl) ?_
                      refine lv_iconst (v := 1) hx hb d_Model_found_97 (by decide) ?_
                      refine os_iastN (K := 17) (i := 0) (t0 := 0) (n := (iN x)) hx hb hK hV rfl rfl rfl (hM.1.n 17 (by decide) (by decide)) (inF.ix (σ := σ) (bz_1 c_1) hM0.2.2.1).1 (by rw [show os_l (os_sg (os_sg σ_10 13 0 0 0) 15 (iN x) 0 y) 17 0 = 8 from hM.1.2.2 17 (by decide) (by decide)]; have h9 := (Nat.lt_of_lt_of_le (inF.ix (σ := σ) (bz_1 c_1) hM0.2.2.1).2 hM0.2.2.1.2); omega) (by rw [show os_l (os_sg (os_sg σ_10 13 0 0 0) 15 (iN x) 0 y) 17 0 = 8 from hM.1.2.2 17 (by decide) (by decide)]; decide) d_Model_found_98 (fun H locs hV => ?_)
                      refine lv_aload_n hx hb d_Model_found_99 rfl (lv_at hl 0 rfl) ?_
                      refine os_get (C := "RobotFaultsModel") (T := F_Model) (N := 38) (ci := 7) (K := 13) (j := 37) (i := 0) (v := .ref (ad 44 0)) hx hb hts i_Model hown hK hV rfl rfl (by decide) hr_12 (hts _ k_762) (congrArg (fun z => va_rf (Option.map (ad 44) z)) (hM.1.2.1 37 (by decide) (by decide))) d_Model_found_100 ?_
                      refine lv_iload_n hx hb d_Model_found_103 rfl (lv_at hl 2 rfl) ?_
                      refine os_ialdN (K := 44) (i := 0) (t0 := 0) (n := (iN y)) hx hb hK hV rfl rfl rfl (hM.1.n 44 (by decide) (by decide)) (inF.ix (σ := σ) (bz_1 c_5) hM0.2.1).1 (by rw [show os_l (os_sg (os_sg (os_sg σ_10 13 0 0 0) 15 (iN x) 0 y) 17 (iN x) 0 1) 44 0 = 20 from hM.1.2.2 44 (by decide) (by decide)]; have h9 := (Nat.lt_of_lt_of_le (inF.ix (σ := σ) (bz_1 c_5) hM0.2.1).2 hM0.2.1.2); omega) (by rw [show os_l (os_sg (os_sg (os_sg σ_10 13 0 0 0) 15 (iN x) 0 y) 17 (iN x) 0 1) 44 0 = 20 from hM.1.2.2 44 (by decide) (by decide)]; decide) d_Model_found_104 ?_
                      refine W.eq (g2 := F0 m 105 ls [.int (os_g σ_10 44 (iN y) 0)]) (congrArg (fun z => F0 m 105 ls (.int z :: [])) (show os_g (os_sg (os_sg (os_sg σ_10 13 0 0 0) 15 (iN x) 0 y) 17 (iN x) 0 1) 44 (iN y) 0 = os_g σ_10 44 (iN y) 0 from rfl)) ?_
                      refine os_iret hx hb hr hlocks hV (Nat.le_of_ble_eq_true rfl) (Nat.le_of_ble_eq_true rfl) d_Model_found_105 ?_
                      exact ⟨rfl, Or.inr (Or.inr (Or.inr ⟨c_1, c_5, c_7, g9, _, hfe9, hfar9, Or.inr ⟨c_13, rfl, by rw [(hfc9 (iN y) (Nat.lt_of_lt_of_le (inF.ix (σ := σ) (bz_1 c_5) hM0.2.1).2 hM0.2.1.2)).1]⟩⟩))⟩
                    · exact absurd (by decide) c_14
                  · skip
                    refine lv_iconst (v := 2) hx hb d_Model_found_68 (by decide) ?_
                    refine lv_goto (tgt := 73) hx hb d_Model_found_69 (by decide) ?_
                    refine os_putI (C := "RobotFaultsModel") (T := F_Model) (N := 38) (ci := 7) (K := 13) (j := 0) (i := 0) (v := 2) (ty := .int) hx hb hts i_Model t_Model t_Model_ok n_Model hown hK hV rfl rfl (by decide) hr_12 (hts _ k_725) rfl rfl rfl (by decide +kernel) rfl rfl d_Model_found_73 (fun H locs hV => ?_)
                    refine lv_aload_n hx hb d_Model_found_76 rfl (lv_at hl 0 rfl) ?_
                    refine os_get (C := "RobotFaultsModel") (T := F_Model) (N := 38) (ci := 7) (K := 13) (j := 0) (i := 0) (v := .int 2) hx hb hts i_Model hown hK hV rfl rfl (by decide) hr_12 (hts _ k_725) (os_fv_sgs (σ := σ_10) (ad := ad) (K := 13) (j := 0) (i := 0) (v := 2) rfl rfl) d_Model_found_77 ?_
                    refine lv_if_le (tgt := 85) hx hb d_Model_found_80 (by decide) (fun c_15 => ?_) (fun c_15 => ?_)
                    · exact absurd c_15 (by decide)
                    · skip
                      refine lv_iconst (v := 0) hx hb d_Model_found_83 (by decide) ?_
                      refine os_iret hx hb hr hlocks hV (Nat.le_of_ble_eq_true rfl) (Nat.le_of_ble_eq_true rfl) d_Model_found_84 ?_
                      exact ⟨rfl, Or.inr (Or.inr (Or.inr ⟨c_1, c_5, c_7, g9, _, hfe9, hfar9, Or.inl ⟨c_13, rfl, rfl⟩⟩))⟩
                · obtain ⟨rfl, hfe, g, hfc, hfar, hp⟩ := hp; cases hp
            · skip
              refine lv_iconst (v := 2) hx hb d_Model_found_43 (by decide) ?_
              refine lv_goto (tgt := 48) hx hb d_Model_found_44 (by decide) ?_
              refine os_putI (C := "RobotFaultsModel") (T := F_Model) (N := 38) (ci := 7) (K := 13) (j := 0) (i := 0) (v := 2) (ty := .int) hx hb hts i_Model t_Model t_Model_ok n_Model hown hK hV rfl rfl (by decide) (hM.1.n 13 (by decide) (by decide)) (hts _ k_725) rfl rfl rfl (by decide +kernel) rfl rfl d_Model_found_48 (fun H locs hV => ?_)
              refine lv_aload_n hx hb d_Model_found_51 rfl (lv_at hl 0 rfl) ?_
              refine os_get (C := "RobotFaultsModel") (T := F_Model) (N := 38) (ci := 7) (K := 13) (j := 0) (i := 0) (v := .int 2) hx hb hts i_Model hown hK hV rfl rfl (by decide) (hM.1.n 13 (by decide) (by decide)) (hts _ k_725) (os_fv_sgs (σ := os_sg σ 13 0 0 0) (ad := ad) (K := 13) (j := 0) (i := 0) (v := 2) rfl rfl) d_Model_found_52 ?_
              refine lv_if_ne (tgt := 76) hx hb d_Model_found_55 (by decide) (fun c_16 => ?_) (fun c_16 => ?_)
              · skip
                refine lv_aload_n hx hb d_Model_found_76 rfl (lv_at hl 0 rfl) ?_
                refine os_get (C := "RobotFaultsModel") (T := F_Model) (N := 38) (ci := 7) (K := 13) (j := 0) (i := 0) (v := .int 2) hx hb hts i_Model hown hK hV rfl rfl (by decide) (hM.1.n 13 (by decide) (by decide)) (hts _ k_725) (os_fv_sgs (σ := os_sg σ 13 0 0 0) (ad := ad) (K := 13) (j := 0) (i := 0) (v := 2) rfl rfl) d_Model_found_77 ?_
                refine lv_if_le (tgt := 85) hx hb d_Model_found_80 (by decide) (fun c_17 => ?_) (fun c_17 => ?_)
                · exact absurd c_17 (by decide)
                · skip
                  refine lv_iconst (v := 0) hx hb d_Model_found_83 (by decide) ?_
                  refine os_iret hx hb hr hlocks hV (Nat.le_of_ble_eq_true rfl) (Nat.le_of_ble_eq_true rfl) d_Model_found_84 ?_
                  exact ⟨rfl, Or.inr (Or.inr (Or.inl (⟨c_1, c_5, c_7, rfl, rfl⟩)))⟩
              · exact absurd c_16 (by decide)
        · skip
          refine lv_iconst (v := 1) hx hb d_Model_found_17 (by decide) ?_
          refine lv_goto (tgt := 22) hx hb d_Model_found_18 (by decide) ?_
          refine os_putI (C := "RobotFaultsModel") (T := F_Model) (N := 38) (ci := 7) (K := 13) (j := 0) (i := 0) (v := 1) (ty := .int) hx hb hts i_Model t_Model t_Model_ok n_Model hown hK hV rfl rfl (by decide) (hM.1.n 13 (by decide) (by decide)) (hts _ k_725) rfl rfl rfl (by decide +kernel) rfl rfl d_Model_found_22 (fun H locs hV => ?_)
          refine lv_aload_n hx hb d_Model_found_25 rfl (lv_at hl 0 rfl) ?_
          refine os_get (C := "RobotFaultsModel") (T := F_Model) (N := 38) (ci := 7) (K := 13) (j := 0) (i := 0) (v := .int 1) hx hb hts i_Model hown hK hV rfl rfl (by decide) (hM.1.n 13 (by decide) (by decide)) (hts _ k_725) (os_fv_sgs (σ := σ) (ad := ad) (K := 13) (j := 0) (i := 0) (v := 1) rfl rfl) d_Model_found_26 ?_
          refine lv_if_ne (tgt := 51) hx hb d_Model_found_29 (by decide) (fun c_18 => ?_) (fun c_18 => ?_)
          · skip
            refine lv_aload_n hx hb d_Model_found_51 rfl (lv_at hl 0 rfl) ?_
            refine os_get (C := "RobotFaultsModel") (T := F_Model) (N := 38) (ci := 7) (K := 13) (j := 0) (i := 0) (v := .int 1) hx hb hts i_Model hown hK hV rfl rfl (by decide) (hM.1.n 13 (by decide) (by decide)) (hts _ k_725) (os_fv_sgs (σ := σ) (ad := ad) (K := 13) (j := 0) (i := 0) (v := 1) rfl rfl) d_Model_found_52 ?_
            refine lv_if_ne (tgt := 76) hx hb d_Model_found_55 (by decide) (fun c_19 => ?_) (fun c_19 => ?_)
            · skip
              refine lv_aload_n hx hb d_Model_found_76 rfl (lv_at hl 0 rfl) ?_
              refine os_get (C := "RobotFaultsModel") (T := F_Model) (N := 38) (ci := 7) (K := 13) (j := 0) (i := 0) (v := .int 1) hx hb hts i_Model hown hK hV rfl rfl (by decide) (hM.1.n 13 (by decide) (by decide)) (hts _ k_725) (os_fv_sgs (σ := σ) (ad := ad) (K := 13) (j := 0) (i := 0) (v := 1) rfl rfl) d_Model_found_77 ?_
              refine lv_if_le (tgt := 85) hx hb d_Model_found_80 (by decide) (fun c_20 => ?_) (fun c_20 => ?_)
              · exact absurd c_20 (by decide)
              · skip
                refine lv_iconst (v := 0) hx hb d_Model_found_83 (by decide) ?_
                refine os_iret hx hb hr hlocks hV (Nat.le_of_ble_eq_true rfl) (Nat.le_of_ble_eq_true rfl) d_Model_found_84 ?_
                exact ⟨rfl, Or.inr (Or.inl (⟨c_1, c_5, rfl, rfl⟩))⟩
            · exact absurd c_19 (by decide)
          · exact absurd c_18 (by decide)
      · exact absurd hp.2.2 (fun h => by cases h)
  · exact absurd hp.2.2 (fun h => by cases h)
