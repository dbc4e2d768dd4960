/-! THE REFERENCE: planted faults and time -/
set_option maxHeartbeats 4000000 in
set_option maxRecDepth 100000 in
theorem c_Model_comePlanted (l : Launch) (hlt : l.stackTraces = false) (D : va_G) (cA : Nat → ClassId) (bs : Nat) (σ : os_S) (ad : Nat → Nat → Nat) (hMJ : MJ σ) : os_Met l y_Model_comePlanted prog_9_method_31_code 3 none { frames := 2, cells := 0, slots := 0, locals := 51 } D cA bs [.ref (ad 13 0)] σ ad (fun r σ' ad' => mpE σ = σ' ∧ ad = ad' ∧ r = .inl none) := by
  refine os_ofW (by decide) ?_
  intro p e s m below meth c hx hb hr hml hown hlocks hmn hout hE hV
  have hts := hE.hts (args := ([.ref (ad 13 0)] : List Value).toArray)
  have hK := hE.2.1
  have hbs := hE.2.2.1
  have hown : s.vm.findClass "RobotFaultsModel" = some m.cls := hown
  have hl := lv_entry ([.ref (ad 13 0)]) (n := 3) (Nat.le_of_ble_eq_true rfl)
  rw [lg_entry_eq]
  generalize (lg_sl ([.ref (ad 13 0)]) ++ List.replicate (3 - (lg_sl ([.ref (ad 13 0)])).length) Slot.unset).toArray = ls at hl ⊢
  have hl : lv_has ls 3 [(0, .ref (ad 13 0))] := hl
  have hM := hMJ.1
  have hM0 := hM
  refine lv_iconst (v := 0) hx hb d_Model_comePlanted_0 (by decide) ?_
  refine lv_istore_n (lv' := [(1, .int 0), (0, .ref (ad 13 0))]) hx hb d_Model_comePlanted_1 rfl hl (by decide) rfl (fun ls hl => ?_)
  refine lv_iconst (v := 0) hx hb d_Model_comePlanted_2 (by decide) ?_
  refine lv_istore_n (lv' := [(2, .int 0), (1, .int 0), (0, .ref (ad 13 0))]) hx hb d_Model_comePlanted_3 rfl hl (by decide) rfl (fun ls hl => ?_)
  have loop : ∀ (n j : Nat) (kk : Nat) (τ : os_S)  (ls : Array Slot) (H : Heap) (locs : List Loc), j ≤ (iN (os_g σ 13 33 0)) → (iN (os_g σ 13 33 0)) < j + n → kk = (mpC σ j).2 → (mpC σ j).1 = τ → os_V D cA bs σ ad s τ ad H locs → lv_has ls 3 [(0, .ref (ad 13 0)), (1, .int (nI kk)), (2, .int (nI j))] → W p l e { frames := 2, cells := 0, slots := 0, locals := 51 } s m ([.ref (ad 13 0)] : List Value).toArray below meth c H locs (0) (0) (os_End D cA bs below s σ ad { frames := 2, cells := 0, slots := 0, locals := 51 } (fun r σ' ad' => mpE σ = σ' ∧ ad = ad' ∧ r = .inl none)) (F0 m 4 ls []) := by
    intro n
    induction n with
    | zero => intro j kk τ  ls H locs h1 h2; exact absurd h2 (by omega)
    | succ n loop_ih =>
      intro j kk τ  ls H locs loop_j loop_n loop_i loop_s hV hl
      have hr_1 : 0 < os_n τ 13 := Nat.lt_of_lt_of_le (hMJ.1.1.n 13 (by decide) (by decide)) (hV.2.1.1 13)
      have hMJ9 : MJ τ := (by rw [← loop_s]; exact hMJ.pC j (Nat.le_trans loop_j hM0.2.2.2.2.2.1.2))
      have hM : MI τ := hMJ9.1
      have hpl : os_g τ 13 33 0 = nI (iN (os_g σ 13 33 0)) := (by rw [← loop_s, mpC_13 (by decide)]; exact hM0.2.2.2.2.2.1.1)
      have hkk : kk ≤ j := (by rw [loop_i]; exact mpC_le j)
      refine lv_iload_n hx hb d_Model_comePlanted_4 rfl (lv_at hl 2 rfl) ?_
      refine lv_aload_n hx hb d_Model_comePlanted_5 rfl (lv_at hl 0 rfl) ?_
      refine os_get (C := "RobotFaultsModel") (T := F_Model) (N := 38) (ci := 7) (K := 13) (j := 33) (i := 0) (v := .int (os_g τ 13 33 0)) hx hb hts i_Model hown hK hV rfl rfl (by decide) hr_1 (hts _ k_758) rfl d_Model_comePlanted_6 ?_
      refine lv_icmp_ge (tgt := 110) hx hb d_Model_comePlanted_9 (by decide) (fun c_2 => ?_) (fun c_2 => ?_)
      · skip
        refine lv_aload_n hx hb d_Model_comePlanted_110 rfl (lv_at hl 0 rfl) ?_
        refine lv_iload_n hx hb d_Model_comePlanted_111 rfl (lv_at hl 1 rfl) ?_
        refine os_putI (C := "RobotFaultsModel") (T := F_Model) (N := 38) (ci := 7) (K := 13) (j := 33) (i := 0) (v := nI kk) (ty := .int) hx hb hts i_Model t_Model t_Model_ok n_Model hown hK hV rfl rfl (by decide) hr_1 (hts _ k_758) rfl rfl rfl (by decide +kernel) rfl rfl d_Model_comePlanted_112 (fun H locs hV => ?_)
        refine os_vret hx hb hr hlocks hV (Nat.le_of_ble_eq_true rfl) (Nat.le_of_ble_eq_true rfl) d_Model_comePlanted_115 ?_
        have hj := eq_of_le c_2 loop_j hpl (by have := hM0.2.2.2.2.2.1.2; omega)
        exact ⟨by unfold mpE; rw [← hj, loop_s, ← loop_i], rfl, rfl⟩
      · skip
        refine lv_aload_n hx hb d_Model_comePlanted_12 rfl (lv_at hl 0 rfl) ?_
        refine os_get (C := "RobotFaultsModel") (T := F_Model) (N := 38) (ci := 7) (K := 13) (j := 36) (i := 0) (v := .ref (ad 43 0)) hx hb hts i_Model hown hK hV rfl rfl (by decide) hr_1 (hts _ k_761) (congrArg (fun z => va_rf (Option.map (ad 43) z)) (hM.1.2.1 36 (by decide) (by decide))) d_Model_comePlanted_13 ?_
        refine lv_iload_n hx hb d_Model_comePlanted_16 rfl (lv_at hl 2 rfl) ?_
        refine os_ialdN (K := 43) (i := 0) (t0 := 0) (n := j) hx hb hK hV rfl rfl rfl (hM.1.n 43 (by decide) (by decide)) rfl (by rw [show os_l τ 43 0 = 10 from hM.1.2.2 43 (by decide) (by decide)]; have h9 := (Nat.lt_of_lt_of_le (lt_of_nle c_2 loop_j hpl (by have := hM0.2.2.2.2.2.1.2; omega)) hM0.2.2.2.2.2.1.2); omega) (by rw [show os_l τ 43 0 = 10 from hM.1.2.2 43 (by decide) (by decide)]; decide) d_Model_comePlanted_17 ?_
        refine lv_aload_n hx hb d_Model_comePlanted_18 rfl (lv_at hl 0 rfl) ?_
        refine os_get (C := "RobotFaultsModel") (T := F_Model) (N := 38) (ci := 7) (K := 13) (j := 1) (i := 0) (v := .int (os_g τ 13 1 0)) hx hb hts i_Model hown hK hV rfl rfl (by decide) hr_1 (hts _ k_726) rfl d_Model_comePlanted_19 ?_
        refine lv_icmp_ne (tgt := 65) hx hb d_Model_comePlanted_22 (by decide) (fun c_3 => ?_) (fun c_3 => ?_)
        · skip
          refine lv_aload_n hx hb d_Model_comePlanted_65 rfl (lv_at hl 0 rfl) ?_
          refine os_get (C := "RobotFaultsModel") (T := F_Model) (N := 38) (ci := 7) (K := 13) (j := 34) (i := 0) (v := .ref (ad 41 0)) hx hb hts i_Model hown hK hV rfl rfl (by decide) hr_1 (hts _ k_759) (congrArg (fun z => va_rf (Option.map (ad 41) z)) (hM.1.2.1 34 (by decide) (by decide))) d_Model_comePlanted_66 ?_
          refine lv_iload_n hx hb d_Model_comePlanted_69 rfl (lv_at hl 1 rfl) ?_
          refine lv_aload_n hx hb d_Model_comePlanted_70 rfl (lv_at hl 0 rfl) ?_
          refine os_get (C := "RobotFaultsModel") (T := F_Model) (N := 38) (ci := 7) (K := 13) (j := 34) (i := 0) (v := .ref (ad 41 0)) hx hb hts i_Model hown hK hV rfl rfl (by decide) hr_1 (hts _ k_759) (congrArg (fun z => va_rf (Option.map (ad 41) z)) (hM.1.2.1 34 (by decide) (by decide))) d_Model_comePlanted_71 ?_
          refine lv_iload_n hx hb d_Model_comePlanted_74 rfl (lv_at hl 2 rfl) ?_
          refine os_ialdN (K := 41) (i := 0) (t0 := 0) (n := j) hx hb hK hV rfl rfl rfl (hM.1.n 41 (by decide) (by decide)) rfl (by rw [show os_l τ 41 0 = 10 from hM.1.2.2 41 (by decide) (by decide)]; have h9 := (Nat.lt_of_lt_of_le (lt_of_nle c_2 loop_j hpl (by have := hM0.2.2.2.2.2.1.2; omega)) hM0.2.2.2.2.2.1.2); omega) (by rw [show os_l τ 41 0 = 10 from hM.1.2.2 41 (by decide) (by decide)]; decide) d_Model_comePlanted_75 ?_
          refine os_iastN (K := 41) (i := 0) (t0 := 0) (n := kk) hx hb hK hV rfl rfl rfl (hM.1.n 41 (by decide) (by decide)) rfl (by rw [show os_l τ 41 0 = 10 from hM.1.2.2 41 (by decide) (by decide)]; have h9 := (show kk < 10 from Nat.lt_of_le_of_lt hkk (Nat.lt_of_lt_of_le (lt_of_nle c_2 loop_j hpl (by have := hM0.2.2.2.2.2.1.2; omega)) hM0.2.2.2.2.2.1.2)); omega) (by rw [show os_l τ 41 0 = 10 from hM.1.2.2 41 (by decide) (by decide)]; decide) d_Model_comePlanted_76 (fun H locs hV => ?_)
          refine lv_aload_n hx hb d_Model_comePlanted_77 rfl (lv_at hl 0 rfl) ?_
          refine os_get (C := "RobotFaultsModel") (T := F_Model) (N := 38) (ci := 7) (K := 13) (j := 35) (i := 0) (v := .ref (ad 42 0)) hx hb hts i_Model hown hK hV rfl rfl (by decide) hr_1 (hts _ k_760) (congrArg (fun z => va_rf (Option.map (ad 42) z)) (hM.1.2.1 35 (by decide) (by decide))) d_Model_comePlanted_78 ?_
          refine lv_iload_n hx hb d_Model_comePlanted_81 rfl (lv_at hl 1 rfl) ?_
          refine lv_aload_n hx hb d_Model_comePlanted_82 rfl (lv_at hl 0 rfl) ?_
          refine os_get (C := "RobotFaultsModel") (T := F_Model) (N := 38) (ci := 7) (K := 13) (j := 35) (i := 0) (v := .ref (ad 42 0)) hx hb hts i_Model hown hK hV rfl rfl (by decide) hr_1 (hts _ k_760) (congrArg (fun z => va_rf (Option.map (ad 42) z)) (hM.1.2.1 35 (by decide) (by decide))) d_Model_comePlanted_83 ?_
          refine lv_iload_n hx hb d_Model_comePlanted_86 rfl (lv_at hl 2 rfl) ?_
          refine os_ialdN (K := 42) (i := 0) (t0 := 0) (n := j) hx hb hK hV rfl rfl rfl (hM.1.n 42 (by decide) (by decide)) rfl (by rw [show os_l (os_sg τ 41 kk 0 (os_g τ 41 j 0)) 42 0 = 10 from hM.1.2.2 42 (by decide) (by decide)]; have h9 := (Nat.lt_of_lt_of_le (lt_of_nle c_2 loop_j hpl (by have := hM0.2.2.2.2.2.1.2; omega)) hM0.2.2.2.2.2.1.2); omega) (by rw [show os_l (os_sg τ 41 kk 0 (os_g τ 41 j 0)) 42 0 = 10 from hM.1.2.2 42 (by decide) (by decide)]; decide) d_Model_comePlanted_87 ?_
          refine W.eq (g2 := F0 m 88 ls [.int (os_g τ 42 j 0), .int (nI kk), .ref (ad 42 0)]) (congrArg (fun z => F0 m 88 ls (.int z :: [.int (nI kk), .ref (ad 42 0)])) (show os_g (os_sg τ 41 kk 0 (os_g τ 41 j 0)) 42 j 0 = os_g τ 42 j 0 from rfl)) ?_
          refine os_iastN (K := 42) (i := 0) (t0 := 0) (n := kk) hx hb hK hV rfl rfl rfl (hM.1.n 42 (by decide) (by decide)) rfl (by rw [show os_l (os_sg τ 41 kk 0 (os_g τ 41 j 0)) 42 0 = 10 from hM.1.2.2 42 (by decide) (by decide)]; have h9 := (show kk < 10 from Nat.lt_of_le_of_lt hkk (Nat.lt_of_lt_of_le (lt_of_nle c_2 loop_j hpl (by have := hM0.2.2.2.2.2.1.2; omega)) hM0.2.2.2.2.2.1.2)); omega) (by rw [show os_l (os_sg τ 41 kk 0 (os_g τ 41 j 0)) 42 0 = 10 from hM.1.2.2 42 (by decide) (by decide)]; decide) d_Model_comePlanted_88 (fun H locs hV => ?_)
          refine lv_aload_n hx hb d_Model_comePlanted_89 rfl (lv_at hl 0 rfl) ?_
          refine os_get (C := "RobotFaultsModel") (T := F_Model) (N := 38) (ci := 7) (K := 13) (j := 36) (i := 0) (v := .ref (ad 43 0)) hx hb hts i_Model hown hK hV rfl rfl (by decide) hr_1 (hts _ k_761) (congrArg (fun z => va_rf (Option.map (ad 43) z)) (hM.1.2.1 36 (by decide) (by decide))) d_Model_comePlanted_90 ?_
          refine lv_iload_n hx hb d_Model_comePlanted_93 rfl (lv_at hl 1 rfl) ?_
          refine lv_aload_n hx hb d_Model_comePlanted_94 rfl (lv_at hl 0 rfl) ?_
          refine os_get (C := "RobotFaultsModel") (T := F_Model) (N := 38) (ci := 7) (K := 13) (j := 36) (i := 0) (v := .ref (ad 43 0)) hx hb hts i_Model hown hK hV rfl rfl (by decide) hr_1 (hts _ k_761) (congrArg (fun z => va_rf (Option.map (ad 43) z)) (hM.1.2.1 36 (by decide) (by decide))) d_Model_comePlanted_95 ?_
          refine lv_iload_n hx hb d_Model_comePlanted_98 rfl (lv_at hl 2 rfl) ?_
          refine os_ialdN (K := 43) (i := 0) (t0 := 0) (n := j) hx hb hK hV rfl rfl rfl (hM.1.n 43 (by decide) (by decide)) rfl (by rw [show os_l (os_sg (os_sg τ 41 kk 0 (os_g τ 41 j 0)) 42 kk 0 (os_g τ 42 j 0)) 43 0 = 10 from hM.1.2.2 43 (by decide) (by decide)]; have h9 := (Nat.lt_of_lt_of_le (lt_of_nle c_2 loop_j hpl (by have := hM0.2.2.2.2.2.1.2; omega)) hM0.2.2.2.2.2.1.2); omega) (by rw [show os_l (os_sg (os_sg τ 41 kk 0 (os_g τ 41 j 0)) 42 kk 0 (os_g τ 42 j 0)) 43 0 = 10 from hM.1.2.2 43 (by decide) (by decide)]; decide) d_Model_comePlanted_99 ?_
          refine W.eq (g2 := F0 m 100 ls [.int (os_g τ 43 j 0), .int (nI kk), .ref (ad 43 0)]) (congrArg (fun z => F0 m 100 ls (.int z :: [.int (nI kk), .ref (ad 43 0)])) (show os_g (os_sg (os_sg τ 41 kk 0 (os_g τ 41 j 0)) 42 kk 0 (os_g τ 42 j 0)) 43 j 0 = os_g τ 43 j 0 from rfl)) ?_
          refine os_iastN (K := 43) (i := 0) (t0 := 0) (n := kk) hx hb hK hV rfl rfl rfl (hM.1.n 43 (by decide) (by decide)) rfl (by rw [show os_l (os_sg (os_sg τ 41 kk 0 (os_g τ 41 j 0)) 42 kk 0 (os_g τ 42 j 0)) 43 0 = 10 from hM.1.2.2 43 (by decide) (by decide)]; have h9 := (show kk < 10 from Nat.lt_of_le_of_lt hkk (Nat.lt_of_lt_of_le (lt_of_nle c_2 loop_j hpl (by have := hM0.2.2.2.2.2.1.2; omega)) hM0.2.2.2.2.2.1.2)); omega) (by rw [show os_l (os_sg (os_sg τ 41 kk 0 (os_g τ 41 j 0)) 42 kk 0 (os_g τ 42 j 0)) 43 0 = 10 from hM.1.2.2 43 (by decide) (by decide)]; decide) d_Model_comePlanted_100 (fun H locs hV => ?_)
          refine lv_iinc (v := nI (kk + 1)) (lv' := [(1, .int (nI (kk + 1))), (0, .ref (ad 13 0)), (2, .int (nI j))]) hx hb d_Model_comePlanted_101 hl (k := 1) rfl (nI_1 kk) (by decide) rfl (fun ls hl => ?_)
          refine lv_iinc (v := nI (j + 1)) (lv' := [(2, .int (nI (j + 1))), (1, .int (nI (kk + 1))), (0, .ref (ad 13 0))]) hx hb d_Model_comePlanted_104 hl (k := 2) rfl (nI_1 j) (by decide) rfl (fun ls hl => ?_)
          refine lv_goto (tgt := 4) hx hb d_Model_comePlanted_107 (by decide) ?_
          exact loop_ih (j + 1) (kk + 1) _  ls H locs (Nat.succ_le_of_lt (lt_of_nle c_2 loop_j hpl (by have := hM0.2.2.2.2.2.1.2; omega))) (by omega) (by rw [mpC_s loop_s, if_neg c_3, loop_i]) (by rw [mpC_s loop_s, if_neg c_3, ← loop_i]; rfl) hV (lv_sub hl [2, 1, 0] rfl)
        · skip
          refine lv_aload_n hx hb d_Model_comePlanted_25 rfl (lv_at hl 0 rfl) ?_
          refine lv_aload_n hx hb d_Model_comePlanted_26 rfl (lv_at hl 0 rfl) ?_
          refine os_get (C := "RobotFaultsModel") (T := F_Model) (N := 38) (ci := 7) (K := 13) (j := 34) (i := 0) (v := .ref (ad 41 0)) hx hb hts i_Model hown hK hV rfl rfl (by decide) hr_1 (hts _ k_759) (congrArg (fun z => va_rf (Option.map (ad 41) z)) (hM.1.2.1 34 (by decide) (by decide))) d_Model_comePlanted_27 ?_
          refine lv_iload_n hx hb d_Model_comePlanted_30 rfl (lv_at hl 2 rfl) ?_
          refine os_ialdN (K := 41) (i := 0) (t0 := 0) (n := j) hx hb hK hV rfl rfl rfl (hM.1.n 41 (by decide) (by decide)) rfl (by rw [show os_l τ 41 0 = 10 from hM.1.2.2 41 (by decide) (by decide)]; have h9 := (Nat.lt_of_lt_of_le (lt_of_nle c_2 loop_j hpl (by have := hM0.2.2.2.2.2.1.2; omega)) hM0.2.2.2.2.2.1.2); omega) (by rw [show os_l τ 41 0 = 10 from hM.1.2.2 41 (by decide) (by decide)]; decide) d_Model_comePlanted_31 ?_
          refine lv_aload_n hx hb d_Model_comePlanted_32 rfl (lv_at hl 0 rfl) ?_
          refine os_get (C := "RobotFaultsModel") (T := F_Model) (N := 38) (ci := 7) (K := 13) (j := 35) (i := 0) (v := .ref (ad 42 0)) hx hb hts i_Model hown hK hV rfl rfl (by decide) hr_1 (hts _ k_760) (congrArg (fun z => va_rf (Option.map (ad 42) z)) (hM.1.2.1 35 (by decide) (by decide))) d_Model_comePlanted_33 ?_
          refine lv_iload_n hx hb d_Model_comePlanted_36 rfl (lv_at hl 2 rfl) ?_
          refine os_ialdN (K := 42) (i := 0) (t0 := 0) (n := j) hx hb hK hV rfl rfl rfl (hM.1.n 42 (by decide) (by decide)) rfl (by rw [show os_l τ 42 0 = 10 from hM.1.2.2 42 (by decide) (by decide)]; have h9 := (Nat.lt_of_lt_of_le (lt_of_nle c_2 loop_j hpl (by have := hM0.2.2.2.2.2.1.2; omega)) hM0.2.2.2.2.2.1.2); omega) (by rw [show os_l τ 42 0 = 10 from hM.1.2.2 42 (by decide) (by decide)]; decide) d_Model_comePlanted_37 ?_
          refine os_call (c_Model_bars l hlt D cA bs τ ad (os_g τ 41 j 0) (os_g τ 42 j 0) hM (hM.2.2.2.2.2.2.2.2.1 j (Nat.lt_of_lt_of_le (lt_of_nle c_2 loop_j hpl (by have := hM0.2.2.2.2.2.1.2; omega)) hM0.2.2.2.2.2.1.2))) hE hV k_890 k_4 (os_inV (C := "RobotFaultsModel") (n := 2) (bytes := prog_9_method_18_code) (maxL := 3) (ret := (some .int)) hx hb hown (hts _ k_887) (hts _ k_889) (hts _ k_s23) (hts _ k_890) (by decide +kernel) rfl (os_recv hK hV rfl rfl hr_1) rfl d_Model_comePlanted_38) (hl.1.trans hml.symm) (Nat.le_of_ble_eq_true rfl) (Nat.le_of_ble_eq_true rfl) (Nat.le_of_ble_eq_true rfl) (Nat.le_of_ble_eq_true rfl) (Nat.le_of_ble_eq_true rfl) (fun v σ1 ad1 H locs hp hext hV => ?_) (fun E q ce σ1 ad1 H locs hp hext hV hce hcv hcl => ?_)
          · obtain ⟨rfl, rfl, hp⟩ := hp
            cases hp
            refine W.eq (g2 := F0 m 41 ls [.int (mba τ (os_g τ 41 j 0) (os_g τ 42 j 0))]) rfl ?_
            refine lv_if_ne (tgt := 104) hx hb d_Model_comePlanted_41 (by decide) (fun c_4 => ?_) (fun c_4 => ?_)
            · skip
              refine lv_iinc (v := nI (j + 1)) (lv' := [(2, .int (nI (j + 1))), (0, .ref (ad 13 0)), (1, .int (nI kk))]) hx hb d_Model_comePlanted_104 hl (k := 2) rfl (nI_1 j) (by decide) rfl (fun ls hl => ?_)
              refine lv_goto (tgt := 4) hx hb d_Model_comePlanted_107 (by decide) ?_
              exact loop_ih (j + 1) kk _  ls H locs (Nat.succ_le_of_lt (lt_of_nle c_2 loop_j hpl (by have := hM0.2.2.2.2.2.1.2; omega))) (by omega) (by rw [mpC_s loop_s, if_pos c_3]; exact loop_i) (by rw [mpC_s loop_s, if_pos c_3]; exact if_neg c_4) hV (lv_sub hl [1, 2, 0] rfl)
            · skip
              refine lv_aload_n hx hb d_Model_comePlanted_44 rfl (lv_at hl 0 rfl) ?_
              refine lv_aload_n hx hb d_Model_comePlanted_45 rfl (lv_at hl 0 rfl) ?_
              refine os_get (C := "RobotFaultsModel") (T := F_Model) (N := 38) (ci := 7) (K := 13) (j := 34) (i := 0) (v := .ref (ad 41 0)) hx hb hts i_Model hown hK hV rfl rfl (by decide) hr_1 (hts _ k_759) (congrArg (fun z => va_rf (Option.map (ad 41) z)) (hM.1.2.1 34 (by decide) (by decide))) d_Model_comePlanted_46 ?_
              refine lv_iload_n hx hb d_Model_comePlanted_49 rfl (lv_at hl 2 rfl) ?_
              refine os_ialdN (K := 41) (i := 0) (t0 := 0) (n := j) hx hb hK hV rfl rfl rfl (hM.1.n 41 (by decide) (by decide)) rfl (by rw [show os_l τ 41 0 = 10 from hM.1.2.2 41 (by decide) (by decide)]; have h9 := (Nat.lt_of_lt_of_le (lt_of_nle c_2 loop_j hpl (by have := hM0.2.2.2.2.2.1.2; omega)) hM0.2.2.2.2.2.1.2); omega) (by rw [show os_l τ 41 0 = 10 from hM.1.2.2 41 (by decide) (by decide)]; decide) d_Model_comePlanted_50 ?_
              refine lv_aload_n hx hb d_Model_comePlanted_51 rfl (lv_at hl 0 rfl) ?_
              refine os_get (C := "RobotFaultsModel") (T := F_Model) (N := 38) (ci := 7) (K := 13) (j := 35) (i := 0) (v := .ref (ad 42 0)) hx hb hts i_Model hown hK hV rfl rfl (by decide) hr_1 (hts _ k_760) (congrArg (fun z => va_rf (Option.map (ad 42) z)) (hM.1.2.1 35 (by decide) (by decide))) d_Model_comePlanted_52 ?_
              refine lv_iload_n hx hb d_Model_comePlanted_55 rfl (lv_at hl 2 rfl) ?_
              refine os_ialdN (K := 42) (i := 0) (t0 := 0) (n := j) hx hb hK hV rfl rfl rfl (hM.1.n 42 (by decide) (by decide)) rfl (by rw [show os_l τ 42 0 = 10 from hM.1.2.2 42 (by decide) (by decide)]; have h9 := (Nat.lt_of_lt_of_le (lt_of_nle c_2 loop_j hpl (by have := hM0.2.2.2.2.2.1.2; omega)) hM0.2.2.2.2.2.1.2); omega) (by rw [show os_l τ 42 0 = 10 from hM.1.2.2 42 (by decide) (by decide)]; decide) d_Model_comePlanted_56 ?_
              refine lv_iconst (v := 1) hx hb d_Model_comePlanted_57 (by decide) ?_
              refine W.eq (g2 := F0 m 58 ls [.int (bz true), .int (os_g τ 42 j 0), .int (os_g τ 41 j 0), .ref (ad 13 0)]) rfl ?_
              refine os_call (c_Model_come l hlt D cA bs τ ad (os_g τ 41 j 0) (os_g τ 42 j 0) true hM (hM.2.2.2.2.2.2.2.2.1 j (Nat.lt_of_lt_of_le (lt_of_nle c_2 loop_j hpl (by have := hM0.2.2.2.2.2.1.2; omega)) hM0.2.2.2.2.2.1.2)) (hM.2.2.2.2.2.2.2.2.2 j (Nat.lt_of_lt_of_le (lt_of_nle c_2 loop_j hpl (by have := hM0.2.2.2.2.2.1.2; omega)) hM0.2.2.2.2.2.1.2)) (fun _ => (mba_f (σ := τ) (x := os_g τ 41 j 0) (k := os_g τ 42 j 0) (by rw [c_4]; decide) hM.2.2.2.1)) (fun _ => Nat.lt_of_le_of_lt hMJ9.2 (mba_f (σ := τ) (x := os_g τ 41 j 0) (k := os_g τ 42 j 0) (by rw [c_4]; decide) hM.2.2.2.1))) hE hV k_894 k_4 (os_inV (C := "RobotFaultsModel") (n := 3) (bytes := prog_9_method_19_code) (maxL := 6) (ret := (some .int)) hx hb hown (hts _ k_891) (hts _ k_893) (hts _ k_s24) (hts _ k_894) (by decide +kernel) rfl (os_recv hK hV rfl rfl hr_1) rfl d_Model_comePlanted_58) (hl.1.trans hml.symm) (Nat.le_of_ble_eq_true rfl) (Nat.le_of_ble_eq_true rfl) (Nat.le_of_ble_eq_true rfl) (Nat.le_of_ble_eq_true rfl) (Nat.le_of_ble_eq_true rfl) (fun v σ1 ad1 H locs hp hext hV => ?_) (fun E q ce σ1 ad1 H locs hp hext hV hce hcv hcl => ?_)
              · obtain ⟨zs_5, rfl, hp⟩ := hp
                cases hp
                obtain ⟨σ_6, rfl⟩ : ∃ z, z = σ1 := ⟨_, rfl⟩
                have he_7 := hext
                have hr_8 : 0 < os_n σ_6 13 := Nat.lt_of_lt_of_le hr_1 (he_7.1 13)
                refine W.eq (g2 := F0 m 61 ls [.int (mcV τ (os_g τ 41 j 0) (os_g τ 42 j 0))]) rfl ?_
                refine lv_pop hx hb d_Model_comePlanted_61 rfl ?_
                refine lv_goto (tgt := 104) hx hb d_Model_comePlanted_62 (by decide) ?_
                refine lv_iinc (v := nI (j + 1)) (lv' := [(2, .int (nI (j + 1))), (0, .ref (ad 13 0)), (1, .int (nI kk))]) hx hb d_Model_comePlanted_104 hl (k := 2) rfl (nI_1 j) (by decide) rfl (fun ls hl => ?_)
                refine lv_goto (tgt := 4) hx hb d_Model_comePlanted_107 (by decide) ?_
                exact loop_ih (j + 1) kk _  ls H locs (Nat.succ_le_of_lt (lt_of_nle c_2 loop_j hpl (by have := hM0.2.2.2.2.2.1.2; omega))) (by omega) (by rw [mpC_s loop_s, if_pos c_3]; exact loop_i) (by rw [mpC_s loop_s, if_pos c_3]; exact (if_pos c_4).trans zs_5) hV (lv_sub hl [1, 2, 0] rfl)
              · exact absurd hp.2.2 (fun h => by cases h)
          · exact absurd hp.2.2 (fun h => by cases h)
  exact loop ((iN (os_g σ 13 33 0)) + 1) 0 0 _  ls _ _ (by omega) (by omega) rfl rfl hV (lv_sub hl [2, 1, 0] rfl)
def m_pass (σ : os_S) (ad : Nat → Nat → Nat) (x : Int32) : os_O → os_S → (Nat → Nat → Nat) → Prop := fun r σ' ad' => ad = ad' ∧ (((bz (inF x 0 1000) = 0 ∨ 100000 - os_g σ 13 1 0 < x) ∧ os_sg σ 13 0 0 1 = σ' ∧ r = .inl (some (.int 0))) ∨ (¬ bz (inF x 0 1000) = 0 ∧ ¬ 100000 - os_g σ 13 1 0 < x ∧ mps (os_sg σ 13 0 0 0) (iN x) = σ' ∧ r = .inl (some (.int (mpc (os_sg σ 13 0 0 0) (iN x))))))
set_option maxHeartbeats 4000000 in
set_option maxRecDepth 100000 in
theorem c_Model_pass (l : Launch) (hlt : l.stackTraces = false) (D : va_G) (cA : Nat → ClassId) (bs : Nat) (σ : os_S) (ad : Nat → Nat → Nat) (x : Int32) (hMJ : MJ σ) : os_Met l y_Model_pass prog_9_method_32_code 5 (some .int) { frames := 3, cells := 0, slots := 0, locals := 73 } D cA bs [.ref (ad 13 0), .int x] σ ad (m_pass σ ad x) := by
  refine os_ofW (by decide) ?_
  intro p e s m below meth c hx hb hr hml hown hlocks hmn hout hE hV
  have hts := hE.hts (args := ([.ref (ad 13 0), .int x] : List Value).toArray)
  have hK := hE.2.1
  have hbs := hE.2.2.1
  have hown : s.vm.findClass "RobotFaultsModel" = some m.cls := hown
  have hl := lv_entry ([.ref (ad 13 0), .int x]) (n := 5) (Nat.le_of_ble_eq_true rfl)
  rw [lg_entry_eq]
  generalize (lg_sl ([.ref (ad 13 0), .int x]) ++ List.replicate (5 - (lg_sl ([.ref (ad 13 0), .int x])).length) Slot.unset).toArray = ls at hl ⊢
  have hl : lv_has ls 5 [(0, .ref (ad 13 0)), (1, .int x)] := hl
  have hM := hMJ.1
  refine lv_aload_n hx hb d_Model_pass_0 rfl (lv_at hl 0 rfl) ?_
  refine lv_iload_n hx hb d_Model_pass_1 rfl (lv_at hl 1 rfl) ?_
  refine lv_iconst (v := 0) hx hb d_Model_pass_2 (by decide) ?_
  refine lv_sipush (v := 1000) hx hb d_Model_pass_3 (by decide) ?_
  refine os_call (c_Model_in l hlt D cA bs σ ad x 0 1000) hE hV k_859 k_4 (os_inS (n := 3) (bytes := prog_9_method_3_code) (maxL := 3) (ret := (some .boolean)) hx hb hown (hts _ k_857) (hts _ k_858) (hts _ k_4) (hts _ k_859) (by decide +kernel) rfl rfl d_Model_pass_6) (hl.1.trans hml.symm) (Nat.le_of_ble_eq_true rfl) (Nat.le_of_ble_eq_true rfl) (Nat.le_of_ble_eq_true rfl) (Nat.le_of_ble_eq_true rfl) (Nat.le_of_ble_eq_true rfl) (fun v σ1 ad1 H locs hp hext hV => ?_) (fun E q ce σ1 ad1 H locs hp hext hV hce hcv hcl => ?_)
  · obtain ⟨rfl, rfl, hp⟩ := hp
    cases hp
    refine W.eq (g2 := F0 m 9 ls [.int (bz (inF x 0 1000)), .ref (ad 13 0)]) rfl ?_
    refine lv_if_eq (tgt := 27) hx hb d_Model_pass_9 (by decide) (fun c_1 => ?_) (fun c_1 => ?_)
    · skip
      refine lv_iconst (v := 1) hx hb d_Model_pass_27 (by decide) ?_
      refine os_putI (C := "RobotFaultsModel") (T := F_Model) (N := 38) (ci := 7) (K := 13) (j := 0) (i := 0) (v := 1) (ty := .int) hx hb hts i_Model t_Model t_Model_ok n_Model hown hK hV rfl rfl (by decide) (hMJ.1.1.n 13 (by decide) (by decide)) (hts _ k_725) rfl rfl rfl (by decide +kernel) rfl rfl d_Model_pass_28 (fun H locs hV => ?_)
      refine lv_aload_n hx hb d_Model_pass_31 rfl (lv_at hl 0 rfl) ?_
      refine os_get (C := "RobotFaultsModel") (T := F_Model) (N := 38) (ci := 7) (K := 13) (j := 0) (i := 0) (v := .int 1) hx hb hts i_Model hown hK hV rfl rfl (by decide) (hMJ.1.1.n 13 (by decide) (by decide)) (hts _ k_725) (os_fv_sgs (σ := σ) (ad := ad) (K := 13) (j := 0) (i := 0) (v := 1) rfl rfl) d_Model_pass_32 ?_
      refine lv_if_le (tgt := 40) hx hb d_Model_pass_35 (by decide) (fun c_2 => ?_) (fun c_2 => ?_)
      · exact absurd c_2 (by decide)
      · skip
        refine lv_iconst (v := 0) hx hb d_Model_pass_38 (by decide) ?_
        refine os_iret hx hb hr hlocks hV (Nat.le_of_ble_eq_true rfl) (Nat.le_of_ble_eq_true rfl) d_Model_pass_39 ?_
        exact ⟨rfl, Or.inl ⟨Or.inl c_1, rfl, rfl⟩⟩
    · skip
      refine lv_iload_n hx hb d_Model_pass_12 rfl (lv_at hl 1 rfl) ?_
      refine lv_ldc (v := 100000) hx hb hown (hts _ k_954) d_Model_pass_13 ?_
      refine lv_aload_n hx hb d_Model_pass_15 rfl (lv_at hl 0 rfl) ?_
      refine os_get (C := "RobotFaultsModel") (T := F_Model) (N := 38) (ci := 7) (K := 13) (j := 1) (i := 0) (v := .int (os_g σ 13 1 0)) hx hb hts i_Model hown hK hV rfl rfl (by decide) (hMJ.1.1.n 13 (by decide) (by decide)) (hts _ k_726) rfl d_Model_pass_16 ?_
      refine lv_isub hx hb d_Model_pass_19 ?_
      refine lv_icmp_gt (tgt := 27) hx hb d_Model_pass_20 (by decide) (fun c_3 => ?_) (fun c_3 => ?_)
      · skip
        refine lv_iconst (v := 1) hx hb d_Model_pass_27 (by decide) ?_
        refine os_putI (C := "RobotFaultsModel") (T := F_Model) (N := 38) (ci := 7) (K := 13) (j := 0) (i := 0) (v := 1) (ty := .int) hx hb hts i_Model t_Model t_Model_ok n_Model hown hK hV rfl rfl (by decide) (hMJ.1.1.n 13 (by decide) (by decide)) (hts _ k_725) rfl rfl rfl (by decide +kernel) rfl rfl d_Model_pass_28 (fun H locs hV => ?_)
        refine lv_aload_n hx hb d_Model_pass_31 rfl (lv_at hl 0 rfl) ?_
        refine os_get (C := "RobotFaultsModel") (T := F_Model) (N := 38) (ci := 7) (K := 13) (j := 0) (i := 0) (v := .int 1) hx hb hts i_Model hown hK hV rfl rfl (by decide) (hMJ.1.1.n 13 (by decide) (by decide)) (hts _ k_725) (os_fv_sgs (σ := σ) (ad := ad) (K := 13) (j := 0) (i := 0) (v := 1) rfl rfl) d_Model_pass_32 ?_
        refine lv_if_le (tgt := 40) hx hb d_Model_pass_35 (by decide) (fun c_4 => ?_) (fun c_4 => ?_)
        · exact absurd c_4 (by decide)
        · skip
          refine lv_iconst (v := 0) hx hb d_Model_pass_38 (by decide) ?_
          refine os_iret hx hb hr hlocks hV (Nat.le_of_ble_eq_true rfl) (Nat.le_of_ble_eq_true rfl) d_Model_pass_39 ?_
          exact ⟨rfl, Or.inl ⟨Or.inr c_3, rfl, rfl⟩⟩
      · skip
        refine lv_iconst (v := 0) hx hb d_Model_pass_23 (by decide) ?_
        refine lv_goto (tgt := 28) hx hb d_Model_pass_24 (by decide) ?_
        refine os_putI (C := "RobotFaultsModel") (T := F_Model) (N := 38) (ci := 7) (K := 13) (j := 0) (i := 0) (v := 0) (ty := .int) hx hb hts i_Model t_Model t_Model_ok n_Model hown hK hV rfl rfl (by decide) (hMJ.1.1.n 13 (by decide) (by decide)) (hts _ k_725) rfl rfl rfl (by decide +kernel) rfl rfl d_Model_pass_28 (fun H locs hV => ?_)
        refine lv_aload_n hx hb d_Model_pass_31 rfl (lv_at hl 0 rfl) ?_
        refine os_get (C := "RobotFaultsModel") (T := F_Model) (N := 38) (ci := 7) (K := 13) (j := 0) (i := 0) (v := .int 0) hx hb hts i_Model hown hK hV rfl rfl (by decide) (hMJ.1.1.n 13 (by decide) (by decide)) (hts _ k_725) (os_fv_sgs (σ := σ) (ad := ad) (K := 13) (j := 0) (i := 0) (v := 0) rfl rfl) d_Model_pass_32 ?_
        refine lv_if_le (tgt := 40) hx hb d_Model_pass_35 (by decide) (fun c_5 => ?_) (fun c_5 => ?_)
        · skip
          have hq9 := inF.up (M := 1000) (bz_1 c_1)
          have hMJ0 : MJ (os_sg σ 13 0 0 0) := hMJ
          refine lv_iconst (v := 0) hx hb d_Model_pass_40 (by decide) ?_
          refine lv_istore_n (lv' := [(2, .int 0), (0, .ref (ad 13 0)), (1, .int x)]) hx hb d_Model_pass_41 rfl hl (by decide) rfl (fun ls hl => ?_)
          refine lv_iconst (v := 0) hx hb d_Model_pass_42 (by decide) ?_
          refine lv_istore_n (lv' := [(3, .int 0), (2, .int 0), (0, .ref (ad 13 0)), (1, .int x)]) hx hb d_Model_pass_43 rfl hl (by decide) rfl (fun ls hl => ?_)
          have loop : ∀ (n j : Nat) (a : Int32) (τ : os_S)  (ls : Array Slot) (H : Heap) (locs : List Loc), j ≤ (iN x) → (iN x) < j + n → a = mpc (os_sg σ 13 0 0 0) j → mps (os_sg σ 13 0 0 0) j = τ → os_V D cA bs σ ad s τ ad H locs → lv_has ls 5 [(0, .ref (ad 13 0)), (1, .int x), (2, .int a), (3, .int (nI j))] → W p l e { frames := 3, cells := 0, slots := 0, locals := 73 } s m ([.ref (ad 13 0), .int x] : List Value).toArray below meth c H locs (0) (0) (os_End D cA bs below s σ ad { frames := 3, cells := 0, slots := 0, locals := 73 } (m_pass σ ad x)) (F0 m 44 ls []) := by
            intro n
            induction n with
            | zero => intro j a τ  ls H locs h1 h2; exact absurd h2 (by omega)
            | succ n loop_ih =>
              intro j a τ  ls H locs loop_j loop_n loop_i loop_s hV hl
              have hr_6 : 0 < os_n τ 13 := Nat.lt_of_lt_of_le (hMJ.1.1.n 13 (by decide) (by decide)) (hV.2.1.1 13)
              have hMJ9 : MJ τ := (by rw [← loop_s]; exact hMJ0.ps j)
              have hM : MI τ := hMJ9.1
              refine lv_iload_n hx hb d_Model_pass_44 rfl (lv_at hl 3 rfl) ?_
              refine lv_iload_n hx hb d_Model_pass_45 rfl (lv_at hl 1 rfl) ?_
              refine lv_icmp_ge (tgt := 174) hx hb d_Model_pass_46 (by decide) (fun c_7 => ?_) (fun c_7 => ?_)
              · skip
                refine lv_iload_n hx hb d_Model_pass_174 rfl (lv_at hl 2 rfl) ?_
                refine os_iret hx hb hr hlocks hV (Nat.le_of_ble_eq_true rfl) (Nat.le_of_ble_eq_true rfl) d_Model_pass_175 ?_
                have hj := eq_of_le c_7 loop_j hq9.1 (by have := hq9.2; omega)
                exact ⟨rfl, Or.inr ⟨c_1, c_3, by rw [← hj]; exact loop_s, by rw [loop_i, hj]⟩⟩
              · skip
                refine lv_aload_n hx hb d_Model_pass_49 rfl (lv_at hl 0 rfl) ?_
                refine lv_dup hx hb d_Model_pass_50 rfl ?_
                refine os_get (C := "RobotFaultsModel") (T := F_Model) (N := 38) (ci := 7) (K := 13) (j := 1) (i := 0) (v := .int (os_g τ 13 1 0)) hx hb hts i_Model hown hK hV rfl rfl (by decide) hr_6 (hts _ k_726) rfl d_Model_pass_51 ?_
                refine lv_iconst (v := 1) hx hb d_Model_pass_54 (by decide) ?_
                refine lv_iadd hx hb d_Model_pass_55 ?_
                refine os_putI (C := "RobotFaultsModel") (T := F_Model) (N := 38) (ci := 7) (K := 13) (j := 1) (i := 0) (v := (os_g τ 13 1 0) + 1) (ty := .int) hx hb hts i_Model t_Model t_Model_ok n_Model hown hK hV rfl rfl (by decide) hr_6 (hts _ k_726) rfl rfl rfl (by decide +kernel) rfl rfl d_Model_pass_56 (fun H locs hV => ?_)
                refine lv_aload_n hx hb d_Model_pass_59 rfl (lv_at hl 0 rfl) ?_
                refine os_call (c_Model_comePlanted l hlt D cA bs (os_sg τ 13 1 0 ((os_g τ 13 1 0) + 1)) ad (MJ.time hMJ9)) hE hV k_958 k_4 (os_inV (C := "RobotFaultsModel") (n := 0) (bytes := prog_9_method_31_code) (maxL := 3) (ret := none) hx hb hown (hts _ k_955) (hts _ k_957) (hts _ k_s31) (hts _ k_958) (by decide +kernel) rfl (os_recv hK hV rfl rfl hr_6) rfl d_Model_pass_60) (hl.1.trans hml.symm) (Nat.le_of_ble_eq_true rfl) (Nat.le_of_ble_eq_true rfl) (Nat.le_of_ble_eq_true rfl) (Nat.le_of_ble_eq_true rfl) (Nat.le_of_ble_eq_true rfl) (fun v σ1 ad1 H locs hp hext hV => ?_) (fun E q ce σ1 ad1 H locs hp hext hV hce hcv hcl => ?_)
                · obtain ⟨zs_8, rfl, hp⟩ := hp
                  cases hp
                  obtain ⟨σ_9, rfl⟩ : ∃ z, z = σ1 := ⟨_, rfl⟩
                  have he_10 := hext
                  have hr_11 : 0 < os_n σ_9 13 := Nat.lt_of_lt_of_le hr_6 (he_10.1 13)
                  have hMJ8 : MJ σ_9 := (by rw [← zs_8]; exact hMJ9.st)
                  have hM8 : MI σ_9 := hMJ8.1
                  refine W.eq (g2 := F0 m 63 ls []) rfl ?_
                  refine lv_iconst (v := 0) hx hb d_Model_pass_63 (by decide) ?_
                  refine lv_istore (lv' := [(4, .int 0), (0, .ref (ad 13 0)), (1, .int x), (2, .int a), (3, .int (nI j))]) hx hb d_Model_pass_64 hl (by decide) rfl (fun ls hl => ?_)
                  have loop2 : ∀ (n j2 : Nat) (a2 : Int32) (τ2 : os_S)  (ls : Array Slot) (H : Heap) (locs : List Loc), j2 ≤ (iN (os_g σ_9 13 24 0)) → (iN (os_g σ_9 13 24 0)) < j2 + n → a2 = a + mrc σ_9 j2 → mra σ_9 j2 = τ2 → os_V D cA bs σ ad s τ2 ad H locs → lv_has ls 5 [(0, .ref (ad 13 0)), (1, .int x), (2, .int a2), (3, .int (nI j)), (4, .int (nI j2))] → W p l e { frames := 3, cells := 0, slots := 0, locals := 73 } s m ([.ref (ad 13 0), .int x] : List Value).toArray below meth c H locs (0) (0) (os_End D cA bs below s σ ad { frames := 3, cells := 0, slots := 0, locals := 73 } (m_pass σ ad x)) (F0 m 66 ls []) := by
                    intro n
                    induction n with
                    | zero => intro j2 a2 τ2  ls H locs h1 h2; exact absurd h2 (by omega)
                    | succ n loop2_ih =>
                      intro j2 a2 τ2  ls H locs loop2_j loop2_n loop2_i loop2_s hV hl
                      have hr_12 : 0 < os_n τ2 13 := Nat.lt_of_lt_of_le (hMJ.1.1.n 13 (by decide) (by decide)) (hV.2.1.1 13)
                      have hM : MI τ2 := (by rw [← loop2_s]; exact (hMJ8.ra j2).1)
                      have hal : os_g τ2 13 24 0 = nI (iN (os_g σ_9 13 24 0)) := (by rw [← loop2_s, mra_13]; exact hM8.2.2.2.2.1.1)
                      refine lv_iload hx hb d_Model_pass_66 (lv_at hl 4 rfl) ?_
                      refine lv_aload_n hx hb d_Model_pass_68 rfl (lv_at hl 0 rfl) ?_
                      refine os_get (C := "RobotFaultsModel") (T := F_Model) (N := 38) (ci := 7) (K := 13) (j := 24) (i := 0) (v := .int (os_g τ2 13 24 0)) hx hb hts i_Model hown hK hV rfl rfl (by decide) hr_12 (hts _ k_749) rfl d_Model_pass_69 ?_
                      refine lv_icmp_ge (tgt := 168) hx hb d_Model_pass_72 (by decide) (fun c_13 => ?_) (fun c_13 => ?_)
                      · skip
                        refine lv_iinc (v := nI (j + 1)) (lv' := [(3, .int (nI (j + 1))), (0, .ref (ad 13 0)), (1, .int x), (2, .int a2), (4, .int (nI j2))]) hx hb d_Model_pass_168 hl (k := 3) rfl (nI_1 j) (by decide) rfl (fun ls hl => ?_)
                        refine lv_goto (tgt := 44) hx hb d_Model_pass_171 (by decide) ?_
                        exact loop_ih (j + 1) a2 _  ls H locs (Nat.succ_le_of_lt (lt_of_nle c_7 loop_j hq9.1 (by have := hq9.2; omega))) (by omega) (by rw [mpc, loop_s, ← loop_i, loop2_i, (eq_of_le c_13 loop2_j hal (by have := hM8.2.2.2.2.1.2; omega))]; unfold msc; rw [show mst τ = σ_9 from zs_8]) (by rw [mps, loop_s]; unfold mse; rw [show mst τ = σ_9 from zs_8, ← (eq_of_le c_13 loop2_j hal (by have := hM8.2.2.2.2.1.2; omega)), loop2_s]) hV (lv_sub hl [1, 2, 3, 0] rfl)
                      · skip
                        refine lv_aload_n hx hb d_Model_pass_75 rfl (lv_at hl 0 rfl) ?_
                        refine os_get (C := "RobotFaultsModel") (T := F_Model) (N := 38) (ci := 7) (K := 13) (j := 30) (i := 0) (v := .ref (ad 38 0)) hx hb hts i_Model hown hK hV rfl rfl (by decide) hr_12 (hts _ k_755) (congrArg (fun z => va_rf (Option.map (ad 38) z)) (hM.1.2.1 30 (by decide) (by decide))) d_Model_pass_76 ?_
                        refine lv_iload hx hb d_Model_pass_79 (lv_at hl 4 rfl) ?_
                        refine os_ialdN (K := 38) (i := 0) (t0 := 0) (n := j2) hx hb hK hV rfl rfl rfl (hM.1.n 38 (by decide) (by decide)) rfl (by rw [show os_l τ2 38 0 = 40 from hM.1.2.2 38 (by decide) (by decide)]; have h9 := (Nat.lt_of_lt_of_le (lt_of_nle c_13 loop2_j hal (by have := hM8.2.2.2.2.1.2; omega)) hM8.2.2.2.2.1.2); omega) (by rw [show os_l τ2 38 0 = 40 from hM.1.2.2 38 (by decide) (by decide)]; decide) d_Model_pass_81 ?_
                        refine lv_iconst (v := (-1)) hx hb d_Model_pass_82 (by decide) ?_
                        refine lv_icmp_ne (tgt := 162) hx hb d_Model_pass_83 (by decide) (fun c_14 => ?_) (fun c_14 => ?_)
                        · skip
                          refine lv_iinc (v := nI (j2 + 1)) (lv' := [(4, .int (nI (j2 + 1))), (0, .ref (ad 13 0)), (1, .int x), (2, .int a2), (3, .int (nI j))]) hx hb d_Model_pass_162 hl (k := 4) rfl (nI_1 j2) (by decide) rfl (fun ls hl => ?_)
                          refine lv_goto (tgt := 66) hx hb d_Model_pass_165 (by decide) ?_
                          exact loop2_ih (j2 + 1) a2 _  ls H locs (Nat.succ_le_of_lt (lt_of_nle c_13 loop2_j hal (by have := hM8.2.2.2.2.1.2; omega))) (by omega) (by rw [mrc, loop2_s, if_neg (fun h => c_14 (mrF_iff.mp h).1), loop2_i]) (by rw [mra, loop2_s, if_neg (fun h => c_14 (mrF_iff.mp h).1)]) hV (lv_sub hl [1, 2, 3, 4, 0] rfl)
                        · skip
                          refine lv_aload_n hx hb d_Model_pass_86 rfl (lv_at hl 0 rfl) ?_
                          refine os_get (C := "RobotFaultsModel") (T := F_Model) (N := 38) (ci := 7) (K := 13) (j := 17) (i := 0) (v := .ref (ad 26 0)) hx hb hts i_Model hown hK hV rfl rfl (by decide) hr_12 (hts _ k_742) (congrArg (fun z => va_rf (Option.map (ad 26) z)) (hM.1.2.1 17 (by decide) (by decide))) d_Model_pass_87 ?_
                          refine lv_aload_n hx hb d_Model_pass_90 rfl (lv_at hl 0 rfl) ?_
                          refine os_get (C := "RobotFaultsModel") (T := F_Model) (N := 38) (ci := 7) (K := 13) (j := 32) (i := 0) (v := .ref (ad 40 0)) hx hb hts i_Model hown hK hV rfl rfl (by decide) hr_12 (hts _ k_757) (congrArg (fun z => va_rf (Option.map (ad 40) z)) (hM.1.2.1 32 (by decide) (by decide))) d_Model_pass_91 ?_
                          refine lv_iload hx hb d_Model_pass_94 (lv_at hl 4 rfl) ?_
                          refine os_ialdN (K := 40) (i := 0) (t0 := 0) (n := j2) hx hb hK hV rfl rfl rfl (hM.1.n 40 (by decide) (by decide)) rfl (by rw [show os_l τ2 40 0 = 40 from hM.1.2.2 40 (by decide) (by decide)]; have h9 := (Nat.lt_of_lt_of_le (lt_of_nle c_13 loop2_j hal (by have := hM8.2.2.2.2.1.2; omega)) hM8.2.2.2.2.1.2); omega) (by rw [show os_l τ2 40 0 = 40 from hM.1.2.2 40 (by decide) (by decide)]; decide) d_Model_pass_96 ?_
                          refine os_ialdN (K := 26) (i := 0) (t0 := 0) (n := (iN (os_g τ2 40 j2 0))) hx hb hK hV rfl rfl rfl (hM.1.n 26 (by decide) (by decide)) (hM.2.2.2.2.2.2.2.1 j2 (Nat.lt_of_lt_of_le (lt_of_nle c_13 loop2_j hal (by have := hM8.2.2.2.2.1.2; omega)) hM8.2.2.2.2.1.2)).1 (by rw [show os_l τ2 26 0 = 41 from hM.1.2.2 26 (by decide) (by decide)]; have h9 := (hM.2.2.2.2.2.2.2.1 j2 (Nat.lt_of_lt_of_le (lt_of_nle c_13 loop2_j hal (by have := hM8.2.2.2.2.1.2; omega)) hM8.2.2.2.2.1.2)).2; omega) (by rw [show os_l τ2 26 0 = 41 from hM.1.2.2 26 (by decide) (by decide)]; decide) d_Model_pass_97 ?_
                          refine lv_iconst (v := (-1)) hx hb d_Model_pass_98 (by decide) ?_
                          refine lv_icmp_ne (tgt := 162) hx hb d_Model_pass_99 (by decide) (fun c_15 => ?_) (fun c_15 => ?_)
                          · skip
                            refine lv_iinc (v := nI (j2 + 1)) (lv' := [(4, .int (nI (j2 + 1))), (0, .ref (ad 13 0)), (1, .int x), (2, .int a2), (3, .int (nI j))]) hx hb d_Model_pass_162 hl (k := 4) rfl (nI_1 j2) (by decide) rfl (fun ls hl => ?_)
                            refine lv_goto (tgt := 66) hx hb d_Model_pass_165 (by decide) ?_
                            exact loop2_ih (j2 + 1) a2 _  ls H locs (Nat.succ_le_of_lt (lt_of_nle c_13 loop2_j hal (by have := hM8.2.2.2.2.1.2; omega))) (by omega) (by rw [mrc, loop2_s, if_neg (fun h => c_15 (mrF_iff.mp h).2.1), loop2_i]) (by rw [mra, loop2_s, if_neg (fun h => c_15 (mrF_iff.mp h).2.1)]) hV (lv_sub hl [1, 2, 3, 4, 0] rfl)
                          · skip
                            refine lv_aload_n hx hb d_Model_pass_102 rfl (lv_at hl 0 rfl) ?_
                            refine os_get (C := "RobotFaultsModel") (T := F_Model) (N := 38) (ci := 7) (K := 13) (j := 28) (i := 0) (v := .ref (ad 36 0)) hx hb hts i_Model hown hK hV rfl rfl (by decide) hr_12 (hts _ k_753) (congrArg (fun z => va_rf (Option.map (ad 36) z)) (hM.1.2.1 28 (by decide) (by decide))) d_Model_pass_103 ?_
                            refine lv_iload hx hb d_Model_pass_106 (lv_at hl 4 rfl) ?_
                            refine os_ialdN (K := 36) (i := 0) (t0 := 0) (n := j2) hx hb hK hV rfl rfl rfl (hM.1.n 36 (by decide) (by decide)) rfl (by rw [show os_l τ2 36 0 = 40 from hM.1.2.2 36 (by decide) (by decide)]; have h9 := (Nat.lt_of_lt_of_le (lt_of_nle c_13 loop2_j hal (by have := hM8.2.2.2.2.1.2; omega)) hM8.2.2.2.2.1.2); omega) (by rw [show os_l τ2 36 0 = 40 from hM.1.2.2 36 (by decide) (by decide)]; decide) d_Model_pass_108 ?_
                            refine lv_iconst (v := 3) hx hb d_Model_pass_109 (by decide) ?_
                            refine lv_icmp_eq (tgt := 162) hx hb d_Model_pass_110 (by decide) (fun c_16 => ?_) (fun c_16 => ?_)
                            · skip
                              refine lv_iinc (v := nI (j2 + 1)) (lv' := [(4, .int (nI (j2 + 1))), (0, .ref (ad 13 0)), (1, .int x), (2, .int a2), (3, .int (nI j))]) hx hb d_Model_pass_162 hl (k := 4) rfl (nI_1 j2) (by decide) rfl (fun ls hl => ?_)
                              refine lv_goto (tgt := 66) hx hb d_Model_pass_165 (by decide) ?_
                              exact loop2_ih (j2 + 1) a2 _  ls H locs (Nat.succ_le_of_lt (lt_of_nle c_13 loop2_j hal (by have := hM8.2.2.2.2.1.2; omega))) (by omega) (by rw [mrc, loop2_s, if_neg (fun h => (mrF_iff.mp h).2.2.1 c_16), loop2_i]) (by rw [mra, loop2_s, if_neg (fun h => (mrF_iff.mp h).2.2.1 c_16)]) hV (lv_sub hl [1, 2, 3, 4, 0] rfl)
                            · skip
                              refine lv_aload_n hx hb d_Model_pass_113 rfl (lv_at hl 0 rfl) ?_
                              refine os_get (C := "RobotFaultsModel") (T := F_Model) (N := 38) (ci := 7) (K := 13) (j := 1) (i := 0) (v := .int (os_g τ2 13 1 0)) hx hb hts i_Model hown hK hV rfl rfl (by decide) hr_12 (hts _ k_726) rfl d_Model_pass_114 ?_
                              refine lv_aload_n hx hb d_Model_pass_117 rfl (lv_at hl 0 rfl) ?_
                              refine os_get (C := "RobotFaultsModel") (T := F_Model) (N := 38) (ci := 7) (K := 13) (j := 31) (i := 0) (v := .ref (ad 39 0)) hx hb hts i_Model hown hK hV rfl rfl (by decide) hr_12 (hts _ k_756) (congrArg (fun z => va_rf (Option.map (ad 39) z)) (hM.1.2.1 31 (by decide) (by decide))) d_Model_pass_118 ?_
                              refine lv_iload hx hb d_Model_pass_121 (lv_at hl 4 rfl) ?_
                              refine os_ialdN (K := 39) (i := 0) (t0 := 0) (n := j2) hx hb hK hV rfl rfl rfl (hM.1.n 39 (by decide) (by decide)) rfl (by rw [show os_l τ2 39 0 = 40 from hM.1.2.2 39 (by decide) (by decide)]; have h9 := (Nat.lt_of_lt_of_le (lt_of_nle c_13 loop2_j hal (by have := hM8.2.2.2.2.1.2; omega)) hM8.2.2.2.2.1.2); omega) (by rw [show os_l τ2 39 0 = 40 from hM.1.2.2 39 (by decide) (by decide)]; decide) d_Model_pass_123 ?_
                              refine lv_icmp_eq (tgt := 162) hx hb d_Model_pass_124 (by decide) (fun c_17 => ?_) (fun c_17 => ?_)
                              · skip
                                refine lv_iinc (v := nI (j2 + 1)) (lv' := [(4, .int (nI (j2 + 1))), (0, .ref (ad 13 0)), (1, .int x), (2, .int a2), (3, .int (nI j))]) hx hb d_Model_pass_162 hl (k := 4) rfl (nI_1 j2) (by decide) rfl (fun ls hl => ?_)
                                refine lv_goto (tgt := 66) hx hb d_Model_pass_165 (by decide) ?_
                                exact loop2_ih (j2 + 1) a2 _  ls H locs (Nat.succ_le_of_lt (lt_of_nle c_13 loop2_j hal (by have := hM8.2.2.2.2.1.2; omega))) (by omega) (by rw [mrc, loop2_s, if_neg (fun h => (mrF_iff.mp h).2.2.2.1 c_17), loop2_i]) (by rw [mra, loop2_s, if_neg (fun h => (mrF_iff.mp h).2.2.2.1 c_17)]) hV (lv_sub hl [1, 2, 3, 4, 0] rfl)
                              · skip
                                refine lv_aload_n hx hb d_Model_pass_127 rfl (lv_at hl 0 rfl) ?_
                                refine os_get (C := "RobotFaultsModel") (T := F_Model) (N := 38) (ci := 7) (K := 13) (j := 1) (i := 0) (v := .int (os_g τ2 13 1 0)) hx hb hts i_Model hown hK hV rfl rfl (by decide) hr_12 (hts _ k_726) rfl d_Model_pass_128 ?_
                                refine lv_aload_n hx hb d_Model_pass_131 rfl (lv_at hl 0 rfl) ?_
                                refine os_get (C := "RobotFaultsModel") (T := F_Model) (N := 38) (ci := 7) (K := 13) (j := 31) (i := 0) (v := .ref (ad 39 0)) hx hb hts i_Model hown hK hV rfl rfl (by decide) hr_12 (hts _ k_756) (congrArg (fun z => va_rf (Option.map (ad 39) z)) (hM.1.2.1 31 (by decide) (by decide))) d_Model_pass_132 ?_
                                refine lv_iload hx hb d_Model_pass_135 (lv_at hl 4 rfl) ?_
                                refine os_ialdN (K := 39) (i := 0) (t0 := 0) (n := j2) hx hb hK hV rfl rfl rfl (hM.1.n 39 (by decide) (by decide)) rfl (by rw [show os_l τ2 39 0 = 40 from hM.1.2.2 39 (by decide) (by decide)]; have h9 := (Nat.lt_of_lt_of_le (lt_of_nle c_13 loop2_j hal (by have := hM8.2.2.2.2.1.2; omega)) hM8.2.2.2.2.1.2); omega) (by rw [show os_l τ2 39 0 = 40 from hM.1.2.2 39 (by decide) (by decide)]; decide) d_Model_pass_137 ?_
                                refine lv_isub hx hb d_Model_pass_138 ?_
                                refine lv_bipush (v := 30) hx hb d_Model_pass_139 (by decide) ?_
                                refine lv_irem hx hb d_Model_pass_141 (by decide) ?_
                                refine lv_if_eq (tgt := 148) hx hb d_Model_pass_142 (by decide) (fun c_18 => ?_) (fun c_18 => ?_)
                                · skip
                                  refine lv_aload_n hx hb d_Model_pass_148 rfl (lv_at hl 0 rfl) ?_
                                  refine os_get (C := "RobotFaultsModel") (T := F_Model) (N := 38) (ci := 7) (K := 13) (j := 28) (i := 0) (v := .ref (ad 36 0)) hx hb hts i_Model hown hK hV rfl rfl (by decide) hr_12 (hts _ k_753) (congrArg (fun z => va_rf (Option.map (ad 36) z)) (hM.1.2.1 28 (by decide) (by decide))) d_Model_pass_149 ?_
                                  refine lv_iload hx hb d_Model_pass_152 (lv_at hl 4 rfl) ?_
                                  refine lv_dup2_11 hx hb d_Model_pass_154 rfl rfl ?_
                                  refine os_ialdN (K := 36) (i := 0) (t0 := 0) (n := j2) hx hb hK hV rfl rfl rfl (hM.1.n 36 (by decide) (by decide)) rfl (by rw [show os_l τ2 36 0 = 40 from hM.1.2.2 36 (by decide) (by decide)]; have h9 := (Nat.lt_of_lt_of_le (lt_of_nle c_13 loop2_j hal (by have := hM8.2.2.2.2.1.2; omega)) hM8.2.2.2.2.1.2); omega) (by rw [show os_l τ2 36 0 = 40 from hM.1.2.2 36 (by decide) (by decide)]; decide) d_Model_pass_155 ?_
                                  refine lv_iconst (v := 1) hx hb d_Model_pass_156 (by decide) ?_
                                  refine lv_iadd hx hb d_Model_pass_157 ?_
                                  refine os_iastN (K := 36) (i := 0) (t0 := 0) (n := j2) hx hb hK hV rfl rfl rfl (hM.1.n 36 (by decide) (by decide)) rfl (by rw [show os_l τ2 36 0 = 40 from hM.1.2.2 36 (by decide) (by decide)]; have h9 := (Nat.lt_of_lt_of_le (lt_of_nle c_13 loop2_j hal (by have := hM8.2.2.2.2.1.2; omega)) hM8.2.2.2.2.1.2); omega) (by rw [show os_l τ2 36 0 = 40 from hM.1.2.2 36 (by decide) (by decide)]; decide) d_Model_pass_158 (fun H locs hV => ?_)
                                  refine lv_iinc (v := a2 + 1) (lv' := [(2, .int (a2 + 1)), (0, .ref (ad 13 0)), (1, .int x), (3, .int (nI j)), (4, .int (nI j2))]) hx hb d_Model_pass_159 hl (k := 2) rfl rfl (by decide) rfl (fun ls hl => ?_)
                                  refine lv_iinc (v := nI (j2 + 1)) (lv' := [(4, .int (nI (j2 + 1))), (2, .int (a2 + 1)), (0, .ref (ad 13 0)), (1, .int x), (3, .int (nI j))]) hx hb d_Model_pass_162 hl (k := 4) rfl (nI_1 j2) (by decide) rfl (fun ls hl => ?_)
                                  refine lv_goto (tgt := 66) hx hb d_Model_pass_165 (by decide) ?_
                                  exact loop2_ih (j2 + 1) (a2 + 1) _  ls H locs (Nat.succ_le_of_lt (lt_of_nle c_13 loop2_j hal (by have := hM8.2.2.2.2.1.2; omega))) (by omega) (by rw [mrc, loop2_s, if_pos (mrF_iff.mpr ⟨c_14, c_15, c_16, c_17, c_18⟩), loop2_i, Int32.add_assoc]) (by rw [mra, loop2_s, if_pos (mrF_iff.mpr ⟨c_14, c_15, c_16, c_17, c_18⟩)]) hV (lv_sub hl [2, 3, 1, 4, 0] rfl)
                                · skip
                                  refine lv_goto (tgt := 162) hx hb d_Model_pass_145 (by decide) ?_
                                  refine lv_iinc (v := nI (j2 + 1)) (lv' := [(4, .int (nI (j2 + 1))), (0, .ref (ad 13 0)), (1, .int x), (2, .int a2), (3, .int (nI j))]) hx hb d_Model_pass_162 hl (k := 4) rfl (nI_1 j2) (by decide) rfl (fun ls hl => ?_)
                                  refine lv_goto (tgt := 66) hx hb d_Model_pass_165 (by decide) ?_
                                  exact loop2_ih (j2 + 1) a2 _  ls H locs (Nat.succ_le_of_lt (lt_of_nle c_13 loop2_j hal (by have := hM8.2.2.2.2.1.2; omega))) (by omega) (by rw [mrc, loop2_s, if_neg (fun h => c_18 (mrF_iff.mp h).2.2.2.2), loop2_i]) (by rw [mra, loop2_s, if_neg (fun h => c_18 (mrF_iff.mp h).2.2.2.2)]) hV (lv_sub hl [1, 2, 3, 4, 0] rfl)
                  exact loop2 ((iN (os_g σ_9 13 24 0)) + 1) 0 a _  ls _ _ (by omega) (by omega) (Int32.add_zero a).symm rfl hV (lv_sub hl [1, 2, 3, 4, 0] rfl)
                · exact absurd hp.2.2 (fun h => by cases h)
          exact loop ((iN x) + 1) 0 0 _  ls _ _ (by omega) (by omega) rfl rfl hV (lv_sub hl [2, 3, 1, 0] rfl)
        · exact absurd (by decide) c_5
  · exact absurd hp.2.2 (fun h => by cases h)
