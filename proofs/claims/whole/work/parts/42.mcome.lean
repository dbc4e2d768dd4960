/-! THE REFERENCE: faults that come -/
/-- the latest alarm of a robot and a kind, among the first -/
def mla (σ : os_S) (x k : Int32) : Nat → Option Nat
  | 0 => none
  | j + 1 => if os_g σ 33 j 0 = x ∧ os_g σ 34 j 0 = k then some j else mla σ x k j
/-- the alarm that a fault joins -/
def mjn (σ : os_S) (x k : Int32) : Option Nat := match mla σ x k (iN (os_g σ 13 24 0)) with
  | none => none
  | some t => if 60 < os_g σ 13 1 0 - os_g σ 39 t 0 then none else some t
def mal (σ : os_S) (x k : Int32) : Nat := match mjn σ x k with
  | none => iN (os_g σ 13 24 0)
  | some t => t
theorem i_m1 (x : Int32) : x + (-1) = x - 1 := (Int32.sub_eq_add_neg x 1).symm
theorem i_as (x : Int32) : x + 1 - 1 = x := Int32.add_sub_cancel x 1
theorem i_m0 : nI 0 - 1 < (0 : Int32) := by decide
theorem mjn_none {σ : os_S} {x k : Int32} (h : mla σ x k (iN (os_g σ 13 24 0)) = none) : mjn σ x k = none := by unfold mjn; rw [h]
theorem mjn_old {σ : os_S} {x k : Int32} {t : Nat} (h : mla σ x k (iN (os_g σ 13 24 0)) = some t) (h2 : 60 < os_g σ 13 1 0 - os_g σ 39 t 0) : mjn σ x k = none := by unfold mjn; rw [h]; exact if_pos h2
theorem mjn_some {σ : os_S} {x k : Int32} {t : Nat} (h : mla σ x k (iN (os_g σ 13 24 0)) = some t) (h2 : ¬ 60 < os_g σ 13 1 0 - os_g σ 39 t 0) : mjn σ x k = some t := by unfold mjn; rw [h]; exact if_neg h2
/-- an alarm more -/
def maN (σ : os_S) (x k : Int32) : os_S := os_sg (os_sg (os_sg (os_sg (os_sg (os_sg σ 33 (iN (os_g σ 13 24 0)) 0 x) 34 (iN (os_g σ 13 24 0)) 0 k) 35 (iN (os_g σ 13 24 0)) 0 (os_g σ 22 (iN k) 0)) 36 (iN (os_g σ 13 24 0)) 0 0) 37 (iN (os_g σ 13 24 0)) 0 0) 13 24 0 ((os_g σ 13 24 0) + 1)
def maS (σ : os_S) (x k : Int32) : os_S := match mjn σ x k with
  | none => maN σ x k
  | some _ => σ
set_option maxHeartbeats 4000000 in
set_option maxRecDepth 100000 in
theorem c_Model_alarmFor (l : Launch) (hlt : l.stackTraces = false) (D : va_G) (cA : Nat → ClassId) (bs : Nat) (σ : os_S) (ad : Nat → Nat → Nat) (x k : Int32) (hM : MI σ) (hk9 : k = nI (iN k) ∧ iN k < 8) (hn : iN (os_g σ 13 24 0) < 40) : os_Met l y_Model_alarmFor prog_9_method_17_code 4 (some .int) { frames := 0, cells := 0, slots := 0, locals := 0 } D cA bs [.ref (ad 13 0), .int x, .int k] σ ad (fun r σ' ad' => maS σ x k = σ' ∧ ad = ad' ∧ r = .inl (some (.int (nI (mal σ x k))))) := by
  refine os_ofW (by decide) ?_
  intro p e s m below meth c hx hb hr hml hown hlocks hmn hout hE hV
  have hts := hE.hts (args := ([.ref (ad 13 0), .int x, .int k] : List Value).toArray)
  have hK := hE.2.1
  have hbs := hE.2.2.1
  have hown : s.vm.findClass "RobotFaultsModel" = some m.cls := hown
  have hl := lv_entry ([.ref (ad 13 0), .int x, .int k]) (n := 4) (Nat.le_of_ble_eq_true rfl)
  rw [lg_entry_eq]
  generalize (lg_sl ([.ref (ad 13 0), .int x, .int k]) ++ List.replicate (4 - (lg_sl ([.ref (ad 13 0), .int x, .int k])).length) Slot.unset).toArray = ls at hl ⊢
  have hl : lv_has ls 4 [(0, .ref (ad 13 0)), (1, .int x), (2, .int k)] := hl
  refine lv_aload_n hx hb d_Model_alarmFor_0 rfl (lv_at hl 0 rfl) ?_
  refine os_get (C := "RobotFaultsModel") (T := F_Model) (N := 38) (ci := 7) (K := 13) (j := 24) (i := 0) (v := .int (os_g σ 13 24 0)) hx hb hts i_Model hown hK hV rfl rfl (by decide) (hM.1.n 13 (by decide) (by decide)) (hts _ k_749) rfl d_Model_alarmFor_1 ?_
  refine lv_iconst (v := 1) hx hb d_Model_alarmFor_4 (by decide) ?_
  refine lv_isub hx hb d_Model_alarmFor_5 ?_
  refine lv_istore_n (lv' := [(3, .int ((os_g σ 13 24 0) - 1)), (0, .ref (ad 13 0)), (1, .int x), (2, .int k)]) hx hb d_Model_alarmFor_6 rfl hl (by decide) rfl (fun ls hl => ?_)
  have loop : ∀ (j : Nat) (ls : Array Slot) (H : Heap) (locs : List Loc), j ≤ iN (os_g σ 13 24 0) → mla σ x k j = mla σ x k (iN (os_g σ 13 24 0)) → os_V D cA bs σ ad s σ ad H locs → lv_has ls 4 [(0, .ref (ad 13 0)), (1, .int x), (2, .int k), (3, .int (nI j - 1))] → W p l e { frames := 0, cells := 0, slots := 0, locals := 0 } s m ([.ref (ad 13 0), .int x, .int k] : List Value).toArray below meth c H locs (0) (0) (os_End D cA bs below s σ ad { frames := 0, cells := 0, slots := 0, locals := 0 } (fun r σ' ad' => maS σ x k = σ' ∧ ad = ad' ∧ r = .inl (some (.int (nI (mal σ x k)))))) (F0 m 7 ls []) := by
    intro j
    induction j with
    | zero =>
      intro ls H locs loop_j loop_i hV hl
      refine lv_iload_n hx hb d_Model_alarmFor_7 rfl (lv_at hl 3 rfl) ?_
      refine lv_if_lt (tgt := 37) hx hb d_Model_alarmFor_8 (by decide) (fun c_1 => ?_) (fun c_1 => ?_)
      · skip
        refine lv_iload_n hx hb d_Model_alarmFor_37 rfl (lv_at hl 3 rfl) ?_
        refine lv_if_lt (tgt := 59) hx hb d_Model_alarmFor_38 (by decide) (fun c_2 => ?_) (fun c_2 => ?_)
        · skip
          refine lv_aload_n hx hb d_Model_alarmFor_59 rfl (lv_at hl 0 rfl) ?_
          refine os_get (C := "RobotFaultsModel") (T := F_Model) (N := 38) (ci := 7) (K := 13) (j := 25) (i := 0) (v := .ref (ad 33 0)) hx hb hts i_Model hown hK hV rfl rfl (by decide) (hM.1.n 13 (by decide) (by decide)) (hts _ k_750) (congrArg (fun z => va_rf (Option.map (ad 33) z)) (hM.1.2.1 25 (by decide) (by decide))) d_Model_alarmFor_60 ?_
          refine lv_aload_n hx hb d_Model_alarmFor_63 rfl (lv_at hl 0 rfl) ?_
          refine os_get (C := "RobotFaultsModel") (T := F_Model) (N := 38) (ci := 7) (K := 13) (j := 24) (i := 0) (v := .int (os_g σ 13 24 0)) hx hb hts i_Model hown hK hV rfl rfl (by decide) (hM.1.n 13 (by decide) (by decide)) (hts _ k_749) rfl d_Model_alarmFor_64 ?_
          refine lv_iload_n hx hb d_Model_alarmFor_67 rfl (lv_at hl 1 rfl) ?_
          refine os_iastN (K := 33) (i := 0) (t0 := 0) (n := (iN (os_g σ 13 24 0))) hx hb hK hV rfl rfl rfl (hM.1.n 33 (by decide) (by decide)) hM.2.2.2.2.1.1 (by rw [show os_l σ 33 0 = 40 from hM.1.2.2 33 (by decide) (by decide)]; have h9 := hn; omega) (by rw [show os_l σ 33 0 = 40 from hM.1.2.2 33 (by decide) (by decide)]; decide) d_Model_alarmFor_68 (fun H locs hV => ?_)
          refine lv_aload_n hx hb d_Model_alarmFor_69 rfl (lv_at hl 0 rfl) ?_
          refine os_get (C := "RobotFaultsModel") (T := F_Model) (N := 38) (ci := 7) (K := 13) (j := 26) (i := 0) (v := .ref (ad 34 0)) hx hb hts i_Model hown hK hV rfl rfl (by decide) (hM.1.n 13 (by decide) (by decide)) (hts _ k_751) (congrArg (fun z => va_rf (Option.map (ad 34) z)) (hM.1.2.1 26 (by decide) (by decide))) d_Model_alarmFor_70 ?_
          refine lv_aload_n hx hb d_Model_alarmFor_73 rfl (lv_at hl 0 rfl) ?_
          refine os_get (C := "RobotFaultsModel") (T := F_Model) (N := 38) (ci := 7) (K := 13) (j := 24) (i := 0) (v := .int (os_g σ 13 24 0)) hx hb hts i_Model hown hK hV rfl rfl (by decide) (hM.1.n 13 (by decide) (by decide)) (hts _ k_749) rfl d_Model_alarmFor_74 ?_
          refine lv_iload_n hx hb d_Model_alarmFor_77 rfl (lv_at hl 2 rfl) ?_
          refine os_iastN (K := 34) (i := 0) (t0 := 0) (n := (iN (os_g σ 13 24 0))) hx hb hK hV rfl rfl rfl (hM.1.n 34 (by decide) (by decide)) hM.2.2.2.2.1.1 (by rw [show os_l (os_sg σ 33 (iN (os_g σ 13 24 0)) 0 x) 34 0 = 40 from hM.1.2.2 34 (by decide) (by decide)]; have h9 := hn; omega) (by rw [show os_l (os_sg σ 33 (iN (os_g σ 13 24 0)) 0 x) 34 0 = 40 from hM.1.2.2 34 (by decide) (by decide)]; decide) d_Model_alarmFor_78 (fun H locs hV => ?_)
          refine lv_aload_n hx hb d_Model_alarmFor_79 rfl (lv_at hl 0 rfl) ?_
          refine os_get (C := "RobotFaultsModel") (T := F_Model) (N := 38) (ci := 7) (K := 13) (j := 27) (i := 0) (v := .ref (ad 35 0)) hx hb hts i_Model hown hK hV rfl rfl (by decide) (hM.1.n 13 (by decide) (by decide)) (hts _ k_752) (congrArg (fun z => va_rf (Option.map (ad 35) z)) (hM.1.2.1 27 (by decide) (by decide))) d_Model_alarmFor_80 ?_
          refine lv_aload_n hx hb d_Model_alarmFor_83 rfl (lv_at hl 0 rfl) ?_
          refine os_get (C := "RobotFaultsModel") (T := F_Model) (N := 38) (ci := 7) (K := 13) (j := 24) (i := 0) (v := .int (os_g σ 13 24 0)) hx hb hts i_Model hown hK hV rfl rfl (by decide) (hM.1.n 13 (by decide) (by decide)) (hts _ k_749) rfl d_Model_alarmFor_84 ?_
          refine lv_aload_n hx hb d_Model_alarmFor_87 rfl (lv_at hl 0 rfl) ?_
          refine os_get (C := "RobotFaultsModel") (T := F_Model) (N := 38) (ci := 7) (K := 13) (j := 12) (i := 0) (v := .ref (ad 22 0)) hx hb hts i_Model hown hK hV rfl rfl (by decide) (hM.1.n 13 (by decide) (by decide)) (hts _ k_737) (congrArg (fun z => va_rf (Option.map (ad 22) z)) (hM.1.2.1 12 (by decide) (by decide))) d_Model_alarmFor_88 ?_
          refine lv_iload_n hx hb d_Model_alarmFor_91 rfl (lv_at hl 2 rfl) ?_
          refine os_ialdN (K := 22) (i := 0) (t0 := 0) (n := (iN k)) hx hb hK hV rfl rfl rfl (hM.1.n 22 (by decide) (by decide)) hk9.1 (by rw [show os_l (os_sg (os_sg σ 33 (iN (os_g σ 13 24 0)) 0 x) 34 (iN (os_g σ 13 24 0)) 0 k) 22 0 = 8 from hM.1.2.2 22 (by decide) (by decide)]; have h9 := hk9.2; omega) (by rw [show os_l (os_sg (os_sg σ 33 (iN (os_g σ 13 24 0)) 0 x) 34 (iN (os_g σ 13 24 0)) 0 k) 22 0 = 8 from hM.1.2.2 22 (by decide) (by decide)]; decide) d_Model_alarmFor_92 ?_
          refine W.eq (g2 := F0 m 93 ls [.int (os_g σ 22 (iN k) 0), .int (os_g σ 13 24 0), .ref (ad 35 0)]) (congrArg (fun z => F0 m 93 ls (.int z :: [.int (os_g σ 13 24 0), .ref (ad 35 0)])) (show os_g (os_sg (os_sg σ 33 (iN (os_g σ 13 24 0)) 0 x) 34 (iN (os_g σ 13 24 0)) 0 k) 22 (iN k) 0 = os_g σ 22 (iN k) 0 from rfl)) ?_
          refine os_iastN (K := 35) (i := 0) (t0 := 0) (n := (iN (os_g σ 13 24 0))) hx hb hK hV rfl rfl rfl (hM.1.n 35 (by decide) (by decide)) hM.2.2.2.2.1.1 (by rw [show os_l (os_sg (os_sg σ 33 (iN (os_g σ 13 24 0)) 0 x) 34 (iN (os_g σ 13 24 0)) 0 k) 35 0 = 40 from hM.1.2.2 35 (by decide) (by decide)]; have h9 := hn; omega) (by rw [show os_l (os_sg (os_sg σ 33 (iN (os_g σ 13 24 0)) 0 x) 34 (iN (os_g σ 13 24 0)) 0 k) 35 0 = 40 from hM.1.2.2 35 (by decide) (by decide)]; decide) d_Model_alarmFor_93 (fun H locs hV => ?_)
          refine lv_aload_n hx hb d_Model_alarmFor_94 rfl (lv_at hl 0 rfl) ?_
          refine os_get (C := "RobotFaultsModel") (T := F_Model) (N := 38) (ci := 7) (K := 13) (j := 28) (i := 0) (v := .ref (ad 36 0)) hx hb hts i_Model hown hK hV rfl rfl (by decide) (hM.1.n 13 (by decide) (by decide)) (hts _ k_753) (congrArg (fun z => va_rf (Option.map (ad 36) z)) (hM.1.2.1 28 (by decide) (by decide))) d_Model_alarmFor_95 ?_
          refine lv_aload_n hx hb d_Model_alarmFor_98 rfl (lv_at hl 0 rfl) ?_
          refine os_get (C := "RobotFaultsModel") (T := F_Model) (N := 38) (ci := 7) (K := 13) (j := 24) (i := 0) (v := .int (os_g σ 13 24 0)) hx hb hts i_Model hown hK hV rfl rfl (by decide) (hM.1.n 13 (by decide) (by decide)) (hts _ k_749) rfl d_Model_alarmFor_99 ?_
          refine lv_iconst (v := 0) hx hb d_Model_alarmFor_102 (by decide) ?_
          refine os_iastN (K := 36) (i := 0) (t0 := 0) (n := (iN (os_g σ 13 24 0))) hx hb hK hV rfl rfl rfl (hM.1.n 36 (by decide) (by decide)) hM.2.2.2.2.1.1 (by rw [show os_l (os_sg (os_sg (os_sg σ 33 (iN (os_g σ 13 24 0)) 0 x) 34 (iN (os_g σ 13 24 0)) 0 k) 35 (iN (os_g σ 13 24 0)) 0 (os_g σ 22 (iN k) 0)) 36 0 = 40 from hM.1.2.2 36 (by decide) (by decide)]; have h9 := hn; omega) (by rw [show os_l (os_sg (os_sg (os_sg σ 33 (iN (os_g σ 13 24 0)) 0 x) 34 (iN (os_g σ 13 24 0)) 0 k) 35 (iN (os_g σ 13 24 0)) 0 (os_g σ 22 (iN k) 0)) 36 0 = 40 from hM.1.2.2 36 (by decide) (by decide)]; decide) d_Model_alarmFor_103 (fun H locs hV => ?_)
          refine lv_aload_n hx hb d_Model_alarmFor_104 rfl (lv_at hl 0 rfl) ?_
          refine os_get (C := "RobotFaultsModel") (T := F_Model) (N := 38) (ci := 7) (K := 13) (j := 29) (i := 0) (v := .ref (ad 37 0)) hx hb hts i_Model hown hK hV rfl rfl (by decide) (hM.1.n 13 (by decide) (by decide)) (hts _ k_754) (congrArg (fun z => va_rf (Option.map (ad 37) z)) (hM.1.2.1 29 (by decide) (by decide))) d_Model_alarmFor_105 ?_
          refine lv_aload_n hx hb d_Model_alarmFor_108 rfl (lv_at hl 0 rfl) ?_
          refine os_get (C := "RobotFaultsModel") (T := F_Model) (N := 38) (ci := 7) (K := 13) (j := 24) (i := 0) (v := .int (os_g σ 13 24 0)) hx hb hts i_Model hown hK hV rfl rfl (by decide) (hM.1.n 13 (by decide) (by decide)) (hts _ k_749) rfl d_Model_alarmFor_109 ?_
          refine lv_iconst (v := 0) hx hb d_Model_alarmFor_112 (by decide) ?_
          refine os_iastN (K := 37) (i := 0) (t0 := 0) (n := (iN (os_g σ 13 24 0))) hx hb hK hV rfl rfl rfl (hM.1.n 37 (by decide) (by decide)) hM.2.2.2.2.1.1 (by rw [show os_l (os_sg (os_sg (os_sg (os_sg σ 33 (iN (os_g σ 13 24 0)) 0 x) 34 (iN (os_g σ 13 24 0)) 0 k) 35 (iN (os_g σ 13 24 0)) 0 (os_g σ 22 (iN k) 0)) 36 (iN (os_g σ 13 24 0)) 0 0) 37 0 = 40 from hM.1.2.2 37 (by decide) (by decide)]; have h9 := hn; omega) (by rw [show os_l (os_sg (os_sg (os_sg (os_sg σ 33 (iN (os_g σ 13 24 0)) 0 x) 34 (iN (os_g σ 13 24 0)) 0 k) 35 (iN (os_g σ 13 24 0)) 0 (os_g σ 22 (iN k) 0)) 36 (iN (os_g σ 13 24 0)) 0 0) 37 0 = 40 from hM.1.2.2 37 (by decide) (by decide)]; decide) d_Model_alarmFor_113 (fun H locs hV => ?_)
          refine lv_aload_n hx hb d_Model_alarmFor_114 rfl (lv_at hl 0 rfl) ?_
          refine lv_dup hx hb d_Model_alarmFor_115 rfl ?_
          refine os_get (C := "RobotFaultsModel") (T := F_Model) (N := 38) (ci := 7) (K := 13) (j := 24) (i := 0) (v := .int (os_g σ 13 24 0)) hx hb hts i_Model hown hK hV rfl rfl (by decide) (hM.1.n 13 (by decide) (by decide)) (hts _ k_749) rfl d_Model_alarmFor_116 ?_
          refine lv_iconst (v := 1) hx hb d_Model_alarmFor_119 (by decide) ?_
          refine lv_iadd hx hb d_Model_alarmFor_120 ?_
          refine os_putI (C := "RobotFaultsModel") (T := F_Model) (N := 38) (ci := 7) (K := 13) (j := 24) (i := 0) (v := (os_g σ 13 24 0) + 1) (ty := .int) hx hb hts i_Model t_Model t_Model_ok n_Model hown hK hV rfl rfl (by decide) (hM.1.n 13 (by decide) (by decide)) (hts _ k_749) rfl rfl rfl (by decide +kernel) rfl rfl d_Model_alarmFor_121 (fun H locs hV => ?_)
          refine lv_aload_n hx hb d_Model_alarmFor_124 rfl (lv_at hl 0 rfl) ?_
          refine os_get (C := "RobotFaultsModel") (T := F_Model) (N := 38) (ci := 7) (K := 13) (j := 24) (i := 0) (v := .int ((os_g σ 13 24 0) + 1)) hx hb hts i_Model hown hK hV rfl rfl (by decide) (hM.1.n 13 (by decide) (by decide)) (hts _ k_749) (os_fv_sgs (σ := os_sg (os_sg (os_sg (os_sg (os_sg σ 33 (iN (os_g σ 13 24 0)) 0 x) 34 (iN (os_g σ 13 24 0)) 0 k) 35 (iN (os_g σ 13 24 0)) 0 (os_g σ 22 (iN k) 0)) 36 (iN (os_g σ 13 24 0)) 0 0) 37 (iN (os_g σ 13 24 0)) 0 0) (ad := ad) (K := 13) (j := 24) (i := 0) (v := (os_g σ 13 24 0) + 1) rfl rfl) d_Model_alarmFor_125 ?_
          refine lv_iconst (v := 1) hx hb d_Model_alarmFor_128 (by decide) ?_
          refine lv_isub hx hb d_Model_alarmFor_129 ?_
          refine os_iret hx hb hr hlocks hV (Nat.le_of_ble_eq_true rfl) (Nat.le_of_ble_eq_true rfl) d_Model_alarmFor_130 ?_
          have e1 := mjn_none (σ := σ) (x := x) (k := k) loop_i.symm
          exact ⟨by unfold maS; rw [e1]; rfl, rfl, by unfold mal; rw [e1, i_as, ← hM.2.2.2.2.1.1]⟩
        · exact absurd i_m0 c_2
      · exact absurd i_m0 c_1
    | succ j loop_ih =>
      intro ls H locs loop_j loop_i hV hl
      rw [nI_pred] at hl
      have hj9 : j < 40 := by have := hM.2.2.2.2.1.2; omega
      refine lv_iload_n hx hb d_Model_alarmFor_7 rfl (lv_at hl 3 rfl) ?_
      refine lv_if_lt (tgt := 37) hx hb d_Model_alarmFor_8 (by decide) (fun c_3 => ?_) (fun c_3 => ?_)
      · exact absurd c_3 (nI_pos (by omega))
      · skip
        refine lv_aload_n hx hb d_Model_alarmFor_11 rfl (lv_at hl 0 rfl) ?_
        refine os_get (C := "RobotFaultsModel") (T := F_Model) (N := 38) (ci := 7) (K := 13) (j := 25) (i := 0) (v := .ref (ad 33 0)) hx hb hts i_Model hown hK hV rfl rfl (by decide) (hM.1.n 13 (by decide) (by decide)) (hts _ k_750) (congrArg (fun z => va_rf (Option.map (ad 33) z)) (hM.1.2.1 25 (by decide) (by decide))) d_Model_alarmFor_12 ?_
        refine lv_iload_n hx hb d_Model_alarmFor_15 rfl (lv_at hl 3 rfl) ?_
        refine os_ialdN (K := 33) (i := 0) (t0 := 0) (n := j) hx hb hK hV rfl rfl rfl (hM.1.n 33 (by decide) (by decide)) rfl (by rw [show os_l σ 33 0 = 40 from hM.1.2.2 33 (by decide) (by decide)]; have h9 := hj9; omega) (by rw [show os_l σ 33 0 = 40 from hM.1.2.2 33 (by decide) (by decide)]; decide) d_Model_alarmFor_16 ?_
        refine lv_iload_n hx hb d_Model_alarmFor_17 rfl (lv_at hl 1 rfl) ?_
        refine lv_icmp_ne (tgt := 31) hx hb d_Model_alarmFor_18 (by decide) (fun c_4 => ?_) (fun c_4 => ?_)
        · skip
          refine lv_iinc (v := (nI j) + (-1)) (lv' := [(3, .int ((nI j) + (-1))), (0, .ref (ad 13 0)), (1, .int x), (2, .int k)]) hx hb d_Model_alarmFor_31 hl (k := 3) rfl rfl (by decide) rfl (fun ls hl => ?_)
          refine lv_goto (tgt := 7) hx hb d_Model_alarmFor_34 (by decide) ?_
          have hl2 : lv_has ls 4 [(0, .ref (ad 13 0)), (1, .int x), (2, .int k), (3, .int (nI j + (-1)))] := lv_sub hl [1, 2, 3, 0] rfl
          rw [i_m1] at hl2
          exact loop_ih ls H locs (by omega) (by rw [← loop_i, mla, if_neg (fun h => c_4 h.1)]) hV hl2
        · skip
          refine lv_aload_n hx hb d_Model_alarmFor_21 rfl (lv_at hl 0 rfl) ?_
          refine os_get (C := "RobotFaultsModel") (T := F_Model) (N := 38) (ci := 7) (K := 13) (j := 26) (i := 0) (v := .ref (ad 34 0)) hx hb hts i_Model hown hK hV rfl rfl (by decide) (hM.1.n 13 (by decide) (by decide)) (hts _ k_751) (congrArg (fun z => va_rf (Option.map (ad 34) z)) (hM.1.2.1 26 (by decide) (by decide))) d_Model_alarmFor_22 ?_
          refine lv_iload_n hx hb d_Model_alarmFor_25 rfl (lv_at hl 3 rfl) ?_
          refine os_ialdN (K := 34) (i := 0) (t0 := 0) (n := j) hx hb hK hV rfl rfl rfl (hM.1.n 34 (by decide) (by decide)) rfl (by rw [show os_l σ 34 0 = 40 from hM.1.2.2 34 (by decide) (by decide)]; have h9 := hj9; omega) (by rw [show os_l σ 34 0 = 40 from hM.1.2.2 34 (by decide) (by decide)]; decide) d_Model_alarmFor_26 ?_
          refine lv_iload_n hx hb d_Model_alarmFor_27 rfl (lv_at hl 2 rfl) ?_
          refine lv_icmp_eq (tgt := 37) hx hb d_Model_alarmFor_28 (by decide) (fun c_5 => ?_) (fun c_5 => ?_)
          · skip
            refine lv_iload_n hx hb d_Model_alarmFor_37 rfl (lv_at hl 3 rfl) ?_
            refine lv_if_lt (tgt := 59) hx hb d_Model_alarmFor_38 (by decide) (fun c_6 => ?_) (fun c_6 => ?_)
            · exact absurd c_6 (nI_pos (by omega))
            · skip
              refine lv_aload_n hx hb d_Model_alarmFor_41 rfl (lv_at hl 0 rfl) ?_
              refine os_get (C := "RobotFaultsModel") (T := F_Model) (N := 38) (ci := 7) (K := 13) (j := 1) (i := 0) (v := .int (os_g σ 13 1 0)) hx hb hts i_Model hown hK hV rfl rfl (by decide) (hM.1.n 13 (by decide) (by decide)) (hts _ k_726) rfl d_Model_alarmFor_42 ?_
              refine lv_aload_n hx hb d_Model_alarmFor_45 rfl (lv_at hl 0 rfl) ?_
              refine os_get (C := "RobotFaultsModel") (T := F_Model) (N := 38) (ci := 7) (K := 13) (j := 31) (i := 0) (v := .ref (ad 39 0)) hx hb hts i_Model hown hK hV rfl rfl (by decide) (hM.1.n 13 (by decide) (by decide)) (hts _ k_756) (congrArg (fun z => va_rf (Option.map (ad 39) z)) (hM.1.2.1 31 (by decide) (by decide))) d_Model_alarmFor_46 ?_
              refine lv_iload_n hx hb d_Model_alarmFor_49 rfl (lv_at hl 3 rfl) ?_
              refine os_ialdN (K := 39) (i := 0) (t0 := 0) (n := j) hx hb hK hV rfl rfl rfl (hM.1.n 39 (by decide) (by decide)) rfl (by rw [show os_l σ 39 0 = 40 from hM.1.2.2 39 (by decide) (by decide)]; have h9 := hj9; omega) (by rw [show os_l σ 39 0 = 40 from hM.1.2.2 39 (by decide) (by decide)]; decide) d_Model_alarmFor_50 ?_
              refine lv_isub hx hb d_Model_alarmFor_51 ?_
              refine lv_bipush (v := 60) hx hb d_Model_alarmFor_52 (by decide) ?_
              refine lv_icmp_gt (tgt := 59) hx hb d_Model_alarmFor_54 (by decide) (fun c_7 => ?_) (fun c_7 => ?_)
              · skip
                refine lv_aload_n hx hb d_Model_alarmFor_59 rfl (lv_at hl 0 rfl) ?_
                refine os_get (C := "RobotFaultsModel") (T := F_Model) (N := 38) (ci := 7) (K := 13) (j := 25) (i := 0) (v := .ref (ad 33 0)) hx hb hts i_Model hown hK hV rfl rfl (by decide) (hM.1.n 13 (by decide) (by decide)) (hts _ k_750) (congrArg (fun z => va_rf (Option.map (ad 33) z)) (hM.1.2.1 25 (by decide) (by decide))) d_Model_alarmFor_60 ?_
                refine lv_aload_n hx hb d_Model_alarmFor_63 rfl (lv_at hl 0 rfl) ?_
                refine os_get (C := "RobotFaultsModel") (T := F_Model) (N := 38) (ci := 7) (K := 13) (j := 24) (i := 0) (v := .int (os_g σ 13 24 0)) hx hb hts i_Model hown hK hV rfl rfl (by decide) (hM.1.n 13 (by decide) (by decide)) (hts _ k_749) rfl d_Model_alarmFor_64 ?_
                refine lv_iload_n hx hb d_Model_alarmFor_67 rfl (lv_at hl 1 rfl) ?_
                refine os_iastN (K := 33) (i := 0) (t0 := 0) (n := (iN (os_g σ 13 24 0))) hx hb hK hV rfl rfl rfl (hM.1.n 33 (by decide) (by decide)) hM.2.2.2.2.1.1 (by rw [show os_l σ 33 0 = 40 from hM.1.2.2 33 (by decide) (by decide)]; have h9 := hn; omega) (by rw [show os_l σ 33 0 = 40 from hM.1.2.2 33 (by decide) (by decide)]; decide) d_Model_alarmFor_68 (fun H locs hV => ?_)
                refine lv_aload_n hx hb d_Model_alarmFor_69 rfl (lv_at hl 0 rfl) ?_
                refine os_get (C := "RobotFaultsModel") (T := F_Model) (N := 38) (ci := 7) (K := 13) (j := 26) (i := 0) (v := .ref (ad 34 0)) hx hb hts i_Model hown hK hV rfl rfl (by decide) (hM.1.n 13 (by decide) (by decide)) (hts _ k_751) (congrArg (fun z => va_rf (Option.map (ad 34) z)) (hM.1.2.1 26 (by decide) (by decide))) d_Model_alarmFor_70 ?_
                refine lv_aload_n hx hb d_Model_alarmFor_73 rfl (lv_at hl 0 rfl) ?_
                refine os_get (C := "RobotFaultsModel") (T := F_Model) (N := 38) (ci := 7) (K := 13) (j := 24) (i := 0) (v := .int (os_g σ 13 24 0)) hx hb hts i_Model hown hK hV rfl rfl (by decide) (hM.1.n 13 (by decide) (by decide)) (hts _ k_749) rfl d_Model_alarmFor_74 ?_
                refine lv_iload_n hx hb d_Model_alarmFor_77 rfl (lv_at hl 2 rfl) ?_
                refine os_iastN (K := 34) (i := 0) (t0 := 0) (n := (iN (os_g σ 13 24 0))) hx hb hK hV rfl rfl rfl (hM.1.n 34 (by decide) (by decide)) hM.2.2.2.2.1.1 (by rw [show os_l (os_sg σ 33 (iN (os_g σ 13 24 0)) 0 x) 34 0 = 40 from hM.1.2.2 34 (by decide) (by decide)]; have h9 := hn; omega) (by rw [show os_l (os_sg σ 33 (iN (os_g σ 13 24 0)) 0 x) 34 0 = 40 from hM.1.2.2 34 (by decide) (by decide)]; decide) d_Model_alarmFor_78 (fun H locs hV => ?_)
                refine lv_aload_n hx hb d_Model_alarmFor_79 rfl (lv_at hl 0 rfl) ?_
                refine os_get (C := "RobotFaultsModel") (T := F_Model) (N := 38) (ci := 7) (K := 13) (j := 27) (i := 0) (v := .ref (ad 35 0)) hx hb hts i_Model hown hK hV rfl rfl (by decide) (hM.1.n 13 (by decide) (by decide)) (hts _ k_752) (congrArg (fun z => va_rf (Option.map (ad 35) z)) (hM.1.2.1 27 (by decide) (by decide))) d_Model_alarmFor_80 ?_
                refine lv_aload_n hx hb d_Model_alarmFor_83 rfl (lv_at hl 0 rfl) ?_
                refine os_get (C := "RobotFaultsModel") (T := F_Model) (N := 38) (ci := 7) (K := 13) (j := 24) (i := 0) (v := .int (os_g σ 13 24 0)) hx hb hts i_Model hown hK hV rfl rfl (by decide) (hM.1.n 13 (by decide) (by decide)) (hts _ k_749) rfl d_Model_alarmFor_84 ?_
                refine lv_aload_n hx hb d_Model_alarmFor_87 rfl (lv_at hl 0 rfl) ?_
                refine os_get (C := "RobotFaultsModel") (T := F_Model) (N := 38) (ci := 7) (K := 13) (j := 12) (i := 0) (v := .ref (ad 22 0)) hx hb hts i_Model hown hK hV rfl rfl (by decide) (hM.1.n 13 (by decide) (by decide)) (hts _ k_737) (congrArg (fun z => va_rf (Option.map (ad 22) z)) (hM.1.2.1 12 (by decide) (by decide))) d_Model_alarmFor_88 ?_
                refine lv_iload_n hx hb d_Model_alarmFor_91 rfl (lv_at hl 2 rfl) ?_
                refine os_ialdN (K := 22) (i := 0) (t0 := 0) (n := (iN k)) hx hb hK hV rfl rfl rfl (hM.1.n 22 (by decide) (by decide)) hk9.1 (by rw [show os_l (os_sg (os_sg σ 33 (iN (os_g σ 13 24 0)) 0 x) 34 (iN (os_g σ 13 24 0)) 0 k) 22 0 = 8 from hM.1.2.2 22 (by decide) (by decide)]; have h9 := hk9.2; omega) (by rw [show os_l (os_sg (os_sg σ 33 (iN (os_g σ 13 24 0)) 0 x) 34 (iN (os_g σ 13 24 0)) 0 k) 22 0 = 8 from hM.1.2.2 22 (by decide) (by decide)]; decide) d_Model_alarmFor_92 ?_
                refine W.eq (g2 := F0 m 93 ls [.int (os_g σ 22 (iN k) 0), .int (os_g σ 13 24 0), .ref (ad 35 0)]) (congrArg (fun z => F0 m 93 ls (.int z :: [.int (os_g σ 13 24 0), .ref (ad 35 0)])) (show os_g (os_sg (os_sg σ 33 (iN (os_g σ 13 24 0)) 0 x) 34 (iN (os_g σ 13 24 0)) 0 k) 22 (iN k) 0 = os_g σ 22 (iN k) 0 from rfl)) ?_
                refine os_iastN (K := 35) (i := 0) (t0 := 0) (n := (iN (os_g σ 13 24 0))) hx hb hK hV rfl rfl rfl (hM.1.n 35 (by decide) (by decide)) hM.2.2.2.2.1.1 (by rw [show os_l (os_sg (os_sg σ 33 (iN (os_g σ 13 24 0)) 0 x) 34 (iN (os_g σ 13 24 0)) 0 k) 35 0 = 40 from hM.1.2.2 35 (by decide) (by decide)]; have h9 := hn; omega) (by rw [show os_l (os_sg (os_sg σ 33 (iN (os_g σ 13 24 0)) 0 x) 34 (iN (os_g σ 13 24 0)) 0 k) 35 0 = 40 from hM.1.2.2 35 (by decide) (by decide)]; decide) d_Model_alarmFor_93 (fun H locs hV => ?_)
                refine lv_aload_n hx hb d_Model_alarmFor_94 rfl (lv_at hl 0 rfl) ?_
                refine os_get (C := "RobotFaultsModel") (T := F_Model) (N := 38) (ci := 7) (K := 13) (j := 28) (i := 0) (v := .ref (ad 36 0)) hx hb hts i_Model hown hK hV rfl rfl (by decide) (hM.1.n 13 (by decide) (by decide)) (hts _ k_753) (congrArg (fun z => va_rf (Option.map (ad 36) z)) (hM.1.2.1 28 (by decide) (by decide))) d_Model_alarmFor_95 ?_
                refine lv_aload_n hx hb d_Model_alarmFor_98 rfl (lv_at hl 0 rfl) ?_
                refine os_get (C := "RobotFaultsModel") (T := F_Model) (N := 38) (ci := 7) (K := 13) (j := 24) (i := 0) (v := .int (os_g σ 13 24 0)) hx hb hts i_Model hown hK hV rfl rfl (by decide) (hM.1.n 13 (by decide) (by decide)) (hts _ k_749) rfl d_Model_alarmFor_99 ?_
                refine lv_iconst (v := 0) hx hb d_Model_alarmFor_102 (by decide) ?_
                refine os_iastN (K := 36) (i := 0) (t0 := 0) (n := (iN (os_g σ 13 24 0))) hx hb hK hV rfl rfl rfl (hM.1.n 36 (by decide) (by decide)) hM.2.2.2.2.1.1 (by rw [show os_l (os_sg (os_sg (os_sg σ 33 (iN (os_g σ 13 24 0)) 0 x) 34 (iN (os_g σ 13 24 0)) 0 k) 35 (iN (os_g σ 13 24 0)) 0 (os_g σ 22 (iN k) 0)) 36 0 = 40 from hM.1.2.2 36 (by decide) (by decide)]; have h9 := hn; omega) (by rw [show os_l (os_sg (os_sg (os_sg σ 33 (iN (os_g σ 13 24 0)) 0 x) 34 (iN (os_g σ 13 24 0)) 0 k) 35 (iN (os_g σ 13 24 0)) 0 (os_g σ 22 (iN k) 0)) 36 0 = 40 from hM.1.2.2 36 (by decide) (by decide)]; decide) d_Model_alarmFor_103 (fun H locs hV => ?_)
                refine lv_aload_n hx hb d_Model_alarmFor_104 rfl (lv_at hl 0 rfl) ?_
                refine os_get (C := "RobotFaultsModel") (T := F_Model) (N := 38) (ci := 7) (K := 13) (j := 29) (i := 0) (v := .ref (ad 37 0)) hx hb hts i_Model hown hK hV rfl rfl (by decide) (hM.1.n 13 (by decide) (by decide)) (hts _ k_754) (congrArg (fun z => va_rf (Option.map (ad 37) z)) (hM.1.2.1 29 (by decide) (by decide))) d_Model_alarmFor_105 ?_
                refine lv_aload_n hx hb d_Model_alarmFor_108 rfl (lv_at hl 0 rfl) ?_
                refine os_get (C := "RobotFaultsModel") (T := F_Model) (N := 38) (ci := 7) (K := 13) (j := 24) (i := 0) (v := .int (os_g σ 13 24 0)) hx hb hts i_Model hown hK hV rfl rfl (by decide) (hM.1.n 13 (by decide) (by decide)) (hts _ k_749) rfl d_Model_alarmFor_109 ?_
                refine lv_iconst (v := 0) hx hb d_Model_alarmFor_112 (by decide) ?_
                refine os_iastN (K := 37) (i := 0) (t0 := 0) (n := (iN (os_g σ 13 24 0))) hx hb hK hV rfl rfl rfl (hM.1.n 37 (by decide) (by decide)) hM.2.2.2.2.1.1 (by rw [show os_l (os_sg (os_sg (os_sg (os_sg σ 33 (iN (os_g σ 13 24 0)) 0 x) 34 (iN (os_g σ 13 24 0)) 0 k) 35 (iN (os_g σ 13 24 0)) 0 (os_g σ 22 (iN k) 0)) 36 (iN (os_g σ 13 24 0)) 0 0) 37 0 = 40 from hM.1.2.2 37 (by decide) (by decide)]; have h9 := hn; omega) (by rw [show os_l (os_sg (os_sg (os_sg (os_sg σ 33 (iN (os_g σ 13 24 0)) 0 x) 34 (iN (os_g σ 13 24 0)) 0 k) 35 (iN (os_g σ 13 24 0)) 0 (os_g σ 22 (iN k) 0)) 36 (iN (os_g σ 13 24 0)) 0 0) 37 0 = 40 from hM.1.2.2 37 (by decide) (by decide)]; decide) d_Model_alarmFor_113 (fun H locs hV => ?_)
                refine lv_aload_n hx hb d_Model_alarmFor_114 rfl (lv_at hl 0 rfl) ?_
                refine lv_dup hx hb d_Model_alarmFor_115 rfl ?_
                refine os_get (C := "RobotFaultsModel") (T := F_Model) (N := 38) (ci := 7) (K := 13) (j := 24) (i := 0) (v := .int (os_g σ 13 24 0)) hx hb hts i_Model hown hK hV rfl rfl (by decide) (hM.1.n 13 (by decide) (by decide)) (hts _ k_749) rfl d_Model_alarmFor_116 ?_
                refine lv_iconst (v := 1) hx hb d_Model_alarmFor_119 (by decide) ?_
                refine lv_iadd hx hb d_Model_alarmFor_120 ?_
                refine os_putI (C := "RobotFaultsModel") (T := F_Model) (N := 38) (ci := 7) (K := 13) (j := 24) (i := 0) (v := (os_g σ 13 24 0) + 1) (ty := .int) hx hb hts i_Model t_Model t_Model_ok n_Model hown hK hV rfl rfl (by decide) (hM.1.n 13 (by decide) (by decide)) (hts _ k_749) rfl rfl rfl (by decide +kernel) rfl rfl d_Model_alarmFor_121 (fun H locs hV => ?_)
                refine lv_aload_n hx hb d_Model_alarmFor_124 rfl (lv_at hl 0 rfl) ?_
                refine os_get (C := "RobotFaultsModel") (T := F_Model) (N := 38) (ci := 7) (K := 13) (j := 24) (i := 0) (v := .int ((os_g σ 13 24 0) + 1)) hx hb hts i_Model hown hK hV rfl rfl (by decide) (hM.1.n 13 (by decide) (by decide)) (hts _ k_749) (os_fv_sgs (σ := os_sg (os_sg (os_sg (os_sg (os_sg σ 33 (iN (os_g σ 13 24 0)) 0 x) 34 (iN (os_g σ 13 24 0)) 0 k) 35 (iN (os_g σ 13 24 0)) 0 (os_g σ 22 (iN k) 0)) 36 (iN (os_g σ 13 24 0)) 0 0) 37 (iN (os_g σ 13 24 0)) 0 0) (ad := ad) (K := 13) (j := 24) (i := 0) (v := (os_g σ 13 24 0) + 1) rfl rfl) d_Model_alarmFor_125 ?_
                refine lv_iconst (v := 1) hx hb d_Model_alarmFor_128 (by decide) ?_
                refine lv_isub hx hb d_Model_alarmFor_129 ?_
                refine os_iret hx hb hr hlocks hV (Nat.le_of_ble_eq_true rfl) (Nat.le_of_ble_eq_true rfl) d_Model_alarmFor_130 ?_
                have e1 := mjn_old (σ := σ) (x := x) (k := k) (t := j) (by rw [← loop_i, mla, if_pos ⟨c_4, c_5⟩]) c_7
                exact ⟨by unfold maS; rw [e1]; rfl, rfl, by unfold mal; rw [e1, i_as, ← hM.2.2.2.2.1.1]⟩
              · skip
                refine lv_iload_n hx hb d_Model_alarmFor_57 rfl (lv_at hl 3 rfl) ?_
                refine os_iret hx hb hr hlocks hV (Nat.le_of_ble_eq_true rfl) (Nat.le_of_ble_eq_true rfl) d_Model_alarmFor_58 ?_
                have e1 := mjn_some (σ := σ) (x := x) (k := k) (t := j) (by rw [← loop_i, mla, if_pos ⟨c_4, c_5⟩]) c_7
                exact ⟨by unfold maS; rw [e1], rfl, by unfold mal; rw [e1]⟩
          · skip
            refine lv_iinc (v := (nI j) + (-1)) (lv' := [(3, .int ((nI j) + (-1))), (0, .ref (ad 13 0)), (1, .int x), (2, .int k)]) hx hb d_Model_alarmFor_31 hl (k := 3) rfl rfl (by decide) rfl (fun ls hl => ?_)
            refine lv_goto (tgt := 7) hx hb d_Model_alarmFor_34 (by decide) ?_
            have hl2 : lv_has ls 4 [(0, .ref (ad 13 0)), (1, .int x), (2, .int k), (3, .int (nI j + (-1)))] := lv_sub hl [1, 2, 3, 0] rfl
            rw [i_m1] at hl2
            exact loop_ih ls H locs (by omega) (by rw [← loop_i, mla, if_neg (fun h => c_5 h.2)]) hV hl2
  exact loop _ ls _ _ (Nat.le_refl _) rfl hV (by rw [← hM.2.2.2.2.1.1]; exact lv_sub hl [1, 2, 3, 0] rfl)
