/-! THE REFERENCE: fault, first, count -/
theorem mba_f {σ : os_S} {x k : Int32} (h : mba σ x k ≤ 0) (hc : mdc σ 13 40) : iN (os_g σ 13 13 0) < 40 := by
  unfold mba at h
  split at h
  · exact absurd h (by decide)
  · split at h
    · exact absurd h (by decide)
    · rename_i c
      refine Nat.lt_of_le_of_ne hc.2 (fun q => c ?_)
      rw [hc.1, q]; rfl
theorem nI_nm1 {t : Nat} (h : t < 2 ^ 31) : ¬ nI t = -1 := fun e => by
  have := congrArg Int32.toInt e
  rw [nI_toInt h, show (-1 : Int32).toInt = -1 from by decide] at this
  omega
def mfb (τ : os_S) (j b : Nat) : Bool := decide (os_g τ 36 b 0 < os_g τ 36 j 0 ∨ (os_g τ 36 j 0 = os_g τ 36 b 0 ∧ os_g τ 35 j 0 < os_g τ 35 b 0))
/-- the first of the alarms, among the first -/
def mfi (τ : os_S) : Nat → Option Nat
  | 0 => none
  | j + 1 => if os_g τ 38 j 0 = -1 then (match mfi τ j with
    | none => some j
    | some b => if mfb τ j b = true then some j else some b) else mfi τ j
theorem mfi_lt {τ : os_S} {t : Nat} : ∀ {j : Nat}, mfi τ j = some t → t < j
  | 0, h => by cases h
  | j + 1, h => by
    rw [mfi] at h
    split at h
    · split at h
      · cases h; omega
      · rename_i b hb
        split at h
        · cases h; omega
        · cases h; have := mfi_lt hb; omega
    · have := mfi_lt h; omega
def mc1 (τ : os_S) (w : Int32) (f : Nat) : Int32 := if w = 3 then (if os_g τ 26 f 0 = -1 then 1 else 0) else if w = 7 then (if os_g τ 26 f 0 = -1 then os_g τ 13 1 0 else os_g τ 26 f 0) - os_g τ 25 f 0 else 0
def mcf (τ : os_S) (w : Int32) : Nat → Int32
  | 0 => 0
  | j + 1 => mcf τ w j + mc1 τ w (j + 1)
def mc2 (τ : os_S) (w : Int32) (a : Nat) : Int32 := if w = 5 ∧ os_g τ 38 a 0 = -1 then 1 else 0
def mca (τ : os_S) (w n0 : Int32) : Nat → Int32
  | 0 => n0
  | j + 1 => mca τ w n0 j + mc2 τ w j
/-- what the reference counts -/
def mct (τ : os_S) (w : Int32) : Int32 := mca τ w (mcf τ w (iN (os_g τ 13 13 0))) (iN (os_g τ 13 24 0))
def mCt (τ : os_S) (w : Int32) : Int32 := if w = 0 then os_g τ 13 2 0 else if w = 1 then os_g τ 13 4 0 else if w = 2 then os_g τ 13 13 0 else if w = 4 then os_g τ 13 24 0 else if w = 6 then os_g τ 13 1 0 else if w = 8 then os_g τ 13 33 0 else if w = 3 ∨ w = 5 ∨ w = 7 then mct τ w else -1
def m_fault (σ : os_S) (ad : Nat → Nat → Nat) (x y : Int32) : os_O → os_S → (Nat → Nat → Nat) → Prop := fun r σ' ad' => ad = ad' ∧ ((bz (inF x 0 (os_g σ 13 4 0 - 1)) = 0 ∧ os_sg σ 13 0 0 1 = σ' ∧ r = .inl (some (.int 0))) ∨ (¬ bz (inF x 0 (os_g σ 13 4 0 - 1)) = 0 ∧ bz (inF y 0 7) = 0 ∧ os_sg σ 13 0 0 2 = σ' ∧ r = .inl (some (.int 0))) ∨ (¬ bz (inF x 0 (os_g σ 13 4 0 - 1)) = 0 ∧ ¬ bz (inF y 0 7) = 0 ∧ ¬ mba (os_sg σ 13 0 0 0) x y ≤ 0 ∧ os_sg (os_sg σ 13 0 0 0) 13 0 0 (mba (os_sg σ 13 0 0 0) x y) = σ' ∧ r = .inl (some (.int 0))) ∨ (¬ bz (inF x 0 (os_g σ 13 4 0 - 1)) = 0 ∧ ¬ bz (inF y 0 7) = 0 ∧ mba (os_sg σ 13 0 0 0) x y ≤ 0 ∧ mcS (os_sg (os_sg σ 13 0 0 0) 13 0 0 (mba (os_sg σ 13 0 0 0) x y)) x y false = σ' ∧ r = .inl (some (.int (mcV (os_sg (os_sg σ 13 0 0 0) 13 0 0 (mba (os_sg σ 13 0 0 0) x y)) x y)))))
set_option maxHeartbeats 4000000 in
set_option maxRecDepth 100000 in
theorem c_Model_fault (l : Launch) (hlt : l.stackTraces = false) (D : va_G) (cA : Nat → ClassId) (bs : Nat) (σ : os_S) (ad : Nat → Nat → Nat) (x y : Int32) (hM : MI σ) (hAF : iN (os_g σ 13 24 0) ≤ iN (os_g σ 13 13 0)) : os_Met l y_Model_fault prog_9_method_20_code 3 (some .int) { frames := 2, cells := 0, slots := 0, locals := 51 } D cA bs [.ref (ad 13 0), .int x, .int y] σ ad (m_fault σ ad x y) := by
  refine os_ofW (by decide) ?_
  intro p e s m below meth c hx hb hr hml hown hlocks hmn hout hE hV
  have hts := hE.hts (args := ([.ref (ad 13 0), .int x, .int y] : List Value).toArray)
  have hK := hE.2.1
  have hbs := hE.2.2.1
  have hown : s.vm.findClass "RobotFaultsModel" = some m.cls := hown
  have hl := lv_entry ([.ref (ad 13 0), .int x, .int y]) (n := 3) (Nat.le_of_ble_eq_true rfl)
  rw [lg_entry_eq]
  generalize (lg_sl ([.ref (ad 13 0), .int x, .int y]) ++ List.replicate (3 - (lg_sl ([.ref (ad 13 0), .int x, .int y])).length) Slot.unset).toArray = ls at hl ⊢
  have hl : lv_has ls 3 [(0, .ref (ad 13 0)), (1, .int x), (2, .int y)] := hl
  refine lv_aload_n hx hb d_Model_fault_0 rfl (lv_at hl 0 rfl) ?_
  refine lv_aload_n hx hb d_Model_fault_1 rfl (lv_at hl 0 rfl) ?_
  refine lv_iload_n hx hb d_Model_fault_2 rfl (lv_at hl 1 rfl) ?_
  refine os_call (c_Model_isRobot l hlt D cA bs σ ad x hM) hE hV k_878 k_4 (os_inV (C := "RobotFaultsModel") (n := 1) (bytes := prog_9_method_5_code) (maxL := 2) (ret := (some .boolean)) hx hb hown (hts _ k_875) (hts _ k_877) (hts _ k_s22) (hts _ k_878) (by decide +kernel) rfl (os_recv hK hV rfl rfl (hM.1.n 13 (by decide) (by decide))) rfl d_Model_fault_3) (hl.1.trans hml.symm) (Nat.le_of_ble_eq_true rfl) (Nat.le_of_ble_eq_true rfl) (Nat.le_of_ble_eq_true rfl) (Nat.le_of_ble_eq_true rfl) (Nat.le_of_ble_eq_true rfl) (fun v σ1 ad1 H locs hp hext hV => ?_) (fun E q ce σ1 ad1 H locs hp hext hV hce hcv hcl => ?_)
  · obtain ⟨rfl, rfl, hp⟩ := hp
    cases hp
    refine W.eq (g2 := F0 m 6 ls [.int (bz (inF x 0 (os_g σ 13 4 0 - 1))), .ref (ad 13 0)]) rfl ?_
    refine lv_if_ne (tgt := 13) hx hb d_Model_fault_6 (by decide) (fun c_1 => ?_) (fun c_1 => ?_)
    · skip
      refine lv_iload_n hx hb d_Model_fault_13 rfl (lv_at hl 2 rfl) ?_
      refine os_call (c_Model_isKind l hlt D cA bs σ ad y) hE hV k_870 k_4 (os_inS (n := 1) (bytes := prog_9_method_8_code) (maxL := 1) (ret := (some .boolean)) hx hb hown (hts _ k_868) (hts _ k_869) (hts _ k_4) (hts _ k_870) (by decide +kernel) rfl rfl d_Model_fault_14) (hl.1.trans hml.symm) (Nat.le_of_ble_eq_true rfl) (Nat.le_of_ble_eq_true rfl) (Nat.le_of_ble_eq_true rfl) (Nat.le_of_ble_eq_true rfl) (Nat.le_of_ble_eq_true rfl) (fun v σ1 ad1 H locs hp hext hV => ?_) (fun E q ce σ1 ad1 H locs hp hext hV hce hcv hcl => ?_)
      · obtain ⟨rfl, rfl, hp⟩ := hp
        cases hp
        refine W.eq (g2 := F0 m 17 ls [.int (bz (inF y 0 7)), .ref (ad 13 0)]) rfl ?_
        refine lv_if_ne (tgt := 24) hx hb d_Model_fault_17 (by decide) (fun c_2 => ?_) (fun c_2 => ?_)
        · skip
          refine lv_iconst (v := 0) hx hb d_Model_fault_24 (by decide) ?_
          refine os_putI (C := "RobotFaultsModel") (T := F_Model) (N := 38) (ci := 7) (K := 13) (j := 0) (i := 0) (v := 0) (ty := .int) hx hb hts i_Model t_Model t_Model_ok n_Model hown hK hV rfl rfl (by decide) (hM.1.n 13 (by decide) (by decide)) (hts _ k_725) rfl rfl rfl (by decide +kernel) rfl rfl d_Model_fault_25 (fun H locs hV => ?_)
          refine lv_aload_n hx hb d_Model_fault_28 rfl (lv_at hl 0 rfl) ?_
          refine os_get (C := "RobotFaultsModel") (T := F_Model) (N := 38) (ci := 7) (K := 13) (j := 0) (i := 0) (v := .int 0) hx hb hts i_Model hown hK hV rfl rfl (by decide) (hM.1.n 13 (by decide) (by decide)) (hts _ k_725) (os_fv_sgs (σ := σ) (ad := ad) (K := 13) (j := 0) (i := 0) (v := 0) rfl rfl) d_Model_fault_29 ?_
          refine lv_if_ne (tgt := 45) hx hb d_Model_fault_32 (by decide) (fun c_3 => ?_) (fun c_3 => ?_)
          · exact absurd c_3 (by decide)
          · skip
            refine lv_aload_n hx hb d_Model_fault_35 rfl (lv_at hl 0 rfl) ?_
            refine lv_aload_n hx hb d_Model_fault_36 rfl (lv_at hl 0 rfl) ?_
            refine lv_iload_n hx hb d_Model_fault_37 rfl (lv_at hl 1 rfl) ?_
            refine lv_iload_n hx hb d_Model_fault_38 rfl (lv_at hl 2 rfl) ?_
            refine os_call (c_Model_bars l hlt D cA bs (os_sg σ 13 0 0 0) ad x y (MI.c (v := 0) hM) ⟨(inF.ix (σ := σ) (bz_1 c_1) hM.2.2.1).1, (Nat.lt_of_lt_of_le (inF.ix (σ := σ) (bz_1 c_1) hM.2.2.1).2 hM.2.2.1.2)⟩) hE hV k_890 k_4 (os_inV (C := "RobotFaultsModel") (n := 2) (bytes := prog_9_method_18_code) (maxL := 3) (ret := (some .int)) hx hb hown (hts _ k_887) (hts _ k_889) (hts _ k_s23) (hts _ k_890) (by decide +kernel) rfl (os_recv hK hV rfl rfl (hM.1.n 13 (by decide) (by decide))) rfl d_Model_fault_39) (hl.1.trans hml.symm) (Nat.le_of_ble_eq_true rfl) (Nat.le_of_ble_eq_true rfl) (Nat.le_of_ble_eq_true rfl) (Nat.le_of_ble_eq_true rfl) (Nat.le_of_ble_eq_true rfl) (fun v σ1 ad1 H locs hp hext hV => ?_) (fun E q ce σ1 ad1 H locs hp hext hV hce hcv hcl => ?_)
            · obtain ⟨rfl, rfl, hp⟩ := hp
              cases hp
              refine W.eq (g2 := F0 m 42 ls [.int (mba (os_sg σ 13 0 0 0) x y), .ref (ad 13 0)]) rfl ?_
              refine os_putI (C := "RobotFaultsModel") (T := F_Model) (N := 38) (ci := 7) (K := 13) (j := 0) (i := 0) (v := mba (os_sg σ 13 0 0 0) x y) (ty := .int) hx hb hts i_Model t_Model t_Model_ok n_Model hown hK hV rfl rfl (by decide) (hM.1.n 13 (by decide) (by decide)) (hts _ k_725) rfl rfl rfl (by decide +kernel) rfl rfl d_Model_fault_42 (fun H locs hV => ?_)
              refine lv_aload_n hx hb d_Model_fault_45 rfl (lv_at hl 0 rfl) ?_
              refine os_get (C := "RobotFaultsModel") (T := F_Model) (N := 38) (ci := 7) (K := 13) (j := 0) (i := 0) (v := .int (mba (os_sg σ 13 0 0 0) x y)) hx hb hts i_Model hown hK hV rfl rfl (by decide) (hM.1.n 13 (by decide) (by decide)) (hts _ k_725) (os_fv_sgs (σ := os_sg σ 13 0 0 0) (ad := ad) (K := 13) (j := 0) (i := 0) (v := mba (os_sg σ 13 0 0 0) x y) rfl rfl) d_Model_fault_46 ?_
              refine lv_if_le (tgt := 56) hx hb d_Model_fault_49 (by decide) (fun c_4 => ?_) (fun c_4 => ?_)
              · skip
                refine lv_aload_n hx hb d_Model_fault_56 rfl (lv_at hl 0 rfl) ?_
                refine lv_iload_n hx hb d_Model_fault_57 rfl (lv_at hl 1 rfl) ?_
                refine lv_iload_n hx hb d_Model_fault_58 rfl (lv_at hl 2 rfl) ?_
                refine lv_iconst (v := 0) hx hb d_Model_fault_59 (by decide) ?_
                refine W.eq (g2 := F0 m 60 ls [.int (bz false), .int y, .int x, .ref (ad 13 0)]) rfl ?_
                refine os_call (c_Model_come l hlt D cA bs (os_sg (os_sg σ 13 0 0 0) 13 0 0 (mba (os_sg σ 13 0 0 0) x y)) ad x y false (MI.c (v := mba (os_sg σ 13 0 0 0) x y) (MI.c (v := 0) hM)) ⟨(inF.ix (σ := σ) (bz_1 c_1) hM.2.2.1).1, (Nat.lt_of_lt_of_le (inF.ix (σ := σ) (bz_1 c_1) hM.2.2.1).2 hM.2.2.1.2)⟩ ⟨(inF.up (M := 7) (bz_1 c_2)).1, Nat.lt_succ_of_le (inF.up (M := 7) (bz_1 c_2)).2⟩ (fun _ => mba_f (σ := os_sg σ 13 0 0 0) c_4 hM.2.2.2.1) (fun _ => Nat.lt_of_le_of_lt hAF (mba_f (σ := os_sg σ 13 0 0 0) c_4 hM.2.2.2.1))) hE hV k_894 k_4 (os_inV (C := "RobotFaultsModel") (n := 3) (bytes := prog_9_method_19_code) (maxL := 6) (ret := (some .int)) hx hb hown (hts _ k_891) (hts _ k_893) (hts _ k_s24) (hts _ k_894) (by decide +kernel) rfl (os_recv hK hV rfl rfl (hM.1.n 13 (by decide) (by decide))) rfl d_Model_fault_60) (hl.1.trans hml.symm) (Nat.le_of_ble_eq_true rfl) (Nat.le_of_ble_eq_true rfl) (Nat.le_of_ble_eq_true rfl) (Nat.le_of_ble_eq_true rfl) (Nat.le_of_ble_eq_true rfl) (fun v σ1 ad1 H locs hp hext hV => ?_) (fun E q ce σ1 ad1 H locs hp hext hV hce hcv hcl => ?_)
                · obtain ⟨zs_5, rfl, hp⟩ := hp
                  cases hp
                  obtain ⟨σ_6, rfl⟩ : ∃ z, z = σ1 := ⟨_, rfl⟩
                  have he_7 := hext
                  have hr_8 : 0 < os_n σ_6 13 := Nat.lt_of_lt_of_le (hM.1.n 13 (by decide) (by decide)) (he_7.1 13)
                  refine W.eq (g2 := F0 m 63 ls [.int (mcV (os_sg (os_sg σ 13 0 0 0) 13 0 0 (mba (os_sg σ 13 0 0 0) x y)) x y)]) rfl ?_
                  refine os_iret hx hb hr hlocks hV (Nat.le_of_ble_eq_true rfl) (Nat.le_of_ble_eq_true rfl) d_Model_fault_63 ?_
                  exact ⟨rfl, Or.inr (Or.inr (Or.inr ⟨c_1, c_2, c_4, zs_5, rfl⟩))⟩
                · exact absurd hp.2.2 (fun h => by cases h)
              · skip
                refine lv_iconst (v := 0) hx hb d_Model_fault_52 (by decide) ?_
                refine lv_goto (tgt := 63) hx hb d_Model_fault_53 (by decide) ?_
                refine os_iret hx hb hr hlocks hV (Nat.le_of_ble_eq_true rfl) (Nat.le_of_ble_eq_true rfl) d_Model_fault_63 ?_
                exact ⟨rfl, Or.inr (Or.inr (Or.inl ⟨c_1, c_2, c_4, rfl, rfl⟩))⟩
            · exact absurd hp.2.2 (fun h => by cases h)
        · skip
          refine lv_iconst (v := 2) hx hb d_Model_fault_20 (by decide) ?_
          refine lv_goto (tgt := 25) hx hb d_Model_fault_21 (by decide) ?_
          refine os_putI (C := "RobotFaultsModel") (T := F_Model) (N := 38) (ci := 7) (K := 13) (j := 0) (i := 0) (v := 2) (ty := .int) hx hb hts i_Model t_Model t_Model_ok n_Model hown hK hV rfl rfl (by decide) (hM.1.n 13 (by decide) (by decide)) (hts _ k_725) rfl rfl rfl (by decide +kernel) rfl rfl d_Model_fault_25 (fun H locs hV => ?_)
          refine lv_aload_n hx hb d_Model_fault_28 rfl (lv_at hl 0 rfl) ?_
          refine os_get (C := "RobotFaultsModel") (T := F_Model) (N := 38) (ci := 7) (K := 13) (j := 0) (i := 0) (v := .int 2) hx hb hts i_Model hown hK hV rfl rfl (by decide) (hM.1.n 13 (by decide) (by decide)) (hts _ k_725) (os_fv_sgs (σ := σ) (ad := ad) (K := 13) (j := 0) (i := 0) (v := 2) rfl rfl) d_Model_fault_29 ?_
          refine lv_if_ne (tgt := 45) hx hb d_Model_fault_32 (by decide) (fun c_9 => ?_) (fun c_9 => ?_)
          · skip
            refine lv_aload_n hx hb d_Model_fault_45 rfl (lv_at hl 0 rfl) ?_
            refine os_get (C := "RobotFaultsModel") (T := F_Model) (N := 38) (ci := 7) (K := 13) (j := 0) (i := 0) (v := .int 2) hx hb hts i_Model hown hK hV rfl rfl (by decide) (hM.1.n 13 (by decide) (by decide)) (hts _ k_725) (os_fv_sgs (σ := σ) (ad := ad) (K := 13) (j := 0) (i := 0) (v := 2) rfl rfl) d_Model_fault_46 ?_
            refine lv_if_le (tgt := 56) hx hb d_Model_fault_49 (by decide) (fun c_10 => ?_) (fun c_10 => ?_)
            · exact absurd c_10 (by decide)
            · skip
              refine lv_iconst (v := 0) hx hb d_Model_fault_52 (by decide) ?_
              refine lv_goto (tgt := 63) hx hb d_Model_fault_53 (by decide) ?_
              refine os_iret hx hb hr hlocks hV (Nat.le_of_ble_eq_true rfl) (Nat.le_of_ble_eq_true rfl) d_Model_fault_63 ?_
              exact ⟨rfl, Or.inr (Or.inl ⟨c_1, c_2, rfl, rfl⟩)⟩
          · exact absurd c_9 (by decide)
      · exact absurd hp.2.2 (fun h => by cases h)
    · skip
      refine lv_iconst (v := 1) hx hb d_Model_fault_9 (by decide) ?_
      refine lv_goto (tgt := 25) hx hb d_Model_fault_10 (by decide) ?_
      refine os_putI (C := "RobotFaultsModel") (T := F_Model) (N := 38) (ci := 7) (K := 13) (j := 0) (i := 0) (v := 1) (ty := .int) hx hb hts i_Model t_Model t_Model_ok n_Model hown hK hV rfl rfl (by decide) (hM.1.n 13 (by decide) (by decide)) (hts _ k_725) rfl rfl rfl (by decide +kernel) rfl rfl d_Model_fault_25 (fun H locs hV => ?_)
      refine lv_aload_n hx hb d_Model_fault_28 rfl (lv_at hl 0 rfl) ?_
      refine os_get (C := "RobotFaultsModel") (T := F_Model) (N := 38) (ci := 7) (K := 13) (j := 0) (i := 0) (v := .int 1) hx hb hts i_Model hown hK hV rfl rfl (by decide) (hM.1.n 13 (by decide) (by decide)) (hts _ k_725) (os_fv_sgs (σ := σ) (ad := ad) (K := 13) (j := 0) (i := 0) (v := 1) rfl rfl) d_Model_fault_29 ?_
      refine lv_if_ne (tgt := 45) hx hb d_Model_fault_32 (by decide) (fun c_11 => ?_) (fun c_11 => ?_)
      · skip
        refine lv_aload_n hx hb d_Model_fault_45 rfl (lv_at hl 0 rfl) ?_
        refine os_get (C := "RobotFaultsModel") (T := F_Model) (N := 38) (ci := 7) (K := 13) (j := 0) (i := 0) (v := .int 1) hx hb hts i_Model hown hK hV rfl rfl (by decide) (hM.1.n 13 (by decide) (by decide)) (hts _ k_725) (os_fv_sgs (σ := σ) (ad := ad) (K := 13) (j := 0) (i := 0) (v := 1) rfl rfl) d_Model_fault_46 ?_
        refine lv_if_le (tgt := 56) hx hb d_Model_fault_49 (by decide) (fun c_12 => ?_) (fun c_12 => ?_)
        · exact absurd c_12 (by decide)
        · skip
          refine lv_iconst (v := 0) hx hb d_Model_fault_52 (by decide) ?_
          refine lv_goto (tgt := 63) hx hb d_Model_fault_53 (by decide) ?_
          refine os_iret hx hb hr hlocks hV (Nat.le_of_ble_eq_true rfl) (Nat.le_of_ble_eq_true rfl) d_Model_fault_63 ?_
          exact ⟨rfl, Or.inl ⟨c_1, rfl, rfl⟩⟩
      · exact absurd c_11 (by decide)
  · exact absurd hp.2.2 (fun h => by cases h)
set_option maxHeartbeats 4000000 in
set_option maxRecDepth 100000 in
theorem c_Model_first (l : Launch) (hlt : l.stackTraces = false) (D : va_G) (cA : Nat → ClassId) (bs : Nat) (σ : os_S) (ad : Nat → Nat → Nat) (hM : MI σ) : os_Met l y_Model_first prog_9_method_35_code 3 (some .int) { frames := 0, cells := 0, slots := 0, locals := 0 } D cA bs [.ref (ad 13 0)] σ ad (fun r σ' ad' => os_sg σ 13 0 0 0 = σ' ∧ ad = ad' ∧ r = .inl (some (.int (obI (mfi σ (iN (os_g σ 13 24 0))))))) := by
  refine os_ofW (by decide) ?_
  intro p e s m below meth c hx hb hr hml hown hlocks hmn hout hE hV
  have hts := hE.hts (args := ([.ref (ad 13 0)] : List Value).toArray)
  have hK := hE.2.1
  have hbs := hE.2.2.1
  have hown : s.vm.findClass "RobotFaultsModel" = some m.cls := hown
  have hl := lv_entry ([.ref (ad 13 0)]) (n := 3) (Nat.le_of_ble_eq_true rfl)
  rw [lg_entry_eq]
  generalize (lg_sl ([.ref (ad 13 0)]) ++ List.replicate (3 - (lg_sl ([.ref (ad 13 0)])).length) Slot.unset).toArray = ls at hl ⊢
  have hl : lv_has ls 3 [(0, .ref (ad 13 0))] := hl
  refine lv_aload_n hx hb d_Model_first_0 rfl (lv_at hl 0 rfl) ?_
  refine lv_iconst (v := 0) hx hb d_Model_first_1 (by decide) ?_
  refine os_putI (C := "RobotFaultsModel") (T := F_Model) (N := 38) (ci := 7) (K := 13) (j := 0) (i := 0) (v := 0) (ty := .int) hx hb hts i_Model t_Model t_Model_ok n_Model hown hK hV rfl rfl (by decide) (hM.1.n 13 (by decide) (by decide)) (hts _ k_725) rfl rfl rfl (by decide +kernel) rfl rfl d_Model_first_2 (fun H locs hV => ?_)
  refine lv_iconst (v := (-1)) hx hb d_Model_first_5 (by decide) ?_
  refine lv_istore_n (lv' := [(1, .int (-1)), (0, .ref (ad 13 0))]) hx hb d_Model_first_6 rfl hl (by decide) rfl (fun ls hl => ?_)
  refine lv_iconst (v := 0) hx hb d_Model_first_7 (by decide) ?_
  refine lv_istore_n (lv' := [(2, .int 0), (1, .int (-1)), (0, .ref (ad 13 0))]) hx hb d_Model_first_8 rfl hl (by decide) rfl (fun ls hl => ?_)
  have loop : ∀ (n j : Nat) (a : Int32) (ls : Array Slot) (H : Heap) (locs : List Loc), j ≤ (iN (os_g σ 13 24 0)) → (iN (os_g σ 13 24 0)) < j + n → a = obI (mfi σ j) → os_V D cA bs σ ad s (os_sg σ 13 0 0 0) ad H locs → lv_has ls 3 [(0, .ref (ad 13 0)), (1, .int a), (2, .int (nI j))] → W p l e { frames := 0, cells := 0, slots := 0, locals := 0 } s m ([.ref (ad 13 0)] : List Value).toArray below meth c H locs (0) (0) (os_End D cA bs below s σ ad { frames := 0, cells := 0, slots := 0, locals := 0 } (fun r σ' ad' => os_sg σ 13 0 0 0 = σ' ∧ ad = ad' ∧ r = .inl (some (.int (obI (mfi σ (iN (os_g σ 13 24 0)))))))) (F0 m 9 ls []) := by
    intro n
    induction n with
    | zero => intro j a ls H locs h1 h2; exact absurd h2 (by omega)
    | succ n loop_ih =>
      intro j a ls H locs loop_j loop_n loop_i hV hl
      refine lv_iload_n hx hb d_Model_first_9 rfl (lv_at hl 2 rfl) ?_
      refine lv_aload_n hx hb d_Model_first_10 rfl (lv_at hl 0 rfl) ?_
      refine os_get (C := "RobotFaultsModel") (T := F_Model) (N := 38) (ci := 7) (K := 13) (j := 24) (i := 0) (v := .int (os_g σ 13 24 0)) hx hb hts i_Model hown hK hV rfl rfl (by decide) (hM.1.n 13 (by decide) (by decide)) (hts _ k_749) rfl d_Model_first_11 ?_
      refine lv_icmp_ge (tgt := 88) hx hb d_Model_first_14 (by decide) (fun c_1 => ?_) (fun c_1 => ?_)
      · skip
        refine lv_iload_n hx hb d_Model_first_88 rfl (lv_at hl 1 rfl) ?_
        refine os_iret hx hb hr hlocks hV (Nat.le_of_ble_eq_true rfl) (Nat.le_of_ble_eq_true rfl) d_Model_first_89 ?_
        have hj := eq_of_le c_1 loop_j hM.2.2.2.2.1.1 (by have := hM.2.2.2.2.1.2; omega)
        exact ⟨rfl, rfl, by rw [loop_i, hj]⟩
      · skip
        refine lv_aload_n hx hb d_Model_first_17 rfl (lv_at hl 0 rfl) ?_
        refine os_get (C := "RobotFaultsModel") (T := F_Model) (N := 38) (ci := 7) (K := 13) (j := 30) (i := 0) (v := .ref (ad 38 0)) hx hb hts i_Model hown hK hV rfl rfl (by decide) (hM.1.n 13 (by decide) (by decide)) (hts _ k_755) (congrArg (fun z => va_rf (Option.map (ad 38) z)) (hM.1.2.1 30 (by decide) (by decide))) d_Model_first_18 ?_
        refine lv_iload_n hx hb d_Model_first_21 rfl (lv_at hl 2 rfl) ?_
        refine os_ialdN (K := 38) (i := 0) (t0 := 0) (n := j) hx hb hK hV rfl rfl rfl (hM.1.n 38 (by decide) (by decide)) rfl (by rw [show os_l (os_sg σ 13 0 0 0) 38 0 = 40 from hM.1.2.2 38 (by decide) (by decide)]; have h9 := (show j < 40 from by have h7 := lt_of_nle c_1 loop_j hM.2.2.2.2.1.1 (by have := hM.2.2.2.2.1.2; omega); have h8 := hM.2.2.2.2.1.2; omega); omega) (by rw [show os_l (os_sg σ 13 0 0 0) 38 0 = 40 from hM.1.2.2 38 (by decide) (by decide)]; decide) d_Model_first_22 ?_
        refine W.eq (g2 := F0 m 23 ls [.int (os_g σ 38 j 0)]) (congrArg (fun z => F0 m 23 ls (.int z :: [])) (show os_g (os_sg σ 13 0 0 0) 38 j 0 = os_g σ 38 j 0 from rfl)) ?_
        refine lv_iconst (v := (-1)) hx hb d_Model_first_23 (by decide) ?_
        refine lv_icmp_eq (tgt := 30) hx hb d_Model_first_24 (by decide) (fun c_2 => ?_) (fun c_2 => ?_)
        · skip
          cases qf : mfi σ j with
          | none =>
            have ea : a = -1 := by rw [loop_i, qf]; rfl
            subst ea
            refine lv_iload_n hx hb d_Model_first_30 rfl (lv_at hl 1 rfl) ?_
            refine lv_iconst (v := (-1)) hx hb d_Model_first_31 (by decide) ?_
            refine lv_icmp_eq (tgt := 80) hx hb d_Model_first_32 (by decide) (fun c_3 => ?_) (fun c_3 => ?_)
            · skip
              refine lv_iload_n hx hb d_Model_first_80 rfl (lv_at hl 2 rfl) ?_
              refine lv_istore_n (lv' := [(1, .int (nI j)), (0, .ref (ad 13 0)), (2, .int (nI j))]) hx hb d_Model_first_81 rfl hl (by decide) rfl (fun ls hl => ?_)
              refine lv_iinc (v := nI (j + 1)) (lv' := [(2, .int (nI (j + 1))), (1, .int (nI j)), (0, .ref (ad 13 0))]) hx hb d_Model_first_82 hl (k := 2) rfl (nI_1 j) (by decide) rfl (fun ls hl => ?_)
              refine lv_goto (tgt := 9) hx hb d_Model_first_85 (by decide) ?_
              exact loop_ih (j + 1) (nI j) ls H locs (Nat.succ_le_of_lt (lt_of_nle c_1 loop_j hM.2.2.2.2.1.1 (by have := hM.2.2.2.2.1.2; omega))) (by omega) (by rw [mfi, if_pos c_2, qf]; rfl) hV (lv_sub hl [2, 1, 0] rfl)
            · exact absurd rfl c_3
          | some t9 =>
            have ea : a = nI t9 := by rw [loop_i, qf]; rfl
            subst ea
            have ht9 := mfi_lt qf
            refine lv_iload_n hx hb d_Model_first_30 rfl (lv_at hl 1 rfl) ?_
            refine lv_iconst (v := (-1)) hx hb d_Model_first_31 (by decide) ?_
            refine lv_icmp_eq (tgt := 80) hx hb d_Model_first_32 (by decide) (fun c_4 => ?_) (fun c_4 => ?_)
            · exact absurd c_4 (nI_nm1 (by have := hM.2.2.2.2.1.2; omega))
            · skip
              refine lv_aload_n hx hb d_Model_first_35 rfl (lv_at hl 0 rfl) ?_
              refine os_get (C := "RobotFaultsModel") (T := F_Model) (N := 38) (ci := 7) (K := 13) (j := 28) (i := 0) (v := .ref (ad 36 0)) hx hb hts i_Model hown hK hV rfl rfl (by decide) (hM.1.n 13 (by decide) (by decide)) (hts _ k_753) (congrArg (fun z => va_rf (Option.map (ad 36) z)) (hM.1.2.1 28 (by decide) (by decide))) d_Model_first_36 ?_
              refine lv_iload_n hx hb d_Model_first_39 rfl (lv_at hl 2 rfl) ?_
              refine os_ialdN (K := 36) (i := 0) (t0 := 0) (n := j) hx hb hK hV rfl rfl rfl (hM.1.n 36 (by decide) (by decide)) rfl (by rw [show os_l (os_sg σ 13 0 0 0) 36 0 = 40 from hM.1.2.2 36 (by decide) (by decide)]; have h9 := (show j < 40 from by have h7 := lt_of_nle c_1 loop_j hM.2.2.2.2.1.1 (by have := hM.2.2.2.2.1.2; omega); have h8 := hM.2.2.2.2.1.2; omega); omega) (by rw [show os_l (os_sg σ 13 0 0 0) 36 0 = 40 from hM.1.2.2 36 (by decide) (by decide)]; decide) d_Model_first_40 ?_
              refine W.eq (g2 := F0 m 41 ls [.int (os_g σ 36 j 0)]) (congrArg (fun z => F0 m 41 ls (.int z :: [])) (show os_g (os_sg σ 13 0 0 0) 36 j 0 = os_g σ 36 j 0 from rfl)) ?_
              refine lv_aload_n hx hb d_Model_first_41 rfl (lv_at hl 0 rfl) ?_
              refine os_get (C := "RobotFaultsModel") (T := F_Model) (N := 38) (ci := 7) (K := 13) (j := 28) (i := 0) (v := .ref (ad 36 0)) hx hb hts i_Model hown hK hV rfl rfl (by decide) (hM.1.n 13 (by decide) (by decide)) (hts _ k_753) (congrArg (fun z => va_rf (Option.map (ad 36) z)) (hM.1.2.1 28 (by decide) (by decide))) d_Model_first_42 ?_
              refine lv_iload_n hx hb d_Model_first_45 rfl (lv_at hl 1 rfl) ?_
              refine os_ialdN (K := 36) (i := 0) (t0 := 0) (n := t9) hx hb hK hV rfl rfl rfl (hM.1.n 36 (by decide) (by decide)) rfl (by rw [show os_l (os_sg σ 13 0 0 0) 36 0 = 40 from hM.1.2.2 36 (by decide) (by decide)]; have h9 := (show t9 < 40 from by have h8 := hM.2.2.2.2.1.2; omega); omega) (by rw [show os_l (os_sg σ 13 0 0 0) 36 0 = 40 from hM.1.2.2 36 (by decide) (by decide)]; decide) d_Model_first_46 ?_
              refine W.eq (g2 := F0 m 47 ls [.int (os_g σ 36 t9 0), .int (os_g σ 36 j 0)]) (congrArg (fun z => F0 m 47 ls (.int z :: [.int (os_g σ 36 j 0)])) (show os_g (os_sg σ 13 0 0 0) 36 t9 0 = os_g σ 36 t9 0 from rfl)) ?_
              refine lv_icmp_gt (tgt := 80) hx hb d_Model_first_47 (by decide) (fun c_5 => ?_) (fun c_5 => ?_)
              · skip
                refine lv_iload_n hx hb d_Model_first_80 rfl (lv_at hl 2 rfl) ?_
                refine lv_istore_n (lv' := [(1, .int (nI j)), (0, .ref (ad 13 0)), (2, .int (nI j))]) hx hb d_Model_first_81 rfl hl (by decide) rfl (fun ls hl => ?_)
                refine lv_iinc (v := nI (j + 1)) (lv' := [(2, .int (nI (j + 1))), (1, .int (nI j)), (0, .ref (ad 13 0))]) hx hb d_Model_first_82 hl (k := 2) rfl (nI_1 j) (by decide) rfl (fun ls hl => ?_)
                refine lv_goto (tgt := 9) hx hb d_Model_first_85 (by decide) ?_
                exact loop_ih (j + 1) (nI j) ls H locs (Nat.succ_le_of_lt (lt_of_nle c_1 loop_j hM.2.2.2.2.1.1 (by have := hM.2.2.2.2.1.2; omega))) (by omega) (by rw [mfi, if_pos c_2, qf]; simp only []; rw [if_pos (show mfb σ j t9 = true from decide_eq_true (Or.inl c_5))]; rfl) hV (lv_sub hl [2, 1, 0] rfl)
              · skip
                refine lv_aload_n hx hb d_Model_first_50 rfl (lv_at hl 0 rfl) ?_
                refine os_get (C := "RobotFaultsModel") (T := F_Model) (N := 38) (ci := 7) (K := 13) (j := 28) (i := 0) (v := .ref (ad 36 0)) hx hb hts i_Model hown hK hV rfl rfl (by decide) (hM.1.n 13 (by decide) (by decide)) (hts _ k_753) (congrArg (fun z => va_rf (Option.map (ad 36) z)) (hM.1.2.1 28 (by decide) (by decide))) d_Model_first_51 ?_
                refine lv_iload_n hx hb d_Model_first_54 rfl (lv_at hl 2 rfl) ?_
                refine os_ialdN (K := 36) (i := 0) (t0 := 0) (n := j) hx hb hK hV rfl rfl rfl (hM.1.n 36 (by decide) (by decide)) rfl (by rw [show os_l (os_sg σ 13 0 0 0) 36 0 = 40 from hM.1.2.2 36 (by decide) (by decide)]; have h9 := (show j < 40 from by have h7 := lt_of_nle c_1 loop_j hM.2.2.2.2.1.1 (by have := hM.2.2.2.2.1.2; omega); have h8 := hM.2.2.2.2.1.2; omega); omega) (by rw [show os_l (os_sg σ 13 0 0 0) 36 0 = 40 from hM.1.2.2 36 (by decide) (by decide)]; decide) d_Model_first_55 ?_
                refine W.eq (g2 := F0 m 56 ls [.int (os_g σ 36 j 0)]) (congrArg (fun z => F0 m 56 ls (.int z :: [])) (show os_g (os_sg σ 13 0 0 0) 36 j 0 = os_g σ 36 j 0 from rfl)) ?_
                refine lv_aload_n hx hb d_Model_first_56 rfl (lv_at hl 0 rfl) ?_
                refine os_get (C := "RobotFaultsModel") (T := F_Model) (N := 38) (ci := 7) (K := 13) (j := 28) (i := 0) (v := .ref (ad 36 0)) hx hb hts i_Model hown hK hV rfl rfl (by decide) (hM.1.n 13 (by decide) (by decide)) (hts _ k_753) (congrArg (fun z => va_rf (Option.map (ad 36) z)) (hM.1.2.1 28 (by decide) (by decide))) d_Model_first_57 ?_
                refine lv_iload_n hx hb d_Model_first_60 rfl (lv_at hl 1 rfl) ?_
                refine os_ialdN (K := 36) (i := 0) (t0 := 0) (n := t9) hx hb hK hV rfl rfl rfl (hM.1.n 36 (by decide) (by decide)) rfl (by rw [show os_l (os_sg σ 13 0 0 0) 36 0 = 40 from hM.1.2.2 36 (by decide) (by decide)]; have h9 := (show t9 < 40 from by have h8 := hM.2.2.2.2.1.2; omega); omega) (by rw [show os_l (os_sg σ 13 0 0 0) 36 0 = 40 from hM.1.2.2 36 (by decide) (by decide)]; decide) d_Model_first_61 ?_
                refine W.eq (g2 := F0 m 62 ls [.int (os_g σ 36 t9 0), .int (os_g σ 36 j 0)]) (congrArg (fun z => F0 m 62 ls (.int z :: [.int (os_g σ 36 j 0)])) (show os_g (os_sg σ 13 0 0 0) 36 t9 0 = os_g σ 36 t9 0 from rfl)) ?_
                refine lv_icmp_ne (tgt := 82) hx hb d_Model_first_62 (by decide) (fun c_6 => ?_) (fun c_6 => ?_)
                · skip
                  refine lv_iinc (v := nI (j + 1)) (lv' := [(2, .int (nI (j + 1))), (0, .ref (ad 13 0)), (1, .int (nI t9))]) hx hb d_Model_first_82 hl (k := 2) rfl (nI_1 j) (by decide) rfl (fun ls hl => ?_)
                  refine lv_goto (tgt := 9) hx hb d_Model_first_85 (by decide) ?_
                  exact loop_ih (j + 1) (nI t9) ls H locs (Nat.succ_le_of_lt (lt_of_nle c_1 loop_j hM.2.2.2.2.1.1 (by have := hM.2.2.2.2.1.2; omega))) (by omega) (by rw [mfi, if_pos c_2, qf]; simp only []; rw [if_neg (show ¬ mfb σ j t9 = true from fun h => (of_decide_eq_true h).elim c_5 (fun h => c_6 h.1))]; rfl) hV (lv_sub hl [1, 2, 0] rfl)
                · skip
                  refine lv_aload_n hx hb d_Model_first_65 rfl (lv_at hl 0 rfl) ?_
                  refine os_get (C := "RobotFaultsModel") (T := F_Model) (N := 38) (ci := 7) (K := 13) (j := 27) (i := 0) (v := .ref (ad 35 0)) hx hb hts i_Model hown hK hV rfl rfl (by decide) (hM.1.n 13 (by decide) (by decide)) (hts _ k_752) (congrArg (fun z => va_rf (Option.map (ad 35) z)) (hM.1.2.1 27 (by decide) (by decide))) d_Model_first_66 ?_
                  refine lv_iload_n hx hb d_Model_first_69 rfl (lv_at hl 2 rfl) ?_
                  refine os_ialdN (K := 35) (i := 0) (t0 := 0) (n := j) hx hb hK hV rfl rfl rfl (hM.1.n 35 (by decide) (by decide)) rfl (by rw [show os_l (os_sg σ 13 0 0 0) 35 0 = 40 from hM.1.2.2 35 (by decide) (by decide)]; have h9 := (show j < 40 from by have h7 := lt_of_nle c_1 loop_j hM.2.2.2.2.1.1 (by have := hM.2.2.2.2.1.2; omega); have h8 := hM.2.2.2.2.1.2; omega); omega) (by rw [show os_l (os_sg σ 13 0 0 0) 35 0 = 40 from hM.1.2.2 35 (by decide) (by decide)]; decide) d_Model_first_70 ?_
                  refine W.eq (g2 := F0 m 71 ls [.int (os_g σ 35 j 0)]) (congrArg (fun z => F0 m 71 ls (.int z :: [])) (show os_g (os_sg σ 13 0 0 0) 35 j 0 = os_g σ 35 j 0 from rfl)) ?_
                  refine lv_aload_n hx hb d_Model_first_71 rfl (lv_at hl 0 rfl) ?_
                  refine os_get (C := "RobotFaultsModel") (T := F_Model) (N := 38) (ci := 7) (K := 13) (j := 27) (i := 0) (v := .ref (ad 35 0)) hx hb hts i_Model hown hK hV rfl rfl (by decide) (hM.1.n 13 (by decide) (by decide)) (hts _ k_752) (congrArg (fun z => va_rf (Option.map (ad 35) z)) (hM.1.2.1 27 (by decide) (by decide))) d_Model_first_72 ?_
                  refine lv_iload_n hx hb d_Model_first_75 rfl (lv_at hl 1 rfl) ?_
                  refine os_ialdN (K := 35) (i := 0) (t0 := 0) (n := t9) hx hb hK hV rfl rfl rfl (hM.1.n 35 (by decide) (by decide)) rfl (by rw [show os_l (os_sg σ 13 0 0 0) 35 0 = 40 from hM.1.2.2 35 (by decide) (by decide)]; have h9 := (show t9 < 40 from by have h8 := hM.2.2.2.2.1.2; omega); omega) (by rw [show os_l (os_sg σ 13 0 0 0) 35 0 = 40 from hM.1.2.2 35 (by decide) (by decide)]; decide) d_Model_first_76 ?_
                  refine W.eq (g2 := F0 m 77 ls [.int (os_g σ 35 t9 0), .int (os_g σ 35 j 0)]) (congrArg (fun z => F0 m 77 ls (.int z :: [.int (os_g σ 35 j 0)])) (show os_g (os_sg σ 13 0 0 0) 35 t9 0 = os_g σ 35 t9 0 from rfl)) ?_
                  refine lv_icmp_ge (tgt := 82) hx hb d_Model_first_77 (by decide) (fun c_7 => ?_) (fun c_7 => ?_)
                  · skip
                    refine lv_iinc (v := nI (j + 1)) (lv' := [(2, .int (nI (j + 1))), (0, .ref (ad 13 0)), (1, .int (nI t9))]) hx hb d_Model_first_82 hl (k := 2) rfl (nI_1 j) (by decide) rfl (fun ls hl => ?_)
                    refine lv_goto (tgt := 9) hx hb d_Model_first_85 (by decide) ?_
                    exact loop_ih (j + 1) (nI t9) ls H locs (Nat.succ_le_of_lt (lt_of_nle c_1 loop_j hM.2.2.2.2.1.1 (by have := hM.2.2.2.2.1.2; omega))) (by omega) (by rw [mfi, if_pos c_2, qf]; simp only []; rw [if_neg (show ¬ mfb σ j t9 = true from fun h => (of_decide_eq_true h).elim c_5 (fun h => Int32.not_le.mpr h.2 c_7))]; rfl) hV (lv_sub hl [1, 2, 0] rfl)
                  · skip
                    refine lv_iload_n hx hb d_Model_first_80 rfl (lv_at hl 2 rfl) ?_
                    refine lv_istore_n (lv' := [(1, .int (nI j)), (0, .ref (ad 13 0)), (2, .int (nI j))]) hx hb d_Model_first_81 rfl hl (by decide) rfl (fun ls hl => ?_)
                    refine lv_iinc (v := nI (j + 1)) (lv' := [(2, .int (nI (j + 1))), (1, .int (nI j)), (0, .ref (ad 13 0))]) hx hb d_Model_first_82 hl (k := 2) rfl (nI_1 j) (by decide) rfl (fun ls hl => ?_)
                    refine lv_goto (tgt := 9) hx hb d_Model_first_85 (by decide) ?_
                    exact loop_ih (j + 1) (nI j) ls H locs (Nat.succ_le_of_lt (lt_of_nle c_1 loop_j hM.2.2.2.2.1.1 (by have := hM.2.2.2.2.1.2; omega))) (by omega) (by rw [mfi, if_pos c_2, qf]; simp only []; rw [if_pos (show mfb σ j t9 = true from decide_eq_true (Or.inr ⟨c_6, Int32.not_le.mp c_7⟩))]; rfl) hV (lv_sub hl [2, 1, 0] rfl)
        · skip
          refine lv_goto (tgt := 82) hx hb d_Model_first_27 (by decide) ?_
          refine lv_iinc (v := nI (j + 1)) (lv' := [(2, .int (nI (j + 1))), (0, .ref (ad 13 0)), (1, .int a)]) hx hb d_Model_first_82 hl (k := 2) rfl (nI_1 j) (by decide) rfl (fun ls hl => ?_)
          refine lv_goto (tgt := 9) hx hb d_Model_first_85 (by decide) ?_
          exact loop_ih (j + 1) a ls H locs (Nat.succ_le_of_lt (lt_of_nle c_1 loop_j hM.2.2.2.2.1.1 (by have := hM.2.2.2.2.1.2; omega))) (by omega) (by rw [mfi, if_neg c_2, loop_i]) hV (lv_sub hl [1, 2, 0] rfl)
  exact loop ((iN (os_g σ 13 24 0)) + 1) 0 (-1) ls _ _ (by omega) (by omega) rfl hV (lv_sub hl [2, 1, 0] rfl)
set_option maxHeartbeats 4000000 in
set_option maxRecDepth 100000 in
theorem c_Model_count (l : Launch) (hlt : l.stackTraces = false) (D : va_G) (cA : Nat → ClassId) (bs : Nat) (σ : os_S) (ad : Nat → Nat → Nat) (y : Int32) (hM : MI σ) : os_Met l y_Model_count prog_9_method_38_code 4 (some .int) { frames := 0, cells := 0, slots := 0, locals := 0 } D cA bs [.ref (ad 13 0), .int y] σ ad (fun r σ' ad' => os_sg σ 13 0 0 0 = σ' ∧ ad = ad' ∧ r = .inl (some (.int (mCt σ y)))) := by
  refine os_ofW (by decide) ?_
  intro p e s m below meth c hx hb hr hml hown hlocks hmn hout hE hV
  have hts := hE.hts (args := ([.ref (ad 13 0), .int y] : List Value).toArray)
  have hK := hE.2.1
  have hbs := hE.2.2.1
  have hown : s.vm.findClass "RobotFaultsModel" = some m.cls := hown
  have hl := lv_entry ([.ref (ad 13 0), .int y]) (n := 4) (Nat.le_of_ble_eq_true rfl)
  rw [lg_entry_eq]
  generalize (lg_sl ([.ref (ad 13 0), .int y]) ++ List.replicate (4 - (lg_sl ([.ref (ad 13 0), .int y])).length) Slot.unset).toArray = ls at hl ⊢
  have hl : lv_has ls 4 [(0, .ref (ad 13 0)), (1, .int y)] := hl
  refine lv_aload_n hx hb d_Model_count_0 rfl (lv_at hl 0 rfl) ?_
  refine lv_iconst (v := 0) hx hb d_Model_count_1 (by decide) ?_
  refine os_putI (C := "RobotFaultsModel") (T := F_Model) (N := 38) (ci := 7) (K := 13) (j := 0) (i := 0) (v := 0) (ty := .int) hx hb hts i_Model t_Model t_Model_ok n_Model hown hK hV rfl rfl (by decide) (hM.1.n 13 (by decide) (by decide)) (hts _ k_725) rfl rfl rfl (by decide +kernel) rfl rfl d_Model_count_2 (fun H locs hV => ?_)
  refine lv_iload_n hx hb d_Model_count_5 rfl (lv_at hl 1 rfl) ?_
  refine lv_if_ne (tgt := 14) hx hb d_Model_count_6 (by decide) (fun c_1 => ?_) (fun c_1 => ?_)
  · skip
    refine lv_iload_n hx hb d_Model_count_14 rfl (lv_at hl 1 rfl) ?_
    refine lv_iconst (v := 1) hx hb d_Model_count_15 (by decide) ?_
    refine lv_icmp_ne (tgt := 24) hx hb d_Model_count_16 (by decide) (fun c_2 => ?_) (fun c_2 => ?_)
    · skip
      refine lv_iload_n hx hb d_Model_count_24 rfl (lv_at hl 1 rfl) ?_
      refine lv_iconst (v := 2) hx hb d_Model_count_25 (by decide) ?_
      refine lv_icmp_ne (tgt := 34) hx hb d_Model_count_26 (by decide) (fun c_3 => ?_) (fun c_3 => ?_)
      · skip
        refine lv_iload_n hx hb d_Model_count_34 rfl (lv_at hl 1 rfl) ?_
        refine lv_iconst (v := 4) hx hb d_Model_count_35 (by decide) ?_
        refine lv_icmp_ne (tgt := 44) hx hb d_Model_count_36 (by decide) (fun c_4 => ?_) (fun c_4 => ?_)
        · skip
          refine lv_iload_n hx hb d_Model_count_44 rfl (lv_at hl 1 rfl) ?_
          refine lv_bipush (v := 6) hx hb d_Model_count_45 (by decide) ?_
          refine lv_icmp_ne (tgt := 55) hx hb d_Model_count_47 (by decide) (fun c_5 => ?_) (fun c_5 => ?_)
          · skip
            refine lv_iload_n hx hb d_Model_count_55 rfl (lv_at hl 1 rfl) ?_
            refine lv_bipush (v := 8) hx hb d_Model_count_56 (by decide) ?_
            refine lv_icmp_ne (tgt := 66) hx hb d_Model_count_58 (by decide) (fun c_6 => ?_) (fun c_6 => ?_)
            · skip
              refine lv_iconst (v := 0) hx hb d_Model_count_66 (by decide) ?_
              refine lv_istore_n (lv' := [(2, .int 0), (0, .ref (ad 13 0)), (1, .int y)]) hx hb d_Model_count_67 rfl hl (by decide) rfl (fun ls hl => ?_)
              refine lv_iconst (v := 1) hx hb d_Model_count_68 (by decide) ?_
              refine lv_istore_n (lv' := [(3, .int 1), (2, .int 0), (0, .ref (ad 13 0)), (1, .int y)]) hx hb d_Model_count_69 rfl hl (by decide) rfl (fun ls hl => ?_)
              have loop : ∀ (n j : Nat) (a : Int32) (ls : Array Slot) (H : Heap) (locs : List Loc), j ≤ (iN (os_g σ 13 13 0) + 1) → (iN (os_g σ 13 13 0) + 1) < j + n → (1 ≤ j ∧ a = mcf σ y (j - 1)) → os_V D cA bs σ ad s (os_sg σ 13 0 0 0) ad H locs → lv_has ls 4 [(0, .ref (ad 13 0)), (1, .int y), (2, .int a), (3, .int (nI j))] → W p l e { frames := 0, cells := 0, slots := 0, locals := 0 } s m ([.ref (ad 13 0), .int y] : List Value).toArray below meth c H locs (0) (0) (os_End D cA bs below s σ ad { frames := 0, cells := 0, slots := 0, locals := 0 } (fun r σ' ad' => os_sg σ 13 0 0 0 = σ' ∧ ad = ad' ∧ r = .inl (some (.int (mCt σ y))))) (F0 m 70 ls []) := by
                intro n
                induction n with
                | zero => intro j a ls H locs h1 h2; exact absurd h2 (by omega)
                | succ n loop_ih =>
                  intro j a ls H locs loop_j loop_n loop_i hV hl
                  refine lv_iload_n hx hb d_Model_count_70 rfl (lv_at hl 3 rfl) ?_
                  refine lv_aload_n hx hb d_Model_count_71 rfl (lv_at hl 0 rfl) ?_
                  refine os_get (C := "RobotFaultsModel") (T := F_Model) (N := 38) (ci := 7) (K := 13) (j := 13) (i := 0) (v := .int (os_g σ 13 13 0)) hx hb hts i_Model hown hK hV rfl rfl (by decide) (hM.1.n 13 (by decide) (by decide)) (hts _ k_738) rfl d_Model_count_72 ?_
                  refine lv_icmp_gt (tgt := 150) hx hb d_Model_count_75 (by decide) (fun c_7 => ?_) (fun c_7 => ?_)
                  · skip
                    refine lv_iconst (v := 0) hx hb d_Model_count_150 (by decide) ?_
                    refine lv_istore_n (lv' := [(3, .int 0), (0, .ref (ad 13 0)), (1, .int y), (2, .int a)]) hx hb d_Model_count_151 rfl hl (by decide) rfl (fun ls hl => ?_)
                    have loop2 : ∀ (n j2 : Nat) (a2 : Int32) (ls : Array Slot) (H : Heap) (locs : List Loc), j2 ≤ (iN (os_g σ 13 24 0)) → (iN (os_g σ 13 24 0)) < j2 + n → a2 = mca σ y a j2 → os_V D cA bs σ ad s (os_sg σ 13 0 0 0) ad H locs → lv_has ls 4 [(0, .ref (ad 13 0)), (1, .int y), (2, .int a2), (3, .int (nI j2))] → W p l e { frames := 0, cells := 0, slots := 0, locals := 0 } s m ([.ref (ad 13 0), .int y] : List Value).toArray below meth c H locs (0) (0) (os_End D cA bs below s σ ad { frames := 0, cells := 0, slots := 0, locals := 0 } (fun r σ' ad' => os_sg σ 13 0 0 0 = σ' ∧ ad = ad' ∧ r = .inl (some (.int (mCt σ y))))) (F0 m 152 ls []) := by
                      intro n
                      induction n with
                      | zero => intro j2 a2 ls H locs h1 h2; exact absurd h2 (by omega)
                      | succ n loop2_ih =>
                        intro j2 a2 ls H locs loop2_j loop2_n loop2_i hV hl
                        refine lv_iload_n hx hb d_Model_count_152 rfl (lv_at hl 3 rfl) ?_
                        refine lv_aload_n hx hb d_Model_count_153 rfl (lv_at hl 0 rfl) ?_
                        refine os_get (C := "RobotFaultsModel") (T := F_Model) (N := 38) (ci := 7) (K := 13) (j := 24) (i := 0) (v := .int (os_g σ 13 24 0)) hx hb hts i_Model hown hK hV rfl rfl (by decide) (hM.1.n 13 (by decide) (by decide)) (hts _ k_749) rfl d_Model_count_154 ?_
                        refine lv_icmp_ge (tgt := 189) hx hb d_Model_count_157 (by decide) (fun c_8 => ?_) (fun c_8 => ?_)
                        · skip
                          refine lv_iload_n hx hb d_Model_count_189 rfl (lv_at hl 1 rfl) ?_
                          refine lv_iconst (v := 3) hx hb d_Model_count_190 (by decide) ?_
                          refine lv_icmp_eq (tgt := 205) hx hb d_Model_count_191 (by decide) (fun c_9 => ?_) (fun c_9 => ?_)
                          · skip
                            refine lv_iload_n hx hb d_Model_count_205 rfl (lv_at hl 2 rfl) ?_
                            refine lv_goto (tgt := 210) hx hb d_Model_count_206 (by decide) ?_
                            refine os_iret hx hb hr hlocks hV (Nat.le_of_ble_eq_true rfl) (Nat.le_of_ble_eq_true rfl) d_Model_count_210 ?_
                            have hj := lt_gt c_7 loop_j (by have := hM.2.2.2.1.2; omega) hM.2.2.2.1.1
                            have hj2 := eq_of_le c_8 loop2_j hM.2.2.2.2.1.1 (by have := hM.2.2.2.2.1.2; omega)
                            exact ⟨rfl, rfl, by simp only [mCt, eq_false c_1, eq_false c_2, eq_false c_3, eq_false c_4, eq_false c_5, eq_false c_6, eq_true c_9, if_true, if_false, true_or, or_true, false_or, or_false]; rw [loop2_i, hj2, loop_i.2, hj]; rfl⟩
                          · skip
                            refine lv_iload_n hx hb d_Model_count_194 rfl (lv_at hl 1 rfl) ?_
                            refine lv_iconst (v := 5) hx hb d_Model_count_195 (by decide) ?_
                            refine lv_icmp_eq (tgt := 205) hx hb d_Model_count_196 (by decide) (fun c_10 => ?_) (fun c_10 => ?_)
                            · skip
                              refine lv_iload_n hx hb d_Model_count_205 rfl (lv_at hl 2 rfl) ?_
                              refine lv_goto (tgt := 210) hx hb d_Model_count_206 (by decide) ?_
                              refine os_iret hx hb hr hlocks hV (Nat.le_of_ble_eq_true rfl) (Nat.le_of_ble_eq_true rfl) d_Model_count_210 ?_
                              have hj := lt_gt c_7 loop_j (by have := hM.2.2.2.1.2; omega) hM.2.2.2.1.1
                              have hj2 := eq_of_le c_8 loop2_j hM.2.2.2.2.1.1 (by have := hM.2.2.2.2.1.2; omega)
                              exact ⟨rfl, rfl, by simp only [mCt, eq_false c_1, eq_false c_2, eq_false c_3, eq_false c_4, eq_false c_5, eq_false c_6, eq_false c_9, eq_true c_10, if_true, if_false, true_or, or_true, false_or, or_false]; rw [loop2_i, hj2, loop_i.2, hj]; rfl⟩
                            · skip
                              refine lv_iload_n hx hb d_Model_count_199 rfl (lv_at hl 1 rfl) ?_
                              refine lv_bipush (v := 7) hx hb d_Model_count_200 (by decide) ?_
                              refine lv_icmp_ne (tgt := 209) hx hb d_Model_count_202 (by decide) (fun c_11 => ?_) (fun c_11 => ?_)
                              · skip
                                refine lv_iconst (v := (-1)) hx hb d_Model_count_209 (by decide) ?_
                                refine os_iret hx hb hr hlocks hV (Nat.le_of_ble_eq_true rfl) (Nat.le_of_ble_eq_true rfl) d_Model_count_210 ?_
                                have hj := lt_gt c_7 loop_j (by have := hM.2.2.2.1.2; omega) hM.2.2.2.1.1
                                have hj2 := eq_of_le c_8 loop2_j hM.2.2.2.2.1.1 (by have := hM.2.2.2.2.1.2; omega)
                                exact ⟨rfl, rfl, by simp only [mCt, eq_false c_1, eq_false c_2, eq_false c_3, eq_false c_4, eq_false c_5, eq_false c_6, eq_false c_9, eq_false c_10, eq_false c_11, if_true, if_false, or_self]⟩
                              · skip
                                refine lv_iload_n hx hb d_Model_count_205 rfl (lv_at hl 2 rfl) ?_
                                refine lv_goto (tgt := 210) hx hb d_Model_count_206 (by decide) ?_
                                refine os_iret hx hb hr hlocks hV (Nat.le_of_ble_eq_true rfl) (Nat.le_of_ble_eq_true rfl) d_Model_count_210 ?_
                                have hj := lt_gt c_7 loop_j (by have := hM.2.2.2.1.2; omega) hM.2.2.2.1.1
                                have hj2 := eq_of_le c_8 loop2_j hM.2.2.2.2.1.1 (by have := hM.2.2.2.2.1.2; omega)
                                exact ⟨rfl, rfl, by simp only [mCt, eq_false c_1, eq_false c_2, eq_false c_3, eq_false c_4, eq_false c_5, eq_false c_6, eq_false c_9, eq_false c_10, eq_true c_11, if_true, if_false, true_or, or_true, false_or, or_false]; rw [loop2_i, hj2, loop_i.2, hj]; rfl⟩
                        · skip
                          refine lv_iload_n hx hb d_Model_count_160 rfl (lv_at hl 2 rfl) ?_
                          refine lv_iload_n hx hb d_Model_count_161 rfl (lv_at hl 1 rfl) ?_
                          refine lv_iconst (v := 5) hx hb d_Model_count_162 (by decide) ?_
                          refine lv_icmp_ne (tgt := 180) hx hb d_Model_count_163 (by decide) (fun c_12 => ?_) (fun c_12 => ?_)
                          · skip
                            refine lv_iconst (v := 0) hx hb d_Model_count_180 (by decide) ?_
                            refine lv_iadd hx hb d_Model_count_181 ?_
                            refine lv_istore_n (lv' := [(2, .int (a2 + 0)), (0, .ref (ad 13 0)), (1, .int y), (3, .int (nI j2))]) hx hb d_Model_count_182 rfl hl (by decide) rfl (fun ls hl => ?_)
                            refine lv_iinc (v := nI (j2 + 1)) (lv' := [(3, .int (nI (j2 + 1))), (2, .int (a2 + 0)), (0, .ref (ad 13 0)), (1, .int y)]) hx hb d_Model_count_183 hl (k := 3) rfl (nI_1 j2) (by decide) rfl (fun ls hl => ?_)
                            refine lv_goto (tgt := 152) hx hb d_Model_count_186 (by decide) ?_
                            exact loop2_ih (j2 + 1) (a2 + 0) ls H locs (Nat.succ_le_of_lt (lt_of_nle c_8 loop2_j hM.2.2.2.2.1.1 (by have := hM.2.2.2.2.1.2; omega))) (by omega) (by rw [mca, ← loop2_i]; simp only [mc2, eq_false c_12, if_true, if_false, true_and, false_and, and_false, and_true]) hV (lv_sub hl [2, 3, 1, 0] rfl)
                          · skip
                            refine lv_aload_n hx hb d_Model_count_166 rfl (lv_at hl 0 rfl) ?_
                            refine os_get (C := "RobotFaultsModel") (T := F_Model) (N := 38) (ci := 7) (K := 13) (j := 30) (i := 0) (v := .ref (ad 38 0)) hx hb hts i_Model hown hK hV rfl rfl (by decide) (hM.1.n 13 (by decide) (by decide)) (hts _ k_755) (congrArg (fun z => va_rf (Option.map (ad 38) z)) (hM.1.2.1 30 (by decide) (by decide))) d_Model_count_167 ?_
                            refine lv_iload_n hx hb d_Model_count_170 rfl (lv_at hl 3 rfl) ?_
                            refine os_ialdN (K := 38) (i := 0) (t0 := 0) (n := j2) hx hb hK hV rfl rfl rfl (hM.1.n 38 (by decide) (by decide)) rfl (by rw [show os_l (os_sg σ 13 0 0 0) 38 0 = 40 from hM.1.2.2 38 (by decide) (by decide)]; have h9 := (show j2 < 40 from by have h7 := lt_of_nle c_8 loop2_j hM.2.2.2.2.1.1 (by have := hM.2.2.2.2.1.2; omega); have h8 := hM.2.2.2.2.1.2; omega); omega) (by rw [show os_l (os_sg σ 13 0 0 0) 38 0 = 40 from hM.1.2.2 38 (by decide) (by decide)]; decide) d_Model_count_171 ?_
                            refine W.eq (g2 := F0 m 172 ls [.int (os_g σ 38 j2 0), .int a2]) (congrArg (fun z => F0 m 172 ls (.int z :: [.int a2])) (show os_g (os_sg σ 13 0 0 0) 38 j2 0 = os_g σ 38 j2 0 from rfl)) ?_
                            refine lv_iconst (v := (-1)) hx hb d_Model_count_172 (by decide) ?_
                            refine lv_icmp_ne (tgt := 180) hx hb d_Model_count_173 (by decide) (fun c_13 => ?_) (fun c_13 => ?_)
                            · skip
                              refine lv_iconst (v := 0) hx hb d_Model_count_180 (by decide) ?_
                              refine lv_iadd hx hb d_Model_count_181 ?_
                              refine lv_istore_n (lv' := [(2, .int (a2 + 0)), (0, .ref (ad 13 0)), (1, .int y), (3, .int (nI j2))]) hx hb d_Model_count_182 rfl hl (by decide) rfl (fun ls hl => ?_)
                              refine lv_iinc (v := nI (j2 + 1)) (lv' := [(3, .int (nI (j2 + 1))), (2, .int (a2 + 0)), (0, .ref (ad 13 0)), (1, .int y)]) hx hb d_Model_count_183 hl (k := 3) rfl (nI_1 j2) (by decide) rfl (fun ls hl => ?_)
                              refine lv_goto (tgt := 152) hx hb d_Model_count_186 (by decide) ?_
                              exact loop2_ih (j2 + 1) (a2 + 0) ls H locs (Nat.succ_le_of_lt (lt_of_nle c_8 loop2_j hM.2.2.2.2.1.1 (by have := hM.2.2.2.2.1.2; omega))) (by omega) (by rw [mca, ← loop2_i]; simp only [mc2, eq_true c_12, eq_false c_13, if_true, if_false, true_and, false_and, and_false, and_true]) hV (lv_sub hl [2, 3, 1, 0] rfl)
                            · skip
                              refine lv_iconst (v := 1) hx hb d_Model_count_176 (by decide) ?_
                              refine lv_goto (tgt := 181) hx hb d_Model_count_177 (by decide) ?_
                              refine lv_iadd hx hb d_Model_count_181 ?_
                              refine lv_istore_n (lv' := [(2, .int (a2 + 1)), (0, .ref (ad 13 0)), (1, .int y), (3, .int (nI j2))]) hx hb d_Model_count_182 rfl hl (by decide) rfl (fun ls hl => ?_)
                              refine lv_iinc (v := nI (j2 + 1)) (lv' := [(3, .int (nI (j2 + 1))), (2, .int (a2 + 1)), (0, .ref (ad 13 0)), (1, .int y)]) hx hb d_Model_count_183 hl (k := 3) rfl (nI_1 j2) (by decide) rfl (fun ls hl => ?_)
                              refine lv_goto (tgt := 152) hx hb d_Model_count_186 (by decide) ?_
                              exact loop2_ih (j2 + 1) (a2 + 1) ls H locs (Nat.succ_le_of_lt (lt_of_nle c_8 loop2_j hM.2.2.2.2.1.1 (by have := hM.2.2.2.2.1.2; omega))) (by omega) (by rw [mca, ← loop2_i]; simp only [mc2, eq_true c_12, eq_true c_13, if_true, if_false, true_and, false_and, and_false, and_true]) hV (lv_sub hl [2, 3, 1, 0] rfl)
                    exact loop2 ((iN (os_g σ 13 24 0)) + 1) 0 a ls _ _ (by omega) (by omega) rfl hV (lv_sub hl [1, 2, 3, 0] rfl)
                  · skip
                    refine lv_iload_n hx hb d_Model_count_78 rfl (lv_at hl 2 rfl) ?_
                    refine lv_iload_n hx hb d_Model_count_79 rfl (lv_at hl 1 rfl) ?_
                    refine lv_iconst (v := 3) hx hb d_Model_count_80 (by decide) ?_
                    refine lv_icmp_ne (tgt := 102) hx hb d_Model_count_81 (by decide) (fun c_14 => ?_) (fun c_14 => ?_)
                    · skip
                      refine lv_iload_n hx hb d_Model_count_102 rfl (lv_at hl 1 rfl) ?_
                      refine lv_bipush (v := 7) hx hb d_Model_count_103 (by decide) ?_
                      refine lv_icmp_ne (tgt := 141) hx hb d_Model_count_105 (by decide) (fun c_15 => ?_) (fun c_15 => ?_)
                      · skip
                        refine lv_iconst (v := 0) hx hb d_Model_count_141 (by decide) ?_
                        refine lv_iadd hx hb d_Model_count_142 ?_
                        refine lv_istore_n (lv' := [(2, .int (a + 0)), (0, .ref (ad 13 0)), (1, .int y), (3, .int (nI j))]) hx hb d_Model_count_143 rfl hl (by decide) rfl (fun ls hl => ?_)
                        refine lv_iinc (v := nI (j + 1)) (lv' := [(3, .int (nI (j + 1))), (2, .int (a + 0)), (0, .ref (ad 13 0)), (1, .int y)]) hx hb d_Model_count_144 hl (k := 3) rfl (nI_1 j) (by decide) rfl (fun ls hl => ?_)
                        refine lv_goto (tgt := 70) hx hb d_Model_count_147 (by decide) ?_
                        exact loop_ih (j + 1) (a + 0) ls H locs (Nat.succ_le_of_lt (Nat.lt_succ_of_le (nlt_le c_7 (by have := hM.2.2.2.1.2; omega) hM.2.2.2.1.1))) (by omega) ⟨by omega, by rw [show j + 1 - 1 = (j - 1) + 1 from by have := loop_i.1; omega, mcf, ← loop_i.2, show j - 1 + 1 = j from by have := loop_i.1; omega]; simp only [mc1, eq_false c_14, eq_false c_15, if_true, if_false]⟩ hV (lv_sub hl [2, 3, 1, 0] rfl)
                      · skip
                        refine lv_aload_n hx hb d_Model_count_108 rfl (lv_at hl 0 rfl) ?_
                        refine os_get (C := "RobotFaultsModel") (T := F_Model) (N := 38) (ci := 7) (K := 13) (j := 17) (i := 0) (v := .ref (ad 26 0)) hx hb hts i_Model hown hK hV rfl rfl (by decide) (hM.1.n 13 (by decide) (by decide)) (hts _ k_742) (congrArg (fun z => va_rf (Option.map (ad 26) z)) (hM.1.2.1 17 (by decide) (by decide))) d_Model_count_109 ?_
                        refine lv_iload_n hx hb d_Model_count_112 rfl (lv_at hl 3 rfl) ?_
                        refine os_ialdN (K := 26) (i := 0) (t0 := 0) (n := j) hx hb hK hV rfl rfl rfl (hM.1.n 26 (by decide) (by decide)) rfl (by rw [show os_l (os_sg σ 13 0 0 0) 26 0 = 41 from hM.1.2.2 26 (by decide) (by decide)]; have h9 := (show j < 41 from by have h7 := (nlt_le c_7 (by have := hM.2.2.2.1.2; omega) hM.2.2.2.1.1); have h8 := hM.2.2.2.1.2; omega); omega) (by rw [show os_l (os_sg σ 13 0 0 0) 26 0 = 41 from hM.1.2.2 26 (by decide) (by decide)]; decide) d_Model_count_113 ?_
                        refine W.eq (g2 := F0 m 114 ls [.int (os_g σ 26 j 0), .int a]) (congrArg (fun z => F0 m 114 ls (.int z :: [.int a])) (show os_g (os_sg σ 13 0 0 0) 26 j 0 = os_g σ 26 j 0 from rfl)) ?_
                        refine lv_iconst (v := (-1)) hx hb d_Model_count_114 (by decide) ?_
                        refine lv_icmp_ne (tgt := 125) hx hb d_Model_count_115 (by decide) (fun c_16 => ?_) (fun c_16 => ?_)
                        · skip
                          refine lv_aload_n hx hb d_Model_count_125 rfl (lv_at hl 0 rfl) ?_
                          refine os_get (C := "RobotFaultsModel") (T := F_Model) (N := 38) (ci := 7) (K := 13) (j := 17) (i := 0) (v := .ref (ad 26 0)) hx hb hts i_Model hown hK hV rfl rfl (by decide) (hM.1.n 13 (by decide) (by decide)) (hts _ k_742) (congrArg (fun z => va_rf (Option.map (ad 26) z)) (hM.1.2.1 17 (by decide) (by decide))) d_Model_count_126 ?_
                          refine lv_iload_n hx hb d_Model_count_129 rfl (lv_at hl 3 rfl) ?_
                          refine os_ialdN (K := 26) (i := 0) (t0 := 0) (n := j) hx hb hK hV rfl rfl rfl (hM.1.n 26 (by decide) (by decide)) rfl (by rw [show os_l (os_sg σ 13 0 0 0) 26 0 = 41 from hM.1.2.2 26 (by decide) (by decide)]; have h9 := (show j < 41 from by have h7 := (nlt_le c_7 (by have := hM.2.2.2.1.2; omega) hM.2.2.2.1.1); have h8 := hM.2.2.2.1.2; omega); omega) (by rw [show os_l (os_sg σ 13 0 0 0) 26 0 = 41 from hM.1.2.2 26 (by decide) (by decide)]; decide) d_Model_count_130 ?_
                          refine W.eq (g2 := F0 m 131 ls [.int (os_g σ 26 j 0), .int a]) (congrArg (fun z => F0 m 131 ls (.int z :: [.int a])) (show os_g (os_sg σ 13 0 0 0) 26 j 0 = os_g σ 26 j 0 from rfl)) ?_
                          refine lv_aload_n hx hb d_Model_count_131 rfl (lv_at hl 0 rfl) ?_
                          refine os_get (C := "RobotFaultsModel") (T := F_Model) (N := 38) (ci := 7) (K := 13) (j := 16) (i := 0) (v := .ref (ad 25 0)) hx hb hts i_Model hown hK hV rfl rfl (by decide) (hM.1.n 13 (by decide) (by decide)) (hts _ k_741) (congrArg (fun z => va_rf (Option.map (ad 25) z)) (hM.1.2.1 16 (by decide) (by decide))) d_Model_count_132 ?_
                          refine lv_iload_n hx hb d_Model_count_135 rfl (lv_at hl 3 rfl) ?_
                          refine os_ialdN (K := 25) (i := 0) (t0 := 0) (n := j) hx hb hK hV rfl rfl rfl (hM.1.n 25 (by decide) (by decide)) rfl (by rw [show os_l (os_sg σ 13 0 0 0) 25 0 = 41 from hM.1.2.2 25 (by decide) (by decide)]; have h9 := (show j < 41 from by have h7 := (nlt_le c_7 (by have := hM.2.2.2.1.2; omega) hM.2.2.2.1.1); have h8 := hM.2.2.2.1.2; omega); omega) (by rw [show os_l (os_sg σ 13 0 0 0) 25 0 = 41 from hM.1.2.2 25 (by decide) (by decide)]; decide) d_Model_count_136 ?_
                          refine W.eq (g2 := F0 m 137 ls [.int (os_g σ 25 j 0), .int (os_g σ 26 j 0), .int a]) (congrArg (fun z => F0 m 137 ls (.int z :: [.int (os_g σ 26 j 0), .int a])) (show os_g (os_sg σ 13 0 0 0) 25 j 0 = os_g σ 25 j 0 from rfl)) ?_
                          refine lv_isub hx hb d_Model_count_137 ?_
                          refine lv_goto (tgt := 142) hx hb d_Model_count_138 (by decide) ?_
                          refine lv_iadd hx hb d_Model_count_142 ?_
                          refine lv_istore_n (lv' := [(2, .int (a + ((os_g σ 26 j 0) - (os_g σ 25 j 0)))), (0, .ref (ad 13 0)), (1, .int y), (3, .int (nI j))]) hx hb d_Model_count_143 rfl hl (by decide) rfl (fun ls hl => ?_)
                          refine lv_iinc (v := nI (j + 1)) (lv' := [(3, .int (nI (j + 1))), (2, .int (a + ((os_g σ 26 j 0) - (os_g σ 25 j 0)))), (0, .ref (ad 13 0)), (1, .int y)]) hx hb d_Model_count_144 hl (k := 3) rfl (nI_1 j) (by decide) rfl (fun ls hl => ?_)
                          refine lv_goto (tgt := 70) hx hb d_Model_count_147 (by decide) ?_
                          exact loop_ih (j + 1) (a + ((os_g σ 26 j 0) - (os_g σ 25 j 0))) ls H locs (Nat.succ_le_of_lt (Nat.lt_succ_of_le (nlt_le c_7 (by have := hM.2.2.2.1.2; omega) hM.2.2.2.1.1))) (by omega) ⟨by omega, by rw [show j + 1 - 1 = (j - 1) + 1 from by have := loop_i.1; omega, mcf, ← loop_i.2, show j - 1 + 1 = j from by have := loop_i.1; omega]; simp only [mc1, eq_false c_14, eq_true c_15, eq_false c_16, if_true, if_false]⟩ hV (lv_sub hl [2, 3, 1, 0] rfl)
                        · skip
                          refine lv_aload_n hx hb d_Model_count_118 rfl (lv_at hl 0 rfl) ?_
                          refine os_get (C := "RobotFaultsModel") (T := F_Model) (N := 38) (ci := 7) (K := 13) (j := 1) (i := 0) (v := .int (os_g σ 13 1 0)) hx hb hts i_Model hown hK hV rfl rfl (by decide) (hM.1.n 13 (by decide) (by decide)) (hts _ k_726) rfl d_Model_count_119 ?_
                          refine lv_goto (tgt := 131) hx hb d_Model_count_122 (by decide) ?_
                          refine lv_aload_n hx hb d_Model_count_131 rfl (lv_at hl 0 rfl) ?_
                          refine os_get (C := "RobotFaultsModel") (T := F_Model) (N := 38) (ci := 7) (K := 13) (j := 16) (i := 0) (v := .ref (ad 25 0)) hx hb hts i_Model hown hK hV rfl rfl (by decide) (hM.1.n 13 (by decide) (by decide)) (hts _ k_741) (congrArg (fun z => va_rf (Option.map (ad 25) z)) (hM.1.2.1 16 (by decide) (by decide))) d_Model_count_132 ?_
                          refine lv_iload_n hx hb d_Model_count_135 rfl (lv_at hl 3 rfl) ?_
                          refine os_ialdN (K := 25) (i := 0) (t0 := 0) (n := j) hx hb hK hV rfl rfl rfl (hM.1.n 25 (by decide) (by decide)) rfl (by rw [show os_l (os_sg σ 13 0 0 0) 25 0 = 41 from hM.1.2.2 25 (by decide) (by decide)]; have h9 := (show j < 41 from by have h7 := (nlt_le c_7 (by have := hM.2.2.2.1.2; omega) hM.2.2.2.1.1); have h8 := hM.2.2.2.1.2; omega); omega) (by rw [show os_l (os_sg σ 13 0 0 0) 25 0 = 41 from hM.1.2.2 25 (by decide) (by decide)]; decide) d_Model_count_136 ?_
                          refine W.eq (g2 := F0 m 137 ls [.int (os_g σ 25 j 0), .int (os_g σ 13 1 0), .int a]) (congrArg (fun z => F0 m 137 ls (.int z :: [.int (os_g σ 13 1 0), .int a])) (show os_g (os_sg σ 13 0 0 0) 25 j 0 = os_g σ 25 j 0 from rfl)) ?_
                          refine lv_isub hx hb d_Model_count_137 ?_
                          refine lv_goto (tgt := 142) hx hb d_Model_count_138 (by decide) ?_
                          refine lv_iadd hx hb d_Model_count_142 ?_
                          refine lv_istore_n (lv' := [(2, .int (a + ((os_g σ 13 1 0) - (os_g σ 25 j 0)))), (0, .ref (ad 13 0)), (1, .int y), (3, .int (nI j))]) hx hb d_Model_count_143 rfl hl (by decide) rfl (fun ls hl => ?_)
                          refine lv_iinc (v := nI (j + 1)) (lv' := [(3, .int (nI (j + 1))), (2, .int (a + ((os_g σ 13 1 0) - (os_g σ 25 j 0)))), (0, .ref (ad 13 0)), (1, .int y)]) hx hb d_Model_count_144 hl (k := 3) rfl (nI_1 j) (by decide) rfl (fun ls hl => ?_)
                          refine lv_goto (tgt := 70) hx hb d_Model_count_147 (by decide) ?_
                          exact loop_ih (j + 1) (a + ((os_g σ 13 1 0) - (os_g σ 25 j 0))) ls H locs (Nat.succ_le_of_lt (Nat.lt_succ_of_le (nlt_le c_7 (by have := hM.2.2.2.1.2; omega) hM.2.2.2.1.1))) (by omega) ⟨by omega, by rw [show j + 1 - 1 = (j - 1) + 1 from by have := loop_i.1; omega, mcf, ← loop_i.2, show j - 1 + 1 = j from by have := loop_i.1; omega]; simp only [mc1, eq_false c_14, eq_true c_15, eq_true c_16, if_true, if_false]⟩ hV (lv_sub hl [2, 3, 1, 0] rfl)
                    · skip
                      refine lv_aload_n hx hb d_Model_count_84 rfl (lv_at hl 0 rfl) ?_
                      refine os_get (C := "RobotFaultsModel") (T := F_Model) (N := 38) (ci := 7) (K := 13) (j := 17) (i := 0) (v := .ref (ad 26 0)) hx hb hts i_Model hown hK hV rfl rfl (by decide) (hM.1.n 13 (by decide) (by decide)) (hts _ k_742) (congrArg (fun z => va_rf (Option.map (ad 26) z)) (hM.1.2.1 17 (by decide) (by decide))) d_Model_count_85 ?_
                      refine lv_iload_n hx hb d_Model_count_88 rfl (lv_at hl 3 rfl) ?_
                      refine os_ialdN (K := 26) (i := 0) (t0 := 0) (n := j) hx hb hK hV rfl rfl rfl (hM.1.n 26 (by decide) (by decide)) rfl (by rw [show os_l (os_sg σ 13 0 0 0) 26 0 = 41 from hM.1.2.2 26 (by decide) (by decide)]; have h9 := (show j < 41 from by have h7 := (nlt_le c_7 (by have := hM.2.2.2.1.2; omega) hM.2.2.2.1.1); have h8 := hM.2.2.2.1.2; omega); omega) (by rw [show os_l (os_sg σ 13 0 0 0) 26 0 = 41 from hM.1.2.2 26 (by decide) (by decide)]; decide) d_Model_count_89 ?_
                      refine W.eq (g2 := F0 m 90 ls [.int (os_g σ 26 j 0), .int a]) (congrArg (fun z => F0 m 90 ls (.int z :: [.int a])) (show os_g (os_sg σ 13 0 0 0) 26 j 0 = os_g σ 26 j 0 from rfl)) ?_
                      refine lv_iconst (v := (-1)) hx hb d_Model_count_90 (by decide) ?_
                      refine lv_icmp_ne (tgt := 98) hx hb d_Model_count_91 (by decide) (fun c_17 => ?_) (fun c_17 => ?_)
                      · skip
                        refine lv_iconst (v := 0) hx hb d_Model_count_98 (by decide) ?_
                        refine lv_goto (tgt := 142) hx hb d_Model_count_99 (by decide) ?_
                        refine lv_iadd hx hb d_Model_count_142 ?_
                        refine lv_istore_n (lv' := [(2, .int (a + 0)), (0, .ref (ad 13 0)), (1, .int y), (3, .int (nI j))]) hx hb d_Model_count_143 rfl hl (by decide) rfl (fun ls hl => ?_)
                        refine lv_iinc (v := nI (j + 1)) (lv' := [(3, .int (nI (j + 1))), (2, .int (a + 0)), (0, .ref (ad 13 0)), (1, .int y)]) hx hb d_Model_count_144 hl (k := 3) rfl (nI_1 j) (by decide) rfl (fun ls hl => ?_)
                        refine lv_goto (tgt := 70) hx hb d_Model_count_147 (by decide) ?_
                        exact loop_ih (j + 1) (a + 0) ls H locs (Nat.succ_le_of_lt (Nat.lt_succ_of_le (nlt_le c_7 (by have := hM.2.2.2.1.2; omega) hM.2.2.2.1.1))) (by omega) ⟨by omega, by rw [show j + 1 - 1 = (j - 1) + 1 from by have := loop_i.1; omega, mcf, ← loop_i.2, show j - 1 + 1 = j from by have := loop_i.1; omega]; simp only [mc1, eq_true c_14, eq_false c_17, if_true, if_false]⟩ hV (lv_sub hl [2, 3, 1, 0] rfl)
                      · skip
                        refine lv_iconst (v := 1) hx hb d_Model_count_94 (by decide) ?_
                        refine lv_goto (tgt := 142) hx hb d_Model_count_95 (by decide) ?_
                        refine lv_iadd hx hb d_Model_count_142 ?_
                        refine lv_istore_n (lv' := [(2, .int (a + 1)), (0, .ref (ad 13 0)), (1, .int y), (3, .int (nI j))]) hx hb d_Model_count_143 rfl hl (by decide) rfl (fun ls hl => ?_)
                        refine lv_iinc (v := nI (j + 1)) (lv' := [(3, .int (nI (j + 1))), (2, .int (a + 1)), (0, .ref (ad 13 0)), (1, .int y)]) hx hb d_Model_count_144 hl (k := 3) rfl (nI_1 j) (by decide) rfl (fun ls hl => ?_)
                        refine lv_goto (tgt := 70) hx hb d_Model_count_147 (by decide) ?_
                        exact loop_ih (j + 1) (a + 1) ls H locs (Nat.succ_le_of_lt (Nat.lt_succ_of_le (nlt_le c_7 (by have := hM.2.2.2.1.2; omega) hM.2.2.2.1.1))) (by omega) ⟨by omega, by rw [show j + 1 - 1 = (j - 1) + 1 from by have := loop_i.1; omega, mcf, ← loop_i.2, show j - 1 + 1 = j from by have := loop_i.1; omega]; simp only [mc1, eq_true c_14, eq_true c_17, if_true, if_false]⟩ hV (lv_sub hl [2, 3, 1, 0] rfl)
              exact loop ((iN (os_g σ 13 13 0) + 1) + 1) 1 0 ls _ _ (by omega) (by omega) ⟨Nat.le_refl 1, rfl⟩ hV (lv_sub hl [2, 3, 1, 0] rfl)
            · skip
              refine lv_aload_n hx hb d_Model_count_61 rfl (lv_at hl 0 rfl) ?_
              refine os_get (C := "RobotFaultsModel") (T := F_Model) (N := 38) (ci := 7) (K := 13) (j := 33) (i := 0) (v := .int (os_g σ 13 33 0)) hx hb hts i_Model hown hK hV rfl rfl (by decide) (hM.1.n 13 (by decide) (by decide)) (hts _ k_758) rfl d_Model_count_62 ?_
              refine os_iret hx hb hr hlocks hV (Nat.le_of_ble_eq_true rfl) (Nat.le_of_ble_eq_true rfl) d_Model_count_65 ?_
              exact ⟨rfl, rfl, by simp only [mCt, eq_false c_1, eq_false c_2, eq_false c_3, eq_false c_4, eq_false c_5, eq_true c_6, if_true, if_false]⟩
          · skip
            refine lv_aload_n hx hb d_Model_count_50 rfl (lv_at hl 0 rfl) ?_
            refine os_get (C := "RobotFaultsModel") (T := F_Model) (N := 38) (ci := 7) (K := 13) (j := 1) (i := 0) (v := .int (os_g σ 13 1 0)) hx hb hts i_Model hown hK hV rfl rfl (by decide) (hM.1.n 13 (by decide) (by decide)) (hts _ k_726) rfl d_Model_count_51 ?_
            refine os_iret hx hb hr hlocks hV (Nat.le_of_ble_eq_true rfl) (Nat.le_of_ble_eq_true rfl) d_Model_count_54 ?_
            exact ⟨rfl, rfl, by simp only [mCt, eq_false c_1, eq_false c_2, eq_false c_3, eq_false c_4, eq_true c_5, if_true, if_false]⟩
        · skip
          refine lv_aload_n hx hb d_Model_count_39 rfl (lv_at hl 0 rfl) ?_
          refine os_get (C := "RobotFaultsModel") (T := F_Model) (N := 38) (ci := 7) (K := 13) (j := 24) (i := 0) (v := .int (os_g σ 13 24 0)) hx hb hts i_Model hown hK hV rfl rfl (by decide) (hM.1.n 13 (by decide) (by decide)) (hts _ k_749) rfl d_Model_count_40 ?_
          refine os_iret hx hb hr hlocks hV (Nat.le_of_ble_eq_true rfl) (Nat.le_of_ble_eq_true rfl) d_Model_count_43 ?_
          exact ⟨rfl, rfl, by simp only [mCt, eq_false c_1, eq_false c_2, eq_false c_3, eq_true c_4, if_true, if_false]⟩
      · skip
        refine lv_aload_n hx hb d_Model_count_29 rfl (lv_at hl 0 rfl) ?_
        refine os_get (C := "RobotFaultsModel") (T := F_Model) (N := 38) (ci := 7) (K := 13) (j := 13) (i := 0) (v := .int (os_g σ 13 13 0)) hx hb hts i_Model hown hK hV rfl rfl (by decide) (hM.1.n 13 (by decide) (by decide)) (hts _ k_738) rfl d_Model_count_30 ?_
        refine os_iret hx hb hr hlocks hV (Nat.le_of_ble_eq_true rfl) (Nat.le_of_ble_eq_true rfl) d_Model_count_33 ?_
        exact ⟨rfl, rfl, by simp only [mCt, eq_false c_1, eq_false c_2, eq_true c_3, if_true, if_false]⟩
    · skip
      refine lv_aload_n hx hb d_Model_count_19 rfl (lv_at hl 0 rfl) ?_
      refine os_get (C := "RobotFaultsModel") (T := F_Model) (N := 38) (ci := 7) (K := 13) (j := 4) (i := 0) (v := .int (os_g σ 13 4 0)) hx hb hts i_Model hown hK hV rfl rfl (by decide) (hM.1.n 13 (by decide) (by decide)) (hts _ k_729) rfl d_Model_count_20 ?_
      refine os_iret hx hb hr hlocks hV (Nat.le_of_ble_eq_true rfl) (Nat.le_of_ble_eq_true rfl) d_Model_count_23 ?_
      exact ⟨rfl, rfl, by simp only [mCt, eq_false c_1, eq_true c_2, if_true, if_false]⟩
  · skip
    refine lv_aload_n hx hb d_Model_count_9 rfl (lv_at hl 0 rfl) ?_
    refine os_get (C := "RobotFaultsModel") (T := F_Model) (N := 38) (ci := 7) (K := 13) (j := 2) (i := 0) (v := .int (os_g σ 13 2 0)) hx hb hts i_Model hown hK hV rfl rfl (by decide) (hM.1.n 13 (by decide) (by decide)) (hts _ k_727) rfl d_Model_count_10 ?_
    refine os_iret hx hb hr hlocks hV (Nat.le_of_ble_eq_true rfl) (Nat.le_of_ble_eq_true rfl) d_Model_count_13 ?_
    exact ⟨rfl, rfl, by simp only [mCt, eq_true c_1, if_true, if_false]⟩
