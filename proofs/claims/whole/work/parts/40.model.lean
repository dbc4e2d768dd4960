/-! THE REFERENCE: its shape -/
def iN (x : Int32) : Nat := x.toNatClampNeg
theorem iN_nI {n : Nat} (h : n < 2 ^ 31) : iN (nI n) = n := nI_clamp h
theorem nI_iN {x : Int32} (h : ¬ x < 0) : x = nI (iN x) := by
  obtain ⟨j, hj, rfl⟩ := nI_of h
  rw [iN_nI hj]
def mdL (K : Nat) : Nat := if K = 14 then 400 else if K < 23 then 8 else if K < 33 then 41 else if K < 41 then 40 else if K < 44 then 10 else 20
def mdJ (j : Nat) : Bool := !(j == 0 || j == 1 || j == 2 || j == 4 || j == 13 || j == 24 || j == 33)
/-- the reference's arrays -/
def mdA (σ : os_S) : Prop := (∀ K, 13 ≤ K → K < 45 → os_n σ K = 1) ∧ (∀ j, j < 38 → mdJ j = true → os_r σ 13 j 0 = some 0) ∧ ∀ K, 14 ≤ K → K < 45 → os_l σ K 0 = mdL K
theorem mdA.n {σ : os_S} (h : mdA σ) (K : Nat) (h1 : 13 ≤ K) (h2 : K < 45) : 0 < os_n σ K := by rw [h.1 K h1 h2]; decide
theorem mdA.sg {σ : os_S} {K j i : Nat} {v : Int32} (h : mdA σ) : mdA (os_sg σ K j i v) := h
/-- a count stands in a field -/
def mdc (σ : os_S) (j M : Nat) : Prop := os_g σ 13 j 0 = nI (iN (os_g σ 13 j 0)) ∧ iN (os_g σ 13 j 0) ≤ M
/-- entries of an array are below a number -/
def mdx (σ : os_S) (K N M : Nat) : Prop := ∀ i, i < N → os_g σ K i 0 = nI (iN (os_g σ K i 0)) ∧ iN (os_g σ K i 0) < M
/-- the reference's counts and the numbers that it uses as indices -/
def MI (σ : os_S) : Prop := mdA σ ∧ mdc σ 2 20 ∧ mdc σ 4 8 ∧ mdc σ 13 40 ∧ mdc σ 24 40 ∧ mdc σ 33 10 ∧ mdx σ 15 8 20 ∧ mdx σ 40 40 41 ∧ mdx σ 41 10 8 ∧ mdx σ 42 10 8
abbrev mP (σ : os_S) : Nat := iN (os_g σ 13 2 0)
abbrev mR (σ : os_S) : Nat := iN (os_g σ 13 4 0)
abbrev mFt (σ : os_S) : Nat := iN (os_g σ 13 13 0)
abbrev mAl (σ : os_S) : Nat := iN (os_g σ 13 24 0)
abbrev mPl (σ : os_S) : Nat := iN (os_g σ 13 33 0)
def inF (v lo hi : Int32) : Bool := decide (¬ v < lo ∧ ¬ hi < v)
theorem lt_pred {x : Int32} {n : Nat} (hn : n < 2 ^ 31) (h0 : ¬ x < 0) (h1 : ¬ nI n - 1 < x) : x = nI (iN x) ∧ iN x < n := by
  obtain ⟨j, hj, rfl⟩ := nI_of h0
  rw [iN_nI hj]
  refine ⟨rfl, ?_⟩
  cases n with
  | zero => exact absurd (show nI 0 - 1 < nI j from by
      rw [Int32.lt_iff_toInt_lt, nI_toInt hj]
      exact Int.lt_of_lt_of_le (by decide : (nI 0 - 1).toInt < 0) (Int.natCast_nonneg j)) h1
  | succ k =>
    rw [nI_pred] at h1
    rcases Nat.lt_or_ge j (k + 1) with h | h
    · exact h
    · exact absurd (nI_lt (by omega) hj) h1
/-- a number that is one -/
theorem inF.ix {σ : os_S} {x : Int32} {j M : Nat} (h : inF x 0 (os_g σ 13 j 0 - 1) = true) (hc : mdc σ j M) (hM : M < 2 ^ 31 := by decide) : x = nI (iN x) ∧ iN x < iN (os_g σ 13 j 0) := by
  have h1 := of_decide_eq_true h
  have h2 := h1.2
  rw [hc.1] at h2
  exact lt_pred (by have := hc.2; omega) h1.1 h2
theorem inF.up {x : Int32} {lo : Int32} {M : Nat} (h : inF x lo (nI M) = true) (hlo : ¬ lo < 0 := by decide) (hM : M < 2 ^ 31 := by decide) : x = nI (iN x) ∧ iN x ≤ M := by
  have h1 := of_decide_eq_true h
  have h0 : ¬ x < 0 := fun q => by
    rw [Int32.lt_iff_toInt_lt] at q hlo
    have h2 := h1.1
    rw [Int32.lt_iff_toInt_lt] at h2
    omega
  obtain ⟨j, hj, rfl⟩ := nI_of h0
  rw [iN_nI hj]
  refine ⟨rfl, ?_⟩
  rcases Nat.lt_or_ge M j with h3 | h3
  · exact absurd (nI_lt h3 hj) h1.2
  · exact h3
theorem inF.ft {σ : os_S} {x : Int32} (h : inF x 1 (os_g σ 13 13 0) = true) (hc : mdc σ 13 40) : x = nI (iN x) ∧ 1 ≤ iN x ∧ iN x ≤ iN (os_g σ 13 13 0) := by
  rw [hc.1] at h
  have h3 := inF.up h (by decide) (by have := hc.2; omega)
  have h2 := of_decide_eq_true h
  refine ⟨h3.1, ?_, h3.2⟩
  rcases Nat.lt_or_ge (iN x) 1 with q | q
  · have e : x = nI 0 := by rw [h3.1, show iN x = 0 by omega]
    rw [e] at h2
    exact absurd (by decide) h2.1
  · exact q
set_option maxHeartbeats 4000000 in
set_option maxRecDepth 100000 in
theorem c_Model_in (l : Launch) (hlt : l.stackTraces = false) (D : va_G) (cA : Nat → ClassId) (bs : Nat) (σ : os_S) (ad : Nat → Nat → Nat) (v9 lo hi : Int32) : os_Met l y_Model_in prog_9_method_3_code 3 (some .boolean) { frames := 0, cells := 0, slots := 0, locals := 0 } D cA bs [.int v9, .int lo, .int hi] σ ad (pv σ ad (some (.int (bz (inF v9 lo hi))))) := by
  refine os_ofW (by decide) ?_
  intro p e s m below meth c hx hb hr hml hown hlocks hmn hout hE hV
  have hts := hE.hts (args := ([.int v9, .int lo, .int hi] : List Value).toArray)
  have hK := hE.2.1
  have hbs := hE.2.2.1
  have hown : s.vm.findClass "RobotFaultsModel" = some m.cls := hown
  have hl := lv_entry ([.int v9, .int lo, .int hi]) (n := 3) (Nat.le_of_ble_eq_true rfl)
  rw [lg_entry_eq]
  generalize (lg_sl ([.int v9, .int lo, .int hi]) ++ List.replicate (3 - (lg_sl ([.int v9, .int lo, .int hi])).length) Slot.unset).toArray = ls at hl ⊢
  have hl : lv_has ls 3 [(0, .int v9), (1, .int lo), (2, .int hi)] := hl
  refine lv_iload_n hx hb d_Model_in_0 rfl (lv_at hl 0 rfl) ?_
  refine lv_iload_n hx hb d_Model_in_1 rfl (lv_at hl 1 rfl) ?_
  refine lv_icmp_lt (tgt := 14) hx hb d_Model_in_2 (by decide) (fun c_1 => ?_) (fun c_1 => ?_)
  · skip
    refine lv_iconst (v := 0) hx hb d_Model_in_14 (by decide) ?_
    refine os_zret hx hb hr rfl hlocks hV (Nat.le_of_ble_eq_true rfl) (Nat.le_of_ble_eq_true rfl) d_Model_in_15 ?_
    exact ⟨rfl, rfl, by simp [bz, inF, c_1]⟩
  · skip
    refine lv_iload_n hx hb d_Model_in_5 rfl (lv_at hl 0 rfl) ?_
    refine lv_iload_n hx hb d_Model_in_6 rfl (lv_at hl 2 rfl) ?_
    refine lv_icmp_gt (tgt := 14) hx hb d_Model_in_7 (by decide) (fun c_2 => ?_) (fun c_2 => ?_)
    · skip
      refine lv_iconst (v := 0) hx hb d_Model_in_14 (by decide) ?_
      refine os_zret hx hb hr rfl hlocks hV (Nat.le_of_ble_eq_true rfl) (Nat.le_of_ble_eq_true rfl) d_Model_in_15 ?_
      exact ⟨rfl, rfl, by simp [bz, inF, c_1, c_2]⟩
    · skip
      refine lv_iconst (v := 1) hx hb d_Model_in_10 (by decide) ?_
      refine lv_goto (tgt := 15) hx hb d_Model_in_11 (by decide) ?_
      refine os_zret hx hb hr rfl hlocks hV (Nat.le_of_ble_eq_true rfl) (Nat.le_of_ble_eq_true rfl) d_Model_in_15 ?_
      exact ⟨rfl, rfl, by simp [bz, inF, c_1, c_2]⟩
set_option maxHeartbeats 4000000 in
set_option maxRecDepth 100000 in
theorem c_Model_isPiece (l : Launch) (hlt : l.stackTraces = false) (D : va_G) (cA : Nat → ClassId) (bs : Nat) (σ : os_S) (ad : Nat → Nat → Nat) (x : Int32) (hM : MI σ) : os_Met l y_Model_isPiece prog_9_method_4_code 2 (some .boolean) { frames := 1, cells := 0, slots := 0, locals := 22 } D cA bs [.ref (ad 13 0), .int x] σ ad (pv σ ad (some (.int (bz (inF x 0 (os_g σ 13 2 0 - 1)))))) := by
  refine os_ofW (by decide) ?_
  intro p e s m below meth c hx hb hr hml hown hlocks hmn hout hE hV
  have hts := hE.hts (args := ([.ref (ad 13 0), .int x] : List Value).toArray)
  have hK := hE.2.1
  have hbs := hE.2.2.1
  have hown : s.vm.findClass "RobotFaultsModel" = some m.cls := hown
  have hl := lv_entry ([.ref (ad 13 0), .int x]) (n := 2) (Nat.le_of_ble_eq_true rfl)
  rw [lg_entry_eq]
  generalize (lg_sl ([.ref (ad 13 0), .int x]) ++ List.replicate (2 - (lg_sl ([.ref (ad 13 0), .int x])).length) Slot.unset).toArray = ls at hl ⊢
  have hl : lv_has ls 2 [(0, .ref (ad 13 0)), (1, .int x)] := hl
  refine lv_iload_n hx hb d_Model_isPiece_0 rfl (lv_at hl 1 rfl) ?_
  refine lv_iconst (v := 0) hx hb d_Model_isPiece_1 (by decide) ?_
  refine lv_aload_n hx hb d_Model_isPiece_2 rfl (lv_at hl 0 rfl) ?_
  refine os_get (C := "RobotFaultsModel") (T := F_Model) (N := 38) (ci := 7) (K := 13) (j := 2) (i := 0) (v := .int (os_g σ 13 2 0)) hx hb hts i_Model hown hK hV rfl rfl (by decide) (hM.1.n 13 (by decide) (by decide)) (hts _ k_727) rfl d_Model_isPiece_3 ?_
  refine lv_iconst (v := 1) hx hb d_Model_isPiece_6 (by decide) ?_
  refine lv_isub hx hb d_Model_isPiece_7 ?_
  refine os_call (c_Model_in l hlt D cA bs σ ad x 0 ((os_g σ 13 2 0) - 1)) hE hV k_859 k_4 (os_inS (n := 3) (bytes := prog_9_method_3_code) (maxL := 3) (ret := (some .boolean)) hx hb hown (hts _ k_857) (hts _ k_858) (hts _ k_4) (hts _ k_859) (by decide +kernel) rfl rfl d_Model_isPiece_8) (hl.1.trans hml.symm) (Nat.le_of_ble_eq_true rfl) (Nat.le_of_ble_eq_true rfl) (Nat.le_of_ble_eq_true rfl) (Nat.le_of_ble_eq_true rfl) (Nat.le_of_ble_eq_true rfl) (fun v σ1 ad1 H locs hp hext hV => ?_) (fun E q ce σ1 ad1 H locs hp hext hV hce hcv hcl => ?_)
  · obtain ⟨rfl, rfl, hp⟩ := hp
    cases hp
    refine W.eq (g2 := F0 m 11 ls [.int (bz (inF x 0 ((os_g σ 13 2 0) - 1)))]) rfl ?_
    refine os_zret hx hb hr (bz_nar _) hlocks hV (Nat.le_of_ble_eq_true rfl) (Nat.le_of_ble_eq_true rfl) d_Model_isPiece_11 ?_
    exact ⟨rfl, rfl, rfl⟩
  · exact absurd hp.2.2 (fun h => by cases h)
set_option maxHeartbeats 4000000 in
set_option maxRecDepth 100000 in
theorem c_Model_isRobot (l : Launch) (hlt : l.stackTraces = false) (D : va_G) (cA : Nat → ClassId) (bs : Nat) (σ : os_S) (ad : Nat → Nat → Nat) (x : Int32) (hM : MI σ) : os_Met l y_Model_isRobot prog_9_method_5_code 2 (some .boolean) { frames := 1, cells := 0, slots := 0, locals := 22 } D cA bs [.ref (ad 13 0), .int x] σ ad (pv σ ad (some (.int (bz (inF x 0 (os_g σ 13 4 0 - 1)))))) := by
  refine os_ofW (by decide) ?_
  intro p e s m below meth c hx hb hr hml hown hlocks hmn hout hE hV
  have hts := hE.hts (args := ([.ref (ad 13 0), .int x] : List Value).toArray)
  have hK := hE.2.1
  have hbs := hE.2.2.1
  have hown : s.vm.findClass "RobotFaultsModel" = some m.cls := hown
  have hl := lv_entry ([.ref (ad 13 0), .int x]) (n := 2) (Nat.le_of_ble_eq_true rfl)
  rw [lg_entry_eq]
  generalize (lg_sl ([.ref (ad 13 0), .int x]) ++ List.replicate (2 - (lg_sl ([.ref (ad 13 0), .int x])).length) Slot.unset).toArray = ls at hl ⊢
  have hl : lv_has ls 2 [(0, .ref (ad 13 0)), (1, .int x)] := hl
  refine lv_iload_n hx hb d_Model_isRobot_0 rfl (lv_at hl 1 rfl) ?_
  refine lv_iconst (v := 0) hx hb d_Model_isRobot_1 (by decide) ?_
  refine lv_aload_n hx hb d_Model_isRobot_2 rfl (lv_at hl 0 rfl) ?_
  refine os_get (C := "RobotFaultsModel") (T := F_Model) (N := 38) (ci := 7) (K := 13) (j := 4) (i := 0) (v := .int (os_g σ 13 4 0)) hx hb hts i_Model hown hK hV rfl rfl (by decide) (hM.1.n 13 (by decide) (by decide)) (hts _ k_729) rfl d_Model_isRobot_3 ?_
  refine lv_iconst (v := 1) hx hb d_Model_isRobot_6 (by decide) ?_
  refine lv_isub hx hb d_Model_isRobot_7 ?_
  refine os_call (c_Model_in l hlt D cA bs σ ad x 0 ((os_g σ 13 4 0) - 1)) hE hV k_859 k_4 (os_inS (n := 3) (bytes := prog_9_method_3_code) (maxL := 3) (ret := (some .boolean)) hx hb hown (hts _ k_857) (hts _ k_858) (hts _ k_4) (hts _ k_859) (by decide +kernel) rfl rfl d_Model_isRobot_8) (hl.1.trans hml.symm) (Nat.le_of_ble_eq_true rfl) (Nat.le_of_ble_eq_true rfl) (Nat.le_of_ble_eq_true rfl) (Nat.le_of_ble_eq_true rfl) (Nat.le_of_ble_eq_true rfl) (fun v σ1 ad1 H locs hp hext hV => ?_) (fun E q ce σ1 ad1 H locs hp hext hV hce hcv hcl => ?_)
  · obtain ⟨rfl, rfl, hp⟩ := hp
    cases hp
    refine W.eq (g2 := F0 m 11 ls [.int (bz (inF x 0 ((os_g σ 13 4 0) - 1)))]) rfl ?_
    refine os_zret hx hb hr (bz_nar _) hlocks hV (Nat.le_of_ble_eq_true rfl) (Nat.le_of_ble_eq_true rfl) d_Model_isRobot_11 ?_
    exact ⟨rfl, rfl, rfl⟩
  · exact absurd hp.2.2 (fun h => by cases h)
set_option maxHeartbeats 4000000 in
set_option maxRecDepth 100000 in
theorem c_Model_isAlarm (l : Launch) (hlt : l.stackTraces = false) (D : va_G) (cA : Nat → ClassId) (bs : Nat) (σ : os_S) (ad : Nat → Nat → Nat) (x : Int32) (hM : MI σ) : os_Met l y_Model_isAlarm prog_9_method_7_code 2 (some .boolean) { frames := 1, cells := 0, slots := 0, locals := 22 } D cA bs [.ref (ad 13 0), .int x] σ ad (pv σ ad (some (.int (bz (inF x 0 (os_g σ 13 24 0 - 1)))))) := by
  refine os_ofW (by decide) ?_
  intro p e s m below meth c hx hb hr hml hown hlocks hmn hout hE hV
  have hts := hE.hts (args := ([.ref (ad 13 0), .int x] : List Value).toArray)
  have hK := hE.2.1
  have hbs := hE.2.2.1
  have hown : s.vm.findClass "RobotFaultsModel" = some m.cls := hown
  have hl := lv_entry ([.ref (ad 13 0), .int x]) (n := 2) (Nat.le_of_ble_eq_true rfl)
  rw [lg_entry_eq]
  generalize (lg_sl ([.ref (ad 13 0), .int x]) ++ List.replicate (2 - (lg_sl ([.ref (ad 13 0), .int x])).length) Slot.unset).toArray = ls at hl ⊢
  have hl : lv_has ls 2 [(0, .ref (ad 13 0)), (1, .int x)] := hl
  refine lv_iload_n hx hb d_Model_isAlarm_0 rfl (lv_at hl 1 rfl) ?_
  refine lv_iconst (v := 0) hx hb d_Model_isAlarm_1 (by decide) ?_
  refine lv_aload_n hx hb d_Model_isAlarm_2 rfl (lv_at hl 0 rfl) ?_
  refine os_get (C := "RobotFaultsModel") (T := F_Model) (N := 38) (ci := 7) (K := 13) (j := 24) (i := 0) (v := .int (os_g σ 13 24 0)) hx hb hts i_Model hown hK hV rfl rfl (by decide) (hM.1.n 13 (by decide) (by decide)) (hts _ k_749) rfl d_Model_isAlarm_3 ?_
  refine lv_iconst (v := 1) hx hb d_Model_isAlarm_6 (by decide) ?_
  refine lv_isub hx hb d_Model_isAlarm_7 ?_
  refine os_call (c_Model_in l hlt D cA bs σ ad x 0 ((os_g σ 13 24 0) - 1)) hE hV k_859 k_4 (os_inS (n := 3) (bytes := prog_9_method_3_code) (maxL := 3) (ret := (some .boolean)) hx hb hown (hts _ k_857) (hts _ k_858) (hts _ k_4) (hts _ k_859) (by decide +kernel) rfl rfl d_Model_isAlarm_8) (hl.1.trans hml.symm) (Nat.le_of_ble_eq_true rfl) (Nat.le_of_ble_eq_true rfl) (Nat.le_of_ble_eq_true rfl) (Nat.le_of_ble_eq_true rfl) (Nat.le_of_ble_eq_true rfl) (fun v σ1 ad1 H locs hp hext hV => ?_) (fun E q ce σ1 ad1 H locs hp hext hV hce hcv hcl => ?_)
  · obtain ⟨rfl, rfl, hp⟩ := hp
    cases hp
    refine W.eq (g2 := F0 m 11 ls [.int (bz (inF x 0 ((os_g σ 13 24 0) - 1)))]) rfl ?_
    refine os_zret hx hb hr (bz_nar _) hlocks hV (Nat.le_of_ble_eq_true rfl) (Nat.le_of_ble_eq_true rfl) d_Model_isAlarm_11 ?_
    exact ⟨rfl, rfl, rfl⟩
  · exact absurd hp.2.2 (fun h => by cases h)
set_option maxHeartbeats 4000000 in
set_option maxRecDepth 100000 in
theorem c_Model_isFault (l : Launch) (hlt : l.stackTraces = false) (D : va_G) (cA : Nat → ClassId) (bs : Nat) (σ : os_S) (ad : Nat → Nat → Nat) (x : Int32) (hM : MI σ) : os_Met l y_Model_isFault prog_9_method_6_code 2 (some .boolean) { frames := 1, cells := 0, slots := 0, locals := 22 } D cA bs [.ref (ad 13 0), .int x] σ ad (pv σ ad (some (.int (bz (inF x 1 (os_g σ 13 13 0)))))) := by
  refine os_ofW (by decide) ?_
  intro p e s m below meth c hx hb hr hml hown hlocks hmn hout hE hV
  have hts := hE.hts (args := ([.ref (ad 13 0), .int x] : List Value).toArray)
  have hK := hE.2.1
  have hbs := hE.2.2.1
  have hown : s.vm.findClass "RobotFaultsModel" = some m.cls := hown
  have hl := lv_entry ([.ref (ad 13 0), .int x]) (n := 2) (Nat.le_of_ble_eq_true rfl)
  rw [lg_entry_eq]
  generalize (lg_sl ([.ref (ad 13 0), .int x]) ++ List.replicate (2 - (lg_sl ([.ref (ad 13 0), .int x])).length) Slot.unset).toArray = ls at hl ⊢
  have hl : lv_has ls 2 [(0, .ref (ad 13 0)), (1, .int x)] := hl
  refine lv_iload_n hx hb d_Model_isFault_0 rfl (lv_at hl 1 rfl) ?_
  refine lv_iconst (v := 1) hx hb d_Model_isFault_1 (by decide) ?_
  refine lv_aload_n hx hb d_Model_isFault_2 rfl (lv_at hl 0 rfl) ?_
  refine os_get (C := "RobotFaultsModel") (T := F_Model) (N := 38) (ci := 7) (K := 13) (j := 13) (i := 0) (v := .int (os_g σ 13 13 0)) hx hb hts i_Model hown hK hV rfl rfl (by decide) (hM.1.n 13 (by decide) (by decide)) (hts _ k_738) rfl d_Model_isFault_3 ?_
  refine os_call (c_Model_in l hlt D cA bs σ ad x 1 (os_g σ 13 13 0)) hE hV k_859 k_4 (os_inS (n := 3) (bytes := prog_9_method_3_code) (maxL := 3) (ret := (some .boolean)) hx hb hown (hts _ k_857) (hts _ k_858) (hts _ k_4) (hts _ k_859) (by decide +kernel) rfl rfl d_Model_isFault_6) (hl.1.trans hml.symm) (Nat.le_of_ble_eq_true rfl) (Nat.le_of_ble_eq_true rfl) (Nat.le_of_ble_eq_true rfl) (Nat.le_of_ble_eq_true rfl) (Nat.le_of_ble_eq_true rfl) (fun v σ1 ad1 H locs hp hext hV => ?_) (fun E q ce σ1 ad1 H locs hp hext hV hce hcv hcl => ?_)
  · obtain ⟨rfl, rfl, hp⟩ := hp
    cases hp
    refine W.eq (g2 := F0 m 9 ls [.int (bz (inF x 1 (os_g σ 13 13 0)))]) rfl ?_
    refine os_zret hx hb hr (bz_nar _) hlocks hV (Nat.le_of_ble_eq_true rfl) (Nat.le_of_ble_eq_true rfl) d_Model_isFault_9 ?_
    exact ⟨rfl, rfl, rfl⟩
  · exact absurd hp.2.2 (fun h => by cases h)
set_option maxHeartbeats 4000000 in
set_option maxRecDepth 100000 in
theorem c_Model_isKind (l : Launch) (hlt : l.stackTraces = false) (D : va_G) (cA : Nat → ClassId) (bs : Nat) (σ : os_S) (ad : Nat → Nat → Nat) (x : Int32) : os_Met l y_Model_isKind prog_9_method_8_code 1 (some .boolean) { frames := 1, cells := 0, slots := 0, locals := 22 } D cA bs [.int x] σ ad (pv σ ad (some (.int (bz (inF x 0 7))))) := by
  refine os_ofW (by decide) ?_
  intro p e s m below meth c hx hb hr hml hown hlocks hmn hout hE hV
  have hts := hE.hts (args := ([.int x] : List Value).toArray)
  have hK := hE.2.1
  have hbs := hE.2.2.1
  have hown : s.vm.findClass "RobotFaultsModel" = some m.cls := hown
  have hl := lv_entry ([.int x]) (n := 1) (Nat.le_of_ble_eq_true rfl)
  rw [lg_entry_eq]
  generalize (lg_sl ([.int x]) ++ List.replicate (1 - (lg_sl ([.int x])).length) Slot.unset).toArray = ls at hl ⊢
  have hl : lv_has ls 1 [(0, .int x)] := hl
  refine lv_iload_n hx hb d_Model_isKind_0 rfl (lv_at hl 0 rfl) ?_
  refine lv_iconst (v := 0) hx hb d_Model_isKind_1 (by decide) ?_
  refine lv_bipush (v := 7) hx hb d_Model_isKind_2 (by decide) ?_
  refine os_call (c_Model_in l hlt D cA bs σ ad x 0 7) hE hV k_859 k_4 (os_inS (n := 3) (bytes := prog_9_method_3_code) (maxL := 3) (ret := (some .boolean)) hx hb hown (hts _ k_857) (hts _ k_858) (hts _ k_4) (hts _ k_859) (by decide +kernel) rfl rfl d_Model_isKind_4) (hl.1.trans hml.symm) (Nat.le_of_ble_eq_true rfl) (Nat.le_of_ble_eq_true rfl) (Nat.le_of_ble_eq_true rfl) (Nat.le_of_ble_eq_true rfl) (Nat.le_of_ble_eq_true rfl) (fun v σ1 ad1 H locs hp hext hV => ?_) (fun E q ce σ1 ad1 H locs hp hext hV hce hcv hcl => ?_)
  · obtain ⟨rfl, rfl, hp⟩ := hp
    cases hp
    refine W.eq (g2 := F0 m 7 ls [.int (bz (inF x 0 7))]) rfl ?_
    refine os_zret hx hb hr (bz_nar _) hlocks hV (Nat.le_of_ble_eq_true rfl) (Nat.le_of_ble_eq_true rfl) d_Model_isKind_7 ?_
    exact ⟨rfl, rfl, rfl⟩
  · exact absurd hp.2.2 (fun h => by cases h)
set_option maxHeartbeats 4000000 in
set_option maxRecDepth 100000 in
theorem c_Model_thrown (l : Launch) (hlt : l.stackTraces = false) (D : va_G) (cA : Nat → ClassId) (bs : Nat) (σ : os_S) (ad : Nat → Nat → Nat) (hM : MI σ) : os_Met l y_Model_thrown prog_9_method_2_code 1 (some .int) { frames := 0, cells := 0, slots := 0, locals := 0 } D cA bs [.ref (ad 13 0)] σ ad (pv σ ad (some (.int (os_g σ 13 0 0)))) := by
  refine os_ofW (by decide) ?_
  intro p e s m below meth c hx hb hr hml hown hlocks hmn hout hE hV
  have hts := hE.hts (args := ([.ref (ad 13 0)] : List Value).toArray)
  have hK := hE.2.1
  have hbs := hE.2.2.1
  have hown : s.vm.findClass "RobotFaultsModel" = some m.cls := hown
  have hl := lv_entry ([.ref (ad 13 0)]) (n := 1) (Nat.le_of_ble_eq_true rfl)
  rw [lg_entry_eq]
  generalize (lg_sl ([.ref (ad 13 0)]) ++ List.replicate (1 - (lg_sl ([.ref (ad 13 0)])).length) Slot.unset).toArray = ls at hl ⊢
  have hl : lv_has ls 1 [(0, .ref (ad 13 0))] := hl
  refine lv_aload_n hx hb d_Model_thrown_0 rfl (lv_at hl 0 rfl) ?_
  refine os_get (C := "RobotFaultsModel") (T := F_Model) (N := 38) (ci := 7) (K := 13) (j := 0) (i := 0) (v := .int (os_g σ 13 0 0)) hx hb hts i_Model hown hK hV rfl rfl (by decide) (hM.1.n 13 (by decide) (by decide)) (hts _ k_725) rfl d_Model_thrown_1 ?_
  refine os_iret hx hb hr hlocks hV (Nat.le_of_ble_eq_true rfl) (Nat.le_of_ble_eq_true rfl) d_Model_thrown_4 ?_
  exact ⟨rfl, rfl, rfl⟩
/-- what Model_piece does, road by road -/
def m_piece (σ : os_S) (ad : Nat → Nat → Nat)  : os_O → os_S → (Nat → Nat → Nat) → Prop := fun r σ' ad' => ad = ad' ∧ (((¬ (os_g σ 13 2 0) = 20) ∧ os_sg (os_sg σ 13 0 0 0) 13 2 0 ((os_g σ 13 2 0) + 1) = σ' ∧ r = .inl (some (.int (((os_g σ 13 2 0) + 1) - 1)))) ∨ (((os_g σ 13 2 0) = 20) ∧ os_sg σ 13 0 0 1 = σ' ∧ r = .inl (some (.int 0))))
set_option maxHeartbeats 4000000 in
set_option maxRecDepth 100000 in
theorem c_Model_piece (l : Launch) (hlt : l.stackTraces = false) (D : va_G) (cA : Nat → ClassId) (bs : Nat) (σ : os_S) (ad : Nat → Nat → Nat) (hM : MI σ) : os_Met l y_Model_piece prog_9_method_9_code 1 (some .int) { frames := 0, cells := 0, slots := 0, locals := 0 } D cA bs [.ref (ad 13 0)] σ ad (m_piece σ ad ) := by
  refine os_ofW (by decide) ?_
  intro p e s m below meth c hx hb hr hml hown hlocks hmn hout hE hV
  have hts := hE.hts (args := ([.ref (ad 13 0)] : List Value).toArray)
  have hK := hE.2.1
  have hbs := hE.2.2.1
  have hown : s.vm.findClass "RobotFaultsModel" = some m.cls := hown
  have hl := lv_entry ([.ref (ad 13 0)]) (n := 1) (Nat.le_of_ble_eq_true rfl)
  rw [lg_entry_eq]
  generalize (lg_sl ([.ref (ad 13 0)]) ++ List.replicate (1 - (lg_sl ([.ref (ad 13 0)])).length) Slot.unset).toArray = ls at hl ⊢
  have hl : lv_has ls 1 [(0, .ref (ad 13 0))] := hl
  refine lv_aload_n hx hb d_Model_piece_0 rfl (lv_at hl 0 rfl) ?_
  refine lv_aload_n hx hb d_Model_piece_1 rfl (lv_at hl 0 rfl) ?_
  refine os_get (C := "RobotFaultsModel") (T := F_Model) (N := 38) (ci := 7) (K := 13) (j := 2) (i := 0) (v := .int (os_g σ 13 2 0)) hx hb hts i_Model hown hK hV rfl rfl (by decide) (hM.1.n 13 (by decide) (by decide)) (hts _ k_727) rfl d_Model_piece_2 ?_
  refine lv_bipush (v := 20) hx hb d_Model_piece_5 (by decide) ?_
  refine lv_icmp_ne (tgt := 14) hx hb d_Model_piece_7 (by decide) (fun c_1 => ?_) (fun c_1 => ?_)
  · skip
    refine lv_iconst (v := 0) hx hb d_Model_piece_14 (by decide) ?_
    refine os_putI (C := "RobotFaultsModel") (T := F_Model) (N := 38) (ci := 7) (K := 13) (j := 0) (i := 0) (v := 0) (ty := .int) hx hb hts i_Model t_Model t_Model_ok n_Model hown hK hV rfl rfl (by decide) (hM.1.n 13 (by decide) (by decide)) (hts _ k_725) rfl rfl rfl (by decide +kernel) rfl rfl d_Model_piece_15 (fun H locs hV => ?_)
    refine lv_aload_n hx hb d_Model_piece_18 rfl (lv_at hl 0 rfl) ?_
    refine os_get (C := "RobotFaultsModel") (T := F_Model) (N := 38) (ci := 7) (K := 13) (j := 0) (i := 0) (v := .int 0) hx hb hts i_Model hown hK hV rfl rfl (by decide) (hM.1.n 13 (by decide) (by decide)) (hts _ k_725) (os_fv_sgs (σ := σ) (ad := ad) (K := 13) (j := 0) (i := 0) (v := 0) rfl rfl) d_Model_piece_19 ?_
    refine lv_if_le (tgt := 27) hx hb d_Model_piece_22 (by decide) (fun c_2 => ?_) (fun c_2 => ?_)
    · skip
      refine lv_aload_n hx hb d_Model_piece_27 rfl (lv_at hl 0 rfl) ?_
      refine lv_dup hx hb d_Model_piece_28 rfl ?_
      refine os_get (C := "RobotFaultsModel") (T := F_Model) (N := 38) (ci := 7) (K := 13) (j := 2) (i := 0) (v := .int (os_g σ 13 2 0)) hx hb hts i_Model hown hK hV rfl rfl (by decide) (hM.1.n 13 (by decide) (by decide)) (hts _ k_727) rfl d_Model_piece_29 ?_
      refine lv_iconst (v := 1) hx hb d_Model_piece_32 (by decide) ?_
      refine lv_iadd hx hb d_Model_piece_33 ?_
      refine os_putI (C := "RobotFaultsModel") (T := F_Model) (N := 38) (ci := 7) (K := 13) (j := 2) (i := 0) (v := (os_g σ 13 2 0) + 1) (ty := .int) hx hb hts i_Model t_Model t_Model_ok n_Model hown hK hV rfl rfl (by decide) (hM.1.n 13 (by decide) (by decide)) (hts _ k_727) rfl rfl rfl (by decide +kernel) rfl rfl d_Model_piece_34 (fun H locs hV => ?_)
      refine lv_aload_n hx hb d_Model_piece_37 rfl (lv_at hl 0 rfl) ?_
      refine os_get (C := "RobotFaultsModel") (T := F_Model) (N := 38) (ci := 7) (K := 13) (j := 2) (i := 0) (v := .int ((os_g σ 13 2 0) + 1)) hx hb hts i_Model hown hK hV rfl rfl (by decide) (hM.1.n 13 (by decide) (by decide)) (hts _ k_727) (os_fv_sgs (σ := os_sg σ 13 0 0 0) (ad := ad) (K := 13) (j := 2) (i := 0) (v := (os_g σ 13 2 0) + 1) rfl rfl) d_Model_piece_38 ?_
      refine lv_iconst (v := 1) hx hb d_Model_piece_41 (by decide) ?_
      refine lv_isub hx hb d_Model_piece_42 ?_
      refine os_iret hx hb hr hlocks hV (Nat.le_of_ble_eq_true rfl) (Nat.le_of_ble_eq_true rfl) d_Model_piece_43 ?_
      exact ⟨rfl, Or.inl (⟨c_1, rfl, rfl⟩)⟩
    · exact absurd (by decide) c_2
  · skip
    refine lv_iconst (v := 1) hx hb d_Model_piece_10 (by decide) ?_
    refine lv_goto (tgt := 15) hx hb d_Model_piece_11 (by decide) ?_
    refine os_putI (C := "RobotFaultsModel") (T := F_Model) (N := 38) (ci := 7) (K := 13) (j := 0) (i := 0) (v := 1) (ty := .int) hx hb hts i_Model t_Model t_Model_ok n_Model hown hK hV rfl rfl (by decide) (hM.1.n 13 (by decide) (by decide)) (hts _ k_725) rfl rfl rfl (by decide +kernel) rfl rfl d_Model_piece_15 (fun H locs hV => ?_)
    refine lv_aload_n hx hb d_Model_piece_18 rfl (lv_at hl 0 rfl) ?_
    refine os_get (C := "RobotFaultsModel") (T := F_Model) (N := 38) (ci := 7) (K := 13) (j := 0) (i := 0) (v := .int 1) hx hb hts i_Model hown hK hV rfl rfl (by decide) (hM.1.n 13 (by decide) (by decide)) (hts _ k_725) (os_fv_sgs (σ := σ) (ad := ad) (K := 13) (j := 0) (i := 0) (v := 1) rfl rfl) d_Model_piece_19 ?_
    refine lv_if_le (tgt := 27) hx hb d_Model_piece_22 (by decide) (fun c_3 => ?_) (fun c_3 => ?_)
    · exact absurd c_3 (by decide)
    · skip
      refine lv_iconst (v := 0) hx hb d_Model_piece_25 (by decide) ?_
      refine os_iret hx hb hr hlocks hV (Nat.le_of_ble_eq_true rfl) (Nat.le_of_ble_eq_true rfl) d_Model_piece_26 ?_
      exact ⟨rfl, Or.inr (⟨c_1, rfl, rfl⟩)⟩
theorem ix20 {x y : Int32} {a b : Nat} (hx : x = nI a) (hy : y = nI b) : 20 * x + y = nI (20 * a + b) := by
  subst hx; subst hy
  rw [show (20 : Int32) = nI 20 from rfl, show nI 20 * nI a = nI (20 * a) from (Int32.ofNat_mul 20 a).symm, nI_add]
/-- what Model_link does, road by road -/
def m_link (σ : os_S) (ad : Nat → Nat → Nat) (x y : Int32) : os_O → os_S → (Nat → Nat → Nat) → Prop := fun r σ' ad' => ad = ad' ∧ ((((bz (inF x 0 (os_g σ 13 2 0 - 1))) = 0) ∧ os_sg σ 13 0 0 1 = σ' ∧ r = .inl none) ∨ ((¬ ((bz (inF x 0 (os_g σ 13 2 0 - 1))) = 0)) ∧ (¬ (bz (inF y 0 (os_g σ 13 2 0 - 1))) = 0) ∧ (¬ x = y) ∧ os_sg (os_sg (os_sg σ 13 0 0 0) 14 (20 * (iN x) + (iN y)) 0 1) 14 (20 * (iN y) + (iN x)) 0 1 = σ' ∧ r = .inl none) ∨ ((¬ ((bz (inF x 0 (os_g σ 13 2 0 - 1))) = 0)) ∧ (¬ (bz (inF y 0 (os_g σ 13 2 0 - 1))) = 0) ∧ (x = y) ∧ os_sg σ 13 0 0 2 = σ' ∧ r = .inl none) ∨ ((¬ ((bz (inF x 0 (os_g σ 13 2 0 - 1))) = 0)) ∧ ((bz (inF y 0 (os_g σ 13 2 0 - 1))) = 0) ∧ os_sg σ 13 0 0 1 = σ' ∧ r = .inl none))
set_option maxHeartbeats 4000000 in
set_option maxRecDepth 100000 in
theorem c_Model_link (l : Launch) (hlt : l.stackTraces = false) (D : va_G) (cA : Nat → ClassId) (bs : Nat) (σ : os_S) (ad : Nat → Nat → Nat) (x y : Int32) (hM : MI σ) : os_Met l y_Model_link prog_9_method_10_code 3 none { frames := 2, cells := 0, slots := 0, locals := 43 } D cA bs [.ref (ad 13 0), .int x, .int y] σ ad (m_link σ ad x y) := by
  refine os_ofW (by decide) ?_
  intro p e s m below meth c hx hb hr hml hown hlocks hmn hout hE hV
  have hts := hE.hts (args := ([.ref (ad 13 0), .int x, .int y] : List Value).toArray)
  have hK := hE.2.1
  have hbs := hE.2.2.1
  have hown : s.vm.findClass "RobotFaultsModel" = some m.cls := hown
  have hl := lv_entry ([.ref (ad 13 0), .int x, .int y]) (n := 3) (Nat.le_of_ble_eq_true rfl)
  rw [lg_entry_eq]
  generalize (lg_sl ([.ref (ad 13 0), .int x, .int y]) ++ List.replicate (3 - (lg_sl ([.ref (ad 13 0), .int x, .int y])).length) Slot.unset).toArray = ls at hl ⊢
  have hl : lv_has ls 3 [(0, .ref (ad 13 0)), (1, .int x), (2, .int y)] := hl
  refine lv_aload_n hx hb d_Model_link_0 rfl (lv_at hl 0 rfl) ?_
  refine lv_aload_n hx hb d_Model_link_1 rfl (lv_at hl 0 rfl) ?_
  refine lv_iload_n hx hb d_Model_link_2 rfl (lv_at hl 1 rfl) ?_
  refine os_call (c_Model_isPiece l hlt D cA bs σ ad x hM) hE hV k_856 k_4 (os_inV (C := "RobotFaultsModel") (n := 1) (bytes := prog_9_method_4_code) (maxL := 2) (ret := (some .boolean)) hx hb hown (hts _ k_853) (hts _ k_855) (hts _ k_s21) (hts _ k_856) (by decide +kernel) rfl (os_recv hK hV rfl rfl (hM.1.n 13 (by decide) (by decide))) rfl d_Model_link_3) (hl.1.trans hml.symm) (Nat.le_of_ble_eq_true rfl) (Nat.le_of_ble_eq_true rfl) (Nat.le_of_ble_eq_true rfl) (Nat.le_of_ble_eq_true rfl) (Nat.le_of_ble_eq_true rfl) (fun v σ1 ad1 H locs hp hext hV => ?_) (fun E q ce σ1 ad1 H locs hp hext hV hce hcv hcl => ?_)
  · obtain ⟨rfl, rfl, hp⟩ := hp
    cases hp
    refine W.eq (g2 := F0 m 6 ls [.int (bz (inF x 0 (os_g σ 13 2 0 - 1))), .ref (ad 13 0)]) rfl ?_
    refine lv_if_eq (tgt := 17) hx hb d_Model_link_6 (by decide) (fun c_1 => ?_) (fun c_1 => ?_)
    · skip
      refine lv_iconst (v := 1) hx hb d_Model_link_17 (by decide) ?_
      refine lv_goto (tgt := 31) hx hb d_Model_link_18 (by decide) ?_
      refine os_putI (C := "RobotFaultsModel") (T := F_Model) (N := 38) (ci := 7) (K := 13) (j := 0) (i := 0) (v := 1) (ty := .int) hx hb hts i_Model t_Model t_Model_ok n_Model hown hK hV rfl rfl (by decide) (hM.1.n 13 (by decide) (by decide)) (hts _ k_725) rfl rfl rfl (by decide +kernel) rfl rfl d_Model_link_31 (fun H locs hV => ?_)
      refine lv_aload_n hx hb d_Model_link_34 rfl (lv_at hl 0 rfl) ?_
      refine os_get (C := "RobotFaultsModel") (T := F_Model) (N := 38) (ci := 7) (K := 13) (j := 0) (i := 0) (v := .int 1) hx hb hts i_Model hown hK hV rfl rfl (by decide) (hM.1.n 13 (by decide) (by decide)) (hts _ k_725) (os_fv_sgs (σ := σ) (ad := ad) (K := 13) (j := 0) (i := 0) (v := 1) rfl rfl) d_Model_link_35 ?_
      refine lv_if_le (tgt := 42) hx hb d_Model_link_38 (by decide) (fun c_2 => ?_) (fun c_2 => ?_)
      · exact absurd c_2 (by decide)
      · skip
        refine os_vret hx hb hr hlocks hV (Nat.le_of_ble_eq_true rfl) (Nat.le_of_ble_eq_true rfl) d_Model_link_41 ?_
        exact ⟨rfl, Or.inl (⟨c_1, rfl, rfl⟩)⟩
    · skip
      refine lv_aload_n hx hb d_Model_link_9 rfl (lv_at hl 0 rfl) ?_
      refine lv_iload_n hx hb d_Model_link_10 rfl (lv_at hl 2 rfl) ?_
      refine os_call (c_Model_isPiece l hlt D cA bs σ ad y hM) hE hV k_856 k_4 (os_inV (C := "RobotFaultsModel") (n := 1) (bytes := prog_9_method_4_code) (maxL := 2) (ret := (some .boolean)) hx hb hown (hts _ k_853) (hts _ k_855) (hts _ k_s21) (hts _ k_856) (by decide +kernel) rfl (os_recv hK hV rfl rfl (hM.1.n 13 (by decide) (by decide))) rfl d_Model_link_11) (hl.1.trans hml.symm) (Nat.le_of_ble_eq_true rfl) (Nat.le_of_ble_eq_true rfl) (Nat.le_of_ble_eq_true rfl) (Nat.le_of_ble_eq_true rfl) (Nat.le_of_ble_eq_true rfl) (fun v σ1 ad1 H locs hp hext hV => ?_) (fun E q ce σ1 ad1 H locs hp hext hV hce hcv hcl => ?_)
      · obtain ⟨rfl, rfl, hp⟩ := hp
        cases hp
        refine W.eq (g2 := F0 m 14 ls [.int (bz (inF y 0 (os_g σ 13 2 0 - 1))), .ref (ad 13 0)]) rfl ?_
        refine lv_if_ne (tgt := 21) hx hb d_Model_link_14 (by decide) (fun c_3 => ?_) (fun c_3 => ?_)
        · skip
          refine lv_iload_n hx hb d_Model_link_21 rfl (lv_at hl 1 rfl) ?_
          refine lv_iload_n hx hb d_Model_link_22 rfl (lv_at hl 2 rfl) ?_
          refine lv_icmp_ne (tgt := 30) hx hb d_Model_link_23 (by decide) (fun c_4 => ?_) (fun c_4 => ?_)
          · skip
            refine lv_iconst (v := 0) hx hb d_Model_link_30 (by decide) ?_
            refine os_putI (C := "RobotFaultsModel") (T := F_Model) (N := 38) (ci := 7) (K := 13) (j := 0) (i := 0) (v := 0) (ty := .int) hx hb hts i_Model t_Model t_Model_ok n_Model hown hK hV rfl rfl (by decide) (hM.1.n 13 (by decide) (by decide)) (hts _ k_725) rfl rfl rfl (by decide +kernel) rfl rfl d_Model_link_31 (fun H locs hV => ?_)
            refine lv_aload_n hx hb d_Model_link_34 rfl (lv_at hl 0 rfl) ?_
            refine os_get (C := "RobotFaultsModel") (T := F_Model) (N := 38) (ci := 7) (K := 13) (j := 0) (i := 0) (v := .int 0) hx hb hts i_Model hown hK hV rfl rfl (by decide) (hM.1.n 13 (by decide) (by decide)) (hts _ k_725) (os_fv_sgs (σ := σ) (ad := ad) (K := 13) (j := 0) (i := 0) (v := 0) rfl rfl) d_Model_link_35 ?_
            refine lv_if_le (tgt := 42) hx hb d_Model_link_38 (by decide) (fun c_5 => ?_) (fun c_5 => ?_)
            · skip
              refine lv_aload_n hx hb d_Model_link_42 rfl (lv_at hl 0 rfl) ?_
              refine os_get (C := "RobotFaultsModel") (T := F_Model) (N := 38) (ci := 7) (K := 13) (j := 3) (i := 0) (v := .ref (ad 14 0)) hx hb hts i_Model hown hK hV rfl rfl (by decide) (hM.1.n 13 (by decide) (by decide)) (hts _ k_728) (congrArg (fun z => va_rf (Option.map (ad 14) z)) (hM.1.2.1 3 (by decide) (by decide))) d_Model_link_43 ?_
              refine lv_bipush (v := 20) hx hb d_Model_link_46 (by decide) ?_
              refine lv_iload_n hx hb d_Model_link_48 rfl (lv_at hl 1 rfl) ?_
              refine lv_imul hx hb d_Model_link_49 ?_
              refine lv_iload_n hx hb d_Model_link_50 rfl (lv_at hl 2 rfl) ?_
              refine lv_iadd hx hb d_Model_link_51 ?_
              refine lv_iconst (v := 1) hx hb d_Model_link_52 (by decide) ?_
              refine os_zastN (K := 14) (i := 0) (t0 := 1) (n := (20 * (iN x) + (iN y))) hx hb hK hV rfl rfl rfl (hM.1.n 14 (by decide) (by decide)) (ix20 (inF.ix (σ := σ) (bz_1 c_1) hM.2.1).1 (inF.ix (σ := σ) (bz_1 c_3) hM.2.1).1) (by rw [show os_l (os_sg σ 13 0 0 0) 14 0 = 400 from hM.1.2.2 14 (by decide) (by decide)]; have h9 := (show iN x < 20 ∧ iN y < 20 from ⟨by have h8 := (Nat.lt_of_lt_of_le (inF.ix (σ := σ) (bz_1 c_1) hM.2.1).2 hM.2.1.2); omega, by have h8 := (Nat.lt_of_lt_of_le (inF.ix (σ := σ) (bz_1 c_3) hM.2.1).2 hM.2.1.2); omega⟩); omega) (by rw [show os_l (os_sg σ 13 0 0 0) 14 0 = 400 from hM.1.2.2 14 (by decide) (by decide)]; decide) rfl d_Model_link_53 (fun H locs hV => ?_)
              refine lv_aload_n hx hb d_Model_link_54 rfl (lv_at hl 0 rfl) ?_
              refine os_get (C := "RobotFaultsModel") (T := F_Model) (N := 38) (ci := 7) (K := 13) (j := 3) (i := 0) (v := .ref (ad 14 0)) hx hb hts i_Model hown hK hV rfl rfl (by decide) (hM.1.n 13 (by decide) (by decide)) (hts _ k_728) (congrArg (fun z => va_rf (Option.map (ad 14) z)) (hM.1.2.1 3 (by decide) (by decide))) d_Model_link_55 ?_
              refine lv_bipush (v := 20) hx hb d_Model_link_58 (by decide) ?_
              refine lv_iload_n hx hb d_Model_link_60 rfl (lv_at hl 2 rfl) ?_
              refine lv_imul hx hb d_Model_link_61 ?_
              refine lv_iload_n hx hb d_Model_link_62 rfl (lv_at hl 1 rfl) ?_
              refine lv_iadd hx hb d_Model_link_63 ?_
              refine lv_iconst (v := 1) hx hb d_Model_link_64 (by decide) ?_
              refine os_zastN (K := 14) (i := 0) (t0 := 1) (n := (20 * (iN y) + (iN x))) hx hb hK hV rfl rfl rfl (hM.1.n 14 (by decide) (by decide)) (ix20 (inF.ix (σ := σ) (bz_1 c_3) hM.2.1).1 (inF.ix (σ := σ) (bz_1 c_1) hM.2.1).1) (by rw [show os_l (os_sg (os_sg σ 13 0 0 0) 14 (20 * (iN x) + (iN y)) 0 1) 14 0 = 400 from hM.1.2.2 14 (by decide) (by decide)]; have h9 := (show iN y < 20 ∧ iN x < 20 from ⟨by have h8 := (Nat.lt_of_lt_of_le (inF.ix (σ := σ) (bz_1 c_3) hM.2.1).2 hM.2.1.2); omega, by have h8 := (Nat.lt_of_lt_of_le (inF.ix (σ := σ) (bz_1 c_1) hM.2.1).2 hM.2.1.2); omega⟩); omega) (by rw [show os_l (os_sg (os_sg σ 13 0 0 0) 14 (20 * (iN x) + (iN y)) 0 1) 14 0 = 400 from hM.1.2.2 14 (by decide) (by decide)]; decide) rfl d_Model_link_65 (fun H locs hV => ?_)
              refine os_vret hx hb hr hlocks hV (Nat.le_of_ble_eq_true rfl) (Nat.le_of_ble_eq_true rfl) d_Model_link_66 ?_
              exact ⟨rfl, Or.inr (Or.inl (⟨c_1, c_3, c_4, rfl, rfl⟩))⟩
            · exact absurd (by decide) c_5
          · skip
            refine lv_iconst (v := 2) hx hb d_Model_link_26 (by decide) ?_
            refine lv_goto (tgt := 31) hx hb d_Model_link_27 (by decide) ?_
            refine os_putI (C := "RobotFaultsModel") (T := F_Model) (N := 38) (ci := 7) (K := 13) (j := 0) (i := 0) (v := 2) (ty := .int) hx hb hts i_Model t_Model t_Model_ok n_Model hown hK hV rfl rfl (by decide) (hM.1.n 13 (by decide) (by decide)) (hts _ k_725) rfl rfl rfl (by decide +kernel) rfl rfl d_Model_link_31 (fun H locs hV => ?_)
            refine lv_aload_n hx hb d_Model_link_34 rfl (lv_at hl 0 rfl) ?_
            refine os_get (C := "RobotFaultsModel") (T := F_Model) (N := 38) (ci := 7) (K := 13) (j := 0) (i := 0) (v := .int 2) hx hb hts i_Model hown hK hV rfl rfl (by decide) (hM.1.n 13 (by decide) (by decide)) (hts _ k_725) (os_fv_sgs (σ := σ) (ad := ad) (K := 13) (j := 0) (i := 0) (v := 2) rfl rfl) d_Model_link_35 ?_
            refine lv_if_le (tgt := 42) hx hb d_Model_link_38 (by decide) (fun c_6 => ?_) (fun c_6 => ?_)
            · exact absurd c_6 (by decide)
            · skip
              refine os_vret hx hb hr hlocks hV (Nat.le_of_ble_eq_true rfl) (Nat.le_of_ble_eq_true rfl) d_Model_link_41 ?_
              exact ⟨rfl, Or.inr (Or.inr (Or.inl (⟨c_1, c_3, c_4, rfl, rfl⟩)))⟩
        · skip
          refine lv_iconst (v := 1) hx hb d_Model_link_17 (by decide) ?_
          refine lv_goto (tgt := 31) hx hb d_Model_link_18 (by decide) ?_
          refine os_putI (C := "RobotFaultsModel") (T := F_Model) (N := 38) (ci := 7) (K := 13) (j := 0) (i := 0) (v := 1) (ty := .int) hx hb hts i_Model t_Model t_Model_ok n_Model hown hK hV rfl rfl (by decide) (hM.1.n 13 (by decide) (by decide)) (hts _ k_725) rfl rfl rfl (by decide +kernel) rfl rfl d_Model_link_31 (fun H locs hV => ?_)
          refine lv_aload_n hx hb d_Model_link_34 rfl (lv_at hl 0 rfl) ?_
          refine os_get (C := "RobotFaultsModel") (T := F_Model) (N := 38) (ci := 7) (K := 13) (j := 0) (i := 0) (v := .int 1) hx hb hts i_Model hown hK hV rfl rfl (by decide) (hM.1.n 13 (by decide) (by decide)) (hts _ k_725) (os_fv_sgs (σ := σ) (ad := ad) (K := 13) (j := 0) (i := 0) (v := 1) rfl rfl) d_Model_link_35 ?_
          refine lv_if_le (tgt := 42) hx hb d_Model_link_38 (by decide) (fun c_7 => ?_) (fun c_7 => ?_)
          · exact absurd c_7 (by decide)
          · skip
            refine os_vret hx hb hr hlocks hV (Nat.le_of_ble_eq_true rfl) (Nat.le_of_ble_eq_true rfl) d_Model_link_41 ?_
            exact ⟨rfl, Or.inr (Or.inr (Or.inr (⟨c_1, c_3, rfl, rfl⟩)))⟩
      · exact absurd hp.2.2 (fun h => by cases h)
  · exact absurd hp.2.2 (fun h => by cases h)
/-- what Model_robot does, road by road -/
def m_robot (σ : os_S) (ad : Nat → Nat → Nat) (x : Int32) : os_O → os_S → (Nat → Nat → Nat) → Prop := fun r σ' ad' => ad = ad' ∧ (((¬ (bz (inF x 0 (os_g σ 13 2 0 - 1))) = 0) ∧ (¬ (os_g σ 13 4 0) = 8) ∧ os_sg (os_sg (os_sg (os_sg σ 13 0 0 0) 15 (iN (os_g σ 13 4 0)) 0 x) 16 (iN (os_g σ 13 4 0)) 0 (-1)) 13 4 0 ((os_g σ 13 4 0) + 1) = σ' ∧ r = .inl (some (.int (((os_g σ 13 4 0) + 1) - 1)))) ∨ ((¬ (bz (inF x 0 (os_g σ 13 2 0 - 1))) = 0) ∧ ((os_g σ 13 4 0) = 8) ∧ os_sg σ 13 0 0 2 = σ' ∧ r = .inl (some (.int 0))) ∨ (((bz (inF x 0 (os_g σ 13 2 0 - 1))) = 0) ∧ os_sg σ 13 0 0 1 = σ' ∧ r = .inl (some (.int 0))))
set_option maxHeartbeats 4000000 in
set_option maxRecDepth 100000 in
theorem c_Model_robot (l : Launch) (hlt : l.stackTraces = false) (D : va_G) (cA : Nat → ClassId) (bs : Nat) (σ : os_S) (ad : Nat → Nat → Nat) (x : Int32) (hM : MI σ) : os_Met l y_Model_robot prog_9_method_11_code 2 (some .int) { frames := 2, cells := 0, slots := 0, locals := 43 } D cA bs [.ref (ad 13 0), .int x] σ ad (m_robot σ ad x) := by
  refine os_ofW (by decide) ?_
  intro p e s m below meth c hx hb hr hml hown hlocks hmn hout hE hV
  have hts := hE.hts (args := ([.ref (ad 13 0), .int x] : List Value).toArray)
  have hK := hE.2.1
  have hbs := hE.2.2.1
  have hown : s.vm.findClass "RobotFaultsModel" = some m.cls := hown
  have hl := lv_entry ([.ref (ad 13 0), .int x]) (n := 2) (Nat.le_of_ble_eq_true rfl)
  rw [lg_entry_eq]
  generalize (lg_sl ([.ref (ad 13 0), .int x]) ++ List.replicate (2 - (lg_sl ([.ref (ad 13 0), .int x])).length) Slot.unset).toArray = ls at hl ⊢
  have hl : lv_has ls 2 [(0, .ref (ad 13 0)), (1, .int x)] := hl
  refine lv_aload_n hx hb d_Model_robot_0 rfl (lv_at hl 0 rfl) ?_
  refine lv_aload_n hx hb d_Model_robot_1 rfl (lv_at hl 0 rfl) ?_
  refine lv_iload_n hx hb d_Model_robot_2 rfl (lv_at hl 1 rfl) ?_
  refine os_call (c_Model_isPiece l hlt D cA bs σ ad x hM) hE hV k_856 k_4 (os_inV (C := "RobotFaultsModel") (n := 1) (bytes := prog_9_method_4_code) (maxL := 2) (ret := (some .boolean)) hx hb hown (hts _ k_853) (hts _ k_855) (hts _ k_s21) (hts _ k_856) (by decide +kernel) rfl (os_recv hK hV rfl rfl (hM.1.n 13 (by decide) (by decide))) rfl d_Model_robot_3) (hl.1.trans hml.symm) (Nat.le_of_ble_eq_true rfl) (Nat.le_of_ble_eq_true rfl) (Nat.le_of_ble_eq_true rfl) (Nat.le_of_ble_eq_true rfl) (Nat.le_of_ble_eq_true rfl) (fun v σ1 ad1 H locs hp hext hV => ?_) (fun E q ce σ1 ad1 H locs hp hext hV hce hcv hcl => ?_)
  · obtain ⟨rfl, rfl, hp⟩ := hp
    cases hp
    refine W.eq (g2 := F0 m 6 ls [.int (bz (inF x 0 (os_g σ 13 2 0 - 1))), .ref (ad 13 0)]) rfl ?_
    refine lv_if_ne (tgt := 13) hx hb d_Model_robot_6 (by decide) (fun c_1 => ?_) (fun c_1 => ?_)
    · skip
      refine lv_aload_n hx hb d_Model_robot_13 rfl (lv_at hl 0 rfl) ?_
      refine os_get (C := "RobotFaultsModel") (T := F_Model) (N := 38) (ci := 7) (K := 13) (j := 4) (i := 0) (v := .int (os_g σ 13 4 0)) hx hb hts i_Model hown hK hV rfl rfl (by decide) (hM.1.n 13 (by decide) (by decide)) (hts _ k_729) rfl d_Model_robot_14 ?_
      refine lv_bipush (v := 8) hx hb d_Model_robot_17 (by decide) ?_
      refine lv_icmp_ne (tgt := 26) hx hb d_Model_robot_19 (by decide) (fun c_2 => ?_) (fun c_2 => ?_)
      · skip
        refine lv_iconst (v := 0) hx hb d_Model_robot_26 (by decide) ?_
        refine os_putI (C := "RobotFaultsModel") (T := F_Model) (N := 38) (ci := 7) (K := 13) (j := 0) (i := 0) (v := 0) (ty := .int) hx hb hts i_Model t_Model t_Model_ok n_Model hown hK hV rfl rfl (by decide) (hM.1.n 13 (by decide) (by decide)) (hts _ k_725) rfl rfl rfl (by decide +kernel) rfl rfl d_Model_robot_27 (fun H locs hV => ?_)
        refine lv_aload_n hx hb d_Model_robot_30 rfl (lv_at hl 0 rfl) ?_
        refine os_get (C := "RobotFaultsModel") (T := F_Model) (N := 38) (ci := 7) (K := 13) (j := 0) (i := 0) (v := .int 0) hx hb hts i_Model hown hK hV rfl rfl (by decide) (hM.1.n 13 (by decide) (by decide)) (hts _ k_725) (os_fv_sgs (σ := σ) (ad := ad) (K := 13) (j := 0) (i := 0) (v := 0) rfl rfl) d_Model_robot_31 ?_
        refine lv_if_le (tgt := 39) hx hb d_Model_robot_34 (by decide) (fun c_3 => ?_) (fun c_3 => ?_)
        · skip
          have hr9 : iN (os_g σ 13 4 0) < 8 := Nat.lt_of_le_of_ne hM.2.2.1.2 (fun q => c_2 (by rw [hM.2.2.1.1, q]; rfl))
          refine lv_aload_n hx hb d_Model_robot_39 rfl (lv_at hl 0 rfl) ?_
          refine os_get (C := "RobotFaultsModel") (T := F_Model) (N := 38) (ci := 7) (K := 13) (j := 5) (i := 0) (v := .ref (ad 15 0)) hx hb hts i_Model hown hK hV rfl rfl (by decide) (hM.1.n 13 (by decide) (by decide)) (hts _ k_730) (congrArg (fun z => va_rf (Option.map (ad 15) z)) (hM.1.2.1 5 (by decide) (by decide))) d_Model_robot_40 ?_
          refine lv_aload_n hx hb d_Model_robot_43 rfl (lv_at hl 0 rfl) ?_
          refine os_get (C := "RobotFaultsModel") (T := F_Model) (N := 38) (ci := 7) (K := 13) (j := 4) (i := 0) (v := .int (os_g σ 13 4 0)) hx hb hts i_Model hown hK hV rfl rfl (by decide) (hM.1.n 13 (by decide) (by decide)) (hts _ k_729) rfl d_Model_robot_44 ?_
          refine lv_iload_n hx hb d_Model_robot_47 rfl (lv_at hl 1 rfl) ?_
          refine os_iastN (K := 15) (i := 0) (t0 := 0) (n := (iN (os_g σ 13 4 0))) hx hb hK hV rfl rfl rfl (hM.1.n 15 (by decide) (by decide)) hM.2.2.1.1 (by rw [show os_l (os_sg σ 13 0 0 0) 15 0 = 8 from hM.1.2.2 15 (by decide) (by decide)]; have h9 := hr9; omega) (by rw [show os_l (os_sg σ 13 0 0 0) 15 0 = 8 from hM.1.2.2 15 (by decide) (by decide)]; decide) d_Model_robot_48 (fun H locs hV => ?_)
          refine lv_aload_n hx hb d_Model_robot_49 rfl (lv_at hl 0 rfl) ?_
          refine os_get (C := "RobotFaultsModel") (T := F_Model) (N := 38) (ci := 7) (K := 13) (j := 6) (i := 0) (v := .ref (ad 16 0)) hx hb hts i_Model hown hK hV rfl rfl (by decide) (hM.1.n 13 (by decide) (by decide)) (hts _ k_731) (congrArg (fun z => va_rf (Option.map (ad 16) z)) (hM.1.2.1 6 (by decide) (by decide))) d_Model_robot_50 ?_
          refine lv_aload_n hx hb d_Model_robot_53 rfl (lv_at hl 0 rfl) ?_
          refine os_get (C := "RobotFaultsModel") (T := F_Model) (N := 38) (ci := 7) (K := 13) (j := 4) (i := 0) (v := .int (os_g σ 13 4 0)) hx hb hts i_Model hown hK hV rfl rfl (by decide) (hM.1.n 13 (by decide) (by decide)) (hts _ k_729) rfl d_Model_robot_54 ?_
          refine lv_iconst (v := (-1)) hx hb d_Model_robot_57 (by decide) ?_
          refine os_iastN (K := 16) (i := 0) (t0 := 0) (n := (iN (os_g σ 13 4 0))) hx hb hK hV rfl rfl rfl (hM.1.n 16 (by decide) (by decide)) hM.2.2.1.1 (by rw [show os_l (os_sg (os_sg σ 13 0 0 0) 15 (iN (os_g σ 13 4 0)) 0 x) 16 0 = 8 from hM.1.2.2 16 (by decide) (by decide)]; have h9 := hr9; omega) (by rw [show os_l (os_sg (os_sg σ 13 0 0 0) 15 (iN (os_g σ 13 4 0)) 0 x) 16 0 = 8 from hM.1.2.2 16 (by decide) (by decide)]; decide) d_Model_robot_58 (fun H locs hV => ?_)
          refine lv_aload_n hx hb d_Model_robot_59 rfl (lv_at hl 0 rfl) ?_
          refine lv_dup hx hb d_Model_robot_60 rfl ?_
          refine os_get (C := "RobotFaultsModel") (T := F_Model) (N := 38) (ci := 7) (K := 13) (j := 4) (i := 0) (v := .int (os_g σ 13 4 0)) hx hb hts i_Model hown hK hV rfl rfl (by decide) (hM.1.n 13 (by decide) (by decide)) (hts _ k_729) rfl d_Model_robot_61 ?_
          refine lv_iconst (v := 1) hx hb d_Model_robot_64 (by decide) ?_
          refine lv_iadd hx hb d_Model_robot_65 ?_
          refine os_putI (C := "RobotFaultsModel") (T := F_Model) (N := 38) (ci := 7) (K := 13) (j := 4) (i := 0) (v := (os_g σ 13 4 0) + 1) (ty := .int) hx hb hts i_Model t_Model t_Model_ok n_Model hown hK hV rfl rfl (by decide) (hM.1.n 13 (by decide) (by decide)) (hts _ k_729) rfl rfl rfl (by decide +kernel) rfl rfl d_Model_robot_66 (fun H locs hV => ?_)
          refine lv_aload_n hx hb d_Model_robot_69 rfl (lv_at hl 0 rfl) ?_
          refine os_get (C := "RobotFaultsModel") (T := F_Model) (N := 38) (ci := 7) (K := 13) (j := 4) (i := 0) (v := .int ((os_g σ 13 4 0) + 1)) hx hb hts i_Model hown hK hV rfl rfl (by decide) (hM.1.n 13 (by decide) (by decide)) (hts _ k_729) (os_fv_sgs (σ := os_sg (os_sg (os_sg σ 13 0 0 0) 15 (iN (os_g σ 13 4 0)) 0 x) 16 (iN (os_g σ 13 4 0)) 0 (-1)) (ad := ad) (K := 13) (j := 4) (i := 0) (v := (os_g σ 13 4 0) + 1) rfl rfl) d_Model_robot_70 ?_
          refine lv_iconst (v := 1) hx hb d_Model_robot_73 (by decide) ?_
          refine lv_isub hx hb d_Model_robot_74 ?_
          refine os_iret hx hb hr hlocks hV (Nat.le_of_ble_eq_true rfl) (Nat.le_of_ble_eq_true rfl) d_Model_robot_75 ?_
          exact ⟨rfl, Or.inl (⟨c_1, c_2, rfl, rfl⟩)⟩
        · exact absurd (by decide) c_3
      · skip
        refine lv_iconst (v := 2) hx hb d_Model_robot_22 (by decide) ?_
        refine lv_goto (tgt := 27) hx hb d_Model_robot_23 (by decide) ?_
        refine os_putI (C := "RobotFaultsModel") (T := F_Model) (N := 38) (ci := 7) (K := 13) (j := 0) (i := 0) (v := 2) (ty := .int) hx hb hts i_Model t_Model t_Model_ok n_Model hown hK hV rfl rfl (by decide) (hM.1.n 13 (by decide) (by decide)) (hts _ k_725) rfl rfl rfl (by decide +kernel) rfl rfl d_Model_robot_27 (fun H locs hV => ?_)
        refine lv_aload_n hx hb d_Model_robot_30 rfl (lv_at hl 0 rfl) ?_
        refine os_get (C := "RobotFaultsModel") (T := F_Model) (N := 38) (ci := 7) (K := 13) (j := 0) (i := 0) (v := .int 2) hx hb hts i_Model hown hK hV rfl rfl (by decide) (hM.1.n 13 (by decide) (by decide)) (hts _ k_725) (os_fv_sgs (σ := σ) (ad := ad) (K := 13) (j := 0) (i := 0) (v := 2) rfl rfl) d_Model_robot_31 ?_
        refine lv_if_le (tgt := 39) hx hb d_Model_robot_34 (by decide) (fun c_4 => ?_) (fun c_4 => ?_)
        · exact absurd c_4 (by decide)
        · skip
          refine lv_iconst (v := 0) hx hb d_Model_robot_37 (by decide) ?_
          refine os_iret hx hb hr hlocks hV (Nat.le_of_ble_eq_true rfl) (Nat.le_of_ble_eq_true rfl) d_Model_robot_38 ?_
          exact ⟨rfl, Or.inr (Or.inl (⟨c_1, c_2, rfl, rfl⟩))⟩
    · skip
      refine lv_iconst (v := 1) hx hb d_Model_robot_9 (by decide) ?_
      refine lv_goto (tgt := 27) hx hb d_Model_robot_10 (by decide) ?_
      refine os_putI (C := "RobotFaultsModel") (T := F_Model) (N := 38) (ci := 7) (K := 13) (j := 0) (i := 0) (v := 1) (ty := .int) hx hb hts i_Model t_Model t_Model_ok n_Model hown hK hV rfl rfl (by decide) (hM.1.n 13 (by decide) (by decide)) (hts _ k_725) rfl rfl rfl (by decide +kernel) rfl rfl d_Model_robot_27 (fun H locs hV => ?_)
      refine lv_aload_n hx hb d_Model_robot_30 rfl (lv_at hl 0 rfl) ?_
      refine os_get (C := "RobotFaultsModel") (T := F_Model) (N := 38) (ci := 7) (K := 13) (j := 0) (i := 0) (v := .int 1) hx hb hts i_Model hown hK hV rfl rfl (by decide) (hM.1.n 13 (by decide) (by decide)) (hts _ k_725) (os_fv_sgs (σ := σ) (ad := ad) (K := 13) (j := 0) (i := 0) (v := 1) rfl rfl) d_Model_robot_31 ?_
      refine lv_if_le (tgt := 39) hx hb d_Model_robot_34 (by decide) (fun c_5 => ?_) (fun c_5 => ?_)
      · exact absurd c_5 (by decide)
      · skip
        refine lv_iconst (v := 0) hx hb d_Model_robot_37 (by decide) ?_
        refine os_iret hx hb hr hlocks hV (Nat.le_of_ble_eq_true rfl) (Nat.le_of_ble_eq_true rfl) d_Model_robot_38 ?_
        exact ⟨rfl, Or.inr (Or.inr (⟨c_1, rfl, rfl⟩))⟩
  · exact absurd hp.2.2 (fun h => by cases h)
/-- what Model_rule does, road by road -/
def m_rule (σ : os_S) (ad : Nat → Nat → Nat) (x n9 : Int32) (b : Bool) (q9 : Int32) : os_O → os_S → (Nat → Nat → Nat) → Prop := fun r σ' ad' => ad = ad' ∧ ((((bz (inF x 0 7)) = 0) ∧ os_sg σ 13 0 0 1 = σ' ∧ r = .inl none) ∨ ((¬ ((bz (inF x 0 7)) = 0)) ∧ ((bz (inF n9 1 2)) = 0) ∧ os_sg σ 13 0 0 1 = σ' ∧ r = .inl none) ∨ ((¬ ((bz (inF x 0 7)) = 0)) ∧ (¬ ((bz (inF n9 1 2)) = 0)) ∧ ((bz (inF q9 1 5)) = 0) ∧ os_sg σ 13 0 0 1 = σ' ∧ r = .inl none) ∨ ((¬ ((bz (inF x 0 7)) = 0)) ∧ (¬ ((bz (inF n9 1 2)) = 0)) ∧ (¬ ((bz (inF q9 1 5)) = 0)) ∧ os_sg (os_sg (os_sg (os_sg σ 13 0 0 0) 20 (iN x) 0 n9) 21 (iN x) 0 (bz b)) 22 (iN x) 0 q9 = σ' ∧ r = .inl none))
set_option maxHeartbeats 4000000 in
set_option maxRecDepth 100000 in
theorem c_Model_rule (l : Launch) (hlt : l.stackTraces = false) (D : va_G) (cA : Nat → ClassId) (bs : Nat) (σ : os_S) (ad : Nat → Nat → Nat) (x n9 : Int32) (b : Bool) (q9 : Int32) (hM : MI σ) : os_Met l y_Model_rule prog_9_method_12_code 5 none { frames := 2, cells := 0, slots := 0, locals := 43 } D cA bs [.ref (ad 13 0), .int x, .int n9, .int (bz b), .int q9] σ ad (m_rule σ ad x n9 b q9) := by
  refine os_ofW (by decide) ?_
  intro p e s m below meth c hx hb hr hml hown hlocks hmn hout hE hV
  have hts := hE.hts (args := ([.ref (ad 13 0), .int x, .int n9, .int (bz b), .int q9] : List Value).toArray)
  have hK := hE.2.1
  have hbs := hE.2.2.1
  have hown : s.vm.findClass "RobotFaultsModel" = some m.cls := hown
  have hl := lv_entry ([.ref (ad 13 0), .int x, .int n9, .int (bz b), .int q9]) (n := 5) (Nat.le_of_ble_eq_true rfl)
  rw [lg_entry_eq]
  generalize (lg_sl ([.ref (ad 13 0), .int x, .int n9, .int (bz b), .int q9]) ++ List.replicate (5 - (lg_sl ([.ref (ad 13 0), .int x, .int n9, .int (bz b), .int q9])).length) Slot.unset).toArray = ls at hl ⊢
  have hl : lv_has ls 5 [(0, .ref (ad 13 0)), (1, .int x), (2, .int n9), (3, .int (bz b)), (4, .int q9)] := hl
  refine lv_aload_n hx hb d_Model_rule_0 rfl (lv_at hl 0 rfl) ?_
  refine lv_iload_n hx hb d_Model_rule_1 rfl (lv_at hl 1 rfl) ?_
  refine os_call (c_Model_isKind l hlt D cA bs σ ad x) hE hV k_870 k_4 (os_inS (n := 1) (bytes := prog_9_method_8_code) (maxL := 1) (ret := (some .boolean)) hx hb hown (hts _ k_868) (hts _ k_869) (hts _ k_4) (hts _ k_870) (by decide +kernel) rfl rfl d_Model_rule_2) (hl.1.trans hml.symm) (Nat.le_of_ble_eq_true rfl) (Nat.le_of_ble_eq_true rfl) (Nat.le_of_ble_eq_true rfl) (Nat.le_of_ble_eq_true rfl) (Nat.le_of_ble_eq_true rfl) (fun v σ1 ad1 H locs hp hext hV => ?_) (fun E q ce σ1 ad1 H locs hp hext hV hce hcv hcl => ?_)
  · obtain ⟨rfl, rfl, hp⟩ := hp
    cases hp
    refine W.eq (g2 := F0 m 5 ls [.int (bz (inF x 0 7)), .ref (ad 13 0)]) rfl ?_
    refine lv_if_eq (tgt := 31) hx hb d_Model_rule_5 (by decide) (fun c_1 => ?_) (fun c_1 => ?_)
    · skip
      refine lv_iconst (v := 1) hx hb d_Model_rule_31 (by decide) ?_
      refine os_putI (C := "RobotFaultsModel") (T := F_Model) (N := 38) (ci := 7) (K := 13) (j := 0) (i := 0) (v := 1) (ty := .int) hx hb hts i_Model t_Model t_Model_ok n_Model hown hK hV rfl rfl (by decide) (hM.1.n 13 (by decide) (by decide)) (hts _ k_725) rfl rfl rfl (by decide +kernel) rfl rfl d_Model_rule_32 (fun H locs hV => ?_)
      refine lv_aload_n hx hb d_Model_rule_35 rfl (lv_at hl 0 rfl) ?_
      refine os_get (C := "RobotFaultsModel") (T := F_Model) (N := 38) (ci := 7) (K := 13) (j := 0) (i := 0) (v := .int 1) hx hb hts i_Model hown hK hV rfl rfl (by decide) (hM.1.n 13 (by decide) (by decide)) (hts _ k_725) (os_fv_sgs (σ := σ) (ad := ad) (K := 13) (j := 0) (i := 0) (v := 1) rfl rfl) d_Model_rule_36 ?_
      refine lv_if_le (tgt := 43) hx hb d_Model_rule_39 (by decide) (fun c_2 => ?_) (fun c_2 => ?_)
      · exact absurd c_2 (by decide)
      · skip
        refine os_vret hx hb hr hlocks hV (Nat.le_of_ble_eq_true rfl) (Nat.le_of_ble_eq_true rfl) d_Model_rule_42 ?_
        exact ⟨rfl, Or.inl (⟨c_1, rfl, rfl⟩)⟩
    · skip
      refine lv_iload_n hx hb d_Model_rule_8 rfl (lv_at hl 2 rfl) ?_
      refine lv_iconst (v := 1) hx hb d_Model_rule_9 (by decide) ?_
      refine lv_iconst (v := 2) hx hb d_Model_rule_10 (by decide) ?_
      refine os_call (c_Model_in l hlt D cA bs σ ad n9 1 2) hE hV k_859 k_4 (os_inS (n := 3) (bytes := prog_9_method_3_code) (maxL := 3) (ret := (some .boolean)) hx hb hown (hts _ k_857) (hts _ k_858) (hts _ k_4) (hts _ k_859) (by decide +kernel) rfl rfl d_Model_rule_11) (hl.1.trans hml.symm) (Nat.le_of_ble_eq_true rfl) (Nat.le_of_ble_eq_true rfl) (Nat.le_of_ble_eq_true rfl) (Nat.le_of_ble_eq_true rfl) (Nat.le_of_ble_eq_true rfl) (fun v σ1 ad1 H locs hp hext hV => ?_) (fun E q ce σ1 ad1 H locs hp hext hV hce hcv hcl => ?_)
      · obtain ⟨rfl, rfl, hp⟩ := hp
        cases hp
        refine W.eq (g2 := F0 m 14 ls [.int (bz (inF n9 1 2)), .ref (ad 13 0)]) rfl ?_
        refine lv_if_eq (tgt := 31) hx hb d_Model_rule_14 (by decide) (fun c_3 => ?_) (fun c_3 => ?_)
        · skip
          refine lv_iconst (v := 1) hx hb d_Model_rule_31 (by decide) ?_
          refine os_putI (C := "RobotFaultsModel") (T := F_Model) (N := 38) (ci := 7) (K := 13) (j := 0) (i := 0) (v := 1) (ty := .int) hx hb hts i_Model t_Model t_Model_ok n_Model hown hK hV rfl rfl (by decide) (hM.1.n 13 (by decide) (by decide)) (hts _ k_725) rfl rfl rfl (by decide +kernel) rfl rfl d_Model_rule_32 (fun H locs hV => ?_)
          refine lv_aload_n hx hb d_Model_rule_35 rfl (lv_at hl 0 rfl) ?_
          refine os_get (C := "RobotFaultsModel") (T := F_Model) (N := 38) (ci := 7) (K := 13) (j := 0) (i := 0) (v := .int 1) hx hb hts i_Model hown hK hV rfl rfl (by decide) (hM.1.n 13 (by decide) (by decide)) (hts _ k_725) (os_fv_sgs (σ := σ) (ad := ad) (K := 13) (j := 0) (i := 0) (v := 1) rfl rfl) d_Model_rule_36 ?_
          refine lv_if_le (tgt := 43) hx hb d_Model_rule_39 (by decide) (fun c_4 => ?_) (fun c_4 => ?_)
          · exact absurd c_4 (by decide)
          · skip
            refine os_vret hx hb hr hlocks hV (Nat.le_of_ble_eq_true rfl) (Nat.le_of_ble_eq_true rfl) d_Model_rule_42 ?_
            exact ⟨rfl, Or.inr (Or.inl (⟨c_1, c_3, rfl, rfl⟩))⟩
        · skip
          refine lv_iload hx hb d_Model_rule_17 (lv_at hl 4 rfl) ?_
          refine lv_iconst (v := 1) hx hb d_Model_rule_19 (by decide) ?_
          refine lv_iconst (v := 5) hx hb d_Model_rule_20 (by decide) ?_
          refine os_call (c_Model_in l hlt D cA bs σ ad q9 1 5) hE hV k_859 k_4 (os_inS (n := 3) (bytes := prog_9_method_3_code) (maxL := 3) (ret := (some .boolean)) hx hb hown (hts _ k_857) (hts _ k_858) (hts _ k_4) (hts _ k_859) (by decide +kernel) rfl rfl d_Model_rule_21) (hl.1.trans hml.symm) (Nat.le_of_ble_eq_true rfl) (Nat.le_of_ble_eq_true rfl) (Nat.le_of_ble_eq_true rfl) (Nat.le_of_ble_eq_true rfl) (Nat.le_of_ble_eq_true rfl) (fun v σ1 ad1 H locs hp hext hV => ?_) (fun E q ce σ1 ad1 H locs hp hext hV hce hcv hcl => ?_)
          · obtain ⟨rfl, rfl, hp⟩ := hp
            cases hp
            refine W.eq (g2 := F0 m 24 ls [.int (bz (inF q9 1 5)), .ref (ad 13 0)]) rfl ?_
            refine lv_if_eq (tgt := 31) hx hb d_Model_rule_24 (by decide) (fun c_5 => ?_) (fun c_5 => ?_)
            · skip
              refine lv_iconst (v := 1) hx hb d_Model_rule_31 (by decide) ?_
              refine os_putI (C := "RobotFaultsModel") (T := F_Model) (N := 38) (ci := 7) (K := 13) (j := 0) (i := 0) (v := 1) (ty := .int) hx hb hts i_Model t_Model t_Model_ok n_Model hown hK hV rfl rfl (by decide) (hM.1.n 13 (by decide) (by decide)) (hts _ k_725) rfl rfl rfl (by decide +kernel) rfl rfl d_Model_rule_32 (fun H locs hV => ?_)
              refine lv_aload_n hx hb d_Model_rule_35 rfl (lv_at hl 0 rfl) ?_
              refine os_get (C := "RobotFaultsModel") (T := F_Model) (N := 38) (ci := 7) (K := 13) (j := 0) (i := 0) (v := .int 1) hx hb hts i_Model hown hK hV rfl rfl (by decide) (hM.1.n 13 (by decide) (by decide)) (hts _ k_725) (os_fv_sgs (σ := σ) (ad := ad) (K := 13) (j := 0) (i := 0) (v := 1) rfl rfl) d_Model_rule_36 ?_
              refine lv_if_le (tgt := 43) hx hb d_Model_rule_39 (by decide) (fun c_6 => ?_) (fun c_6 => ?_)
              · exact absurd c_6 (by decide)
              · skip
                refine os_vret hx hb hr hlocks hV (Nat.le_of_ble_eq_true rfl) (Nat.le_of_ble_eq_true rfl) d_Model_rule_42 ?_
                exact ⟨rfl, Or.inr (Or.inr (Or.inl (⟨c_1, c_3, c_5, rfl, rfl⟩)))⟩
            · skip
              refine lv_iconst (v := 0) hx hb d_Model_rule_27 (by decide) ?_
              refine lv_goto (tgt := 32) hx hb d_Model_rule_28 (by decide) ?_
              refine os_putI (C := "RobotFaultsModel") (T := F_Model) (N := 38) (ci := 7) (K := 13) (j := 0) (i := 0) (v := 0) (ty := .int) hx hb hts i_Model t_Model t_Model_ok n_Model hown hK hV rfl rfl (by decide) (hM.1.n 13 (by decide) (by decide)) (hts _ k_725) rfl rfl rfl (by decide +kernel) rfl rfl d_Model_rule_32 (fun H locs hV => ?_)
              refine lv_aload_n hx hb d_Model_rule_35 rfl (lv_at hl 0 rfl) ?_
              refine os_get (C := "RobotFaultsModel") (T := F_Model) (N := 38) (ci := 7) (K := 13) (j := 0) (i := 0) (v := .int 0) hx hb hts i_Model hown hK hV rfl rfl (by decide) (hM.1.n 13 (by decide) (by decide)) (hts _ k_725) (os_fv_sgs (σ := σ) (ad := ad) (K := 13) (j := 0) (i := 0) (v := 0) rfl rfl) d_Model_rule_36 ?_
              refine lv_if_le (tgt := 43) hx hb d_Model_rule_39 (by decide) (fun c_7 => ?_) (fun c_7 => ?_)
              · skip
                refine lv_aload_n hx hb d_Model_rule_43 rfl (lv_at hl 0 rfl) ?_
                refine os_get (C := "RobotFaultsModel") (T := F_Model) (N := 38) (ci := 7) (K := 13) (j := 10) (i := 0) (v := .ref (ad 20 0)) hx hb hts i_Model hown hK hV rfl rfl (by decide) (hM.1.n 13 (by decide) (by decide)) (hts _ k_735) (congrArg (fun z => va_rf (Option.map (ad 20) z)) (hM.1.2.1 10 (by decide) (by decide))) d_Model_rule_44 ?_
                refine lv_iload_n hx hb d_Model_rule_47 rfl (lv_at hl 1 rfl) ?_
                refine lv_iload_n hx hb d_Model_rule_48 rfl (lv_at hl 2 rfl) ?_
                refine os_iastN (K := 20) (i := 0) (t0 := 0) (n := (iN x)) hx hb hK hV rfl rfl rfl (hM.1.n 20 (by decide) (by decide)) (inF.up (M := 7) (bz_1 c_1)).1 (by rw [show os_l (os_sg σ 13 0 0 0) 20 0 = 8 from hM.1.2.2 20 (by decide) (by decide)]; have h9 := (inF.up (M := 7) (bz_1 c_1)).2; omega) (by rw [show os_l (os_sg σ 13 0 0 0) 20 0 = 8 from hM.1.2.2 20 (by decide) (by decide)]; decide) d_Model_rule_49 (fun H locs hV => ?_)
                refine lv_aload_n hx hb d_Model_rule_50 rfl (lv_at hl 0 rfl) ?_
                refine os_get (C := "RobotFaultsModel") (T := F_Model) (N := 38) (ci := 7) (K := 13) (j := 11) (i := 0) (v := .ref (ad 21 0)) hx hb hts i_Model hown hK hV rfl rfl (by decide) (hM.1.n 13 (by decide) (by decide)) (hts _ k_736) (congrArg (fun z => va_rf (Option.map (ad 21) z)) (hM.1.2.1 11 (by decide) (by decide))) d_Model_rule_51 ?_
                refine lv_iload_n hx hb d_Model_rule_54 rfl (lv_at hl 1 rfl) ?_
                refine lv_iload_n hx hb d_Model_rule_55 rfl (lv_at hl 3 rfl) ?_
                refine os_zastN (K := 21) (i := 0) (t0 := 1) (n := (iN x)) hx hb hK hV rfl rfl rfl (hM.1.n 21 (by decide) (by decide)) (inF.up (M := 7) (bz_1 c_1)).1 (by rw [show os_l (os_sg (os_sg σ 13 0 0 0) 20 (iN x) 0 n9) 21 0 = 8 from hM.1.2.2 21 (by decide) (by decide)]; have h9 := (inF.up (M := 7) (bz_1 c_1)).2; omega) (by rw [show os_l (os_sg (os_sg σ 13 0 0 0) 20 (iN x) 0 n9) 21 0 = 8 from hM.1.2.2 21 (by decide) (by decide)]; decide) (bz_nar _) d_Model_rule_56 (fun H locs hV => ?_)
                refine lv_aload_n hx hb d_Model_rule_57 rfl (lv_at hl 0 rfl) ?_
                refine os_get (C := "RobotFaultsModel") (T := F_Model) (N := 38) (ci := 7) (K := 13) (j := 12) (i := 0) (v := .ref (ad 22 0)) hx hb hts i_Model hown hK hV rfl rfl (by decide) (hM.1.n 13 (by decide) (by decide)) (hts _ k_737) (congrArg (fun z => va_rf (Option.map (ad 22) z)) (hM.1.2.1 12 (by decide) (by decide))) d_Model_rule_58 ?_
                refine lv_iload_n hx hb d_Model_rule_61 rfl (lv_at hl 1 rfl) ?_
                refine lv_iload hx hb d_Model_rule_62 (lv_at hl 4 rfl) ?_
                refine os_iastN (K := 22) (i := 0) (t0 := 0) (n := (iN x)) hx hb hK hV rfl rfl rfl (hM.1.n 22 (by decide) (by decide)) (inF.up (M := 7) (bz_1 c_1)).1 (by rw [show os_l (os_sg (os_sg (os_sg σ 13 0 0 0) 20 (iN x) 0 n9) 21 (iN x) 0 (bz b)) 22 0 = 8 from hM.1.2.2 22 (by decide) (by decide)]; have h9 := (inF.up (M := 7) (bz_1 c_1)).2; omega) (by rw [show os_l (os_sg (os_sg (os_sg σ 13 0 0 0) 20 (iN x) 0 n9) 21 (iN x) 0 (bz b)) 22 0 = 8 from hM.1.2.2 22 (by decide) (by decide)]; decide) d_Model_rule_64 (fun H locs hV => ?_)
                refine os_vret hx hb hr hlocks hV (Nat.le_of_ble_eq_true rfl) (Nat.le_of_ble_eq_true rfl) d_Model_rule_65 ?_
                exact ⟨rfl, Or.inr (Or.inr (Or.inr (⟨c_1, c_3, c_5, rfl, rfl⟩)))⟩
              · exact absurd (by decide) c_7
          · exact absurd hp.2.2 (fun h => by cases h)
      · exact absurd hp.2.2 (fun h => by cases h)
  · exact absurd hp.2.2 (fun h => by cases h)
/-- what Model_load does, road by road -/
def m_load (σ : os_S) (ad : Nat → Nat → Nat) (x y : Int32) : os_O → os_S → (Nat → Nat → Nat) → Prop := fun r σ' ad' => ad = ad' ∧ (((¬ (bz (inF x 0 (os_g σ 13 4 0 - 1))) = 0) ∧ (¬ (bz (inF y (-1) 99)) = 0) ∧ (¬ (os_g σ 17 (iN x) 0) = 2) ∧ os_sg (os_sg (os_sg σ 13 0 0 0) 13 0 0 0) 16 (iN x) 0 y = σ' ∧ r = .inl none) ∨ ((¬ (bz (inF x 0 (os_g σ 13 4 0 - 1))) = 0) ∧ (¬ (bz (inF y (-1) 99)) = 0) ∧ ((os_g σ 17 (iN x) 0) = 2) ∧ os_sg (os_sg σ 13 0 0 0) 13 0 0 3 = σ' ∧ r = .inl none) ∨ ((¬ (bz (inF x 0 (os_g σ 13 4 0 - 1))) = 0) ∧ ((bz (inF y (-1) 99)) = 0) ∧ os_sg σ 13 0 0 2 = σ' ∧ r = .inl none) ∨ (((bz (inF x 0 (os_g σ 13 4 0 - 1))) = 0) ∧ os_sg σ 13 0 0 1 = σ' ∧ r = .inl none))
set_option maxHeartbeats 4000000 in
set_option maxRecDepth 100000 in
theorem c_Model_load (l : Launch) (hlt : l.stackTraces = false) (D : va_G) (cA : Nat → ClassId) (bs : Nat) (σ : os_S) (ad : Nat → Nat → Nat) (x y : Int32) (hM : MI σ) : os_Met l y_Model_load prog_9_method_14_code 3 none { frames := 2, cells := 0, slots := 0, locals := 43 } D cA bs [.ref (ad 13 0), .int x, .int y] σ ad (m_load σ ad x y) := by
  refine os_ofW (by decide) ?_
  intro p e s m below meth c hx hb hr hml hown hlocks hmn hout hE hV
  have hts := hE.hts (args := ([.ref (ad 13 0), .int x, .int y] : List Value).toArray)
  have hK := hE.2.1
  have hbs := hE.2.2.1
  have hown : s.vm.findClass "RobotFaultsModel" = some m.cls := hown
  have hl := lv_entry ([.ref (ad 13 0), .int x, .int y]) (n := 3) (Nat.le_of_ble_eq_true rfl)
  rw [lg_entry_eq]
  generalize (lg_sl ([.ref (ad 13 0), .int x, .int y]) ++ List.replicate (3 - (lg_sl ([.ref (ad 13 0), .int x, .int y])).length) Slot.unset).toArray = ls at hl ⊢
  have hl : lv_has ls 3 [(0, .ref (ad 13 0)), (1, .int x), (2, .int y)] := hl
  refine lv_aload_n hx hb d_Model_load_0 rfl (lv_at hl 0 rfl) ?_
  refine lv_aload_n hx hb d_Model_load_1 rfl (lv_at hl 0 rfl) ?_
  refine lv_iload_n hx hb d_Model_load_2 rfl (lv_at hl 1 rfl) ?_
  refine os_call (c_Model_isRobot l hlt D cA bs σ ad x hM) hE hV k_878 k_4 (os_inV (C := "RobotFaultsModel") (n := 1) (bytes := prog_9_method_5_code) (maxL := 2) (ret := (some .boolean)) hx hb hown (hts _ k_875) (hts _ k_877) (hts _ k_s22) (hts _ k_878) (by decide +kernel) rfl (os_recv hK hV rfl rfl (hM.1.n 13 (by decide) (by decide))) rfl d_Model_load_3) (hl.1.trans hml.symm) (Nat.le_of_ble_eq_true rfl) (Nat.le_of_ble_eq_true rfl) (Nat.le_of_ble_eq_true rfl) (Nat.le_of_ble_eq_true rfl) (Nat.le_of_ble_eq_true rfl) (fun v σ1 ad1 H locs hp hext hV => ?_) (fun E q ce σ1 ad1 H locs hp hext hV hce hcv hcl => ?_)
  · obtain ⟨rfl, rfl, hp⟩ := hp
    cases hp
    refine W.eq (g2 := F0 m 6 ls [.int (bz (inF x 0 (os_g σ 13 4 0 - 1))), .ref (ad 13 0)]) rfl ?_
    refine lv_if_ne (tgt := 13) hx hb d_Model_load_6 (by decide) (fun c_1 => ?_) (fun c_1 => ?_)
    · skip
      refine lv_iload_n hx hb d_Model_load_13 rfl (lv_at hl 2 rfl) ?_
      refine lv_iconst (v := (-1)) hx hb d_Model_load_14 (by decide) ?_
      refine lv_bipush (v := 99) hx hb d_Model_load_15 (by decide) ?_
      refine os_call (c_Model_in l hlt D cA bs σ ad y (-1) 99) hE hV k_859 k_4 (os_inS (n := 3) (bytes := prog_9_method_3_code) (maxL := 3) (ret := (some .boolean)) hx hb hown (hts _ k_857) (hts _ k_858) (hts _ k_4) (hts _ k_859) (by decide +kernel) rfl rfl d_Model_load_17) (hl.1.trans hml.symm) (Nat.le_of_ble_eq_true rfl) (Nat.le_of_ble_eq_true rfl) (Nat.le_of_ble_eq_true rfl) (Nat.le_of_ble_eq_true rfl) (Nat.le_of_ble_eq_true rfl) (fun v σ1 ad1 H locs hp hext hV => ?_) (fun E q ce σ1 ad1 H locs hp hext hV hce hcv hcl => ?_)
      · obtain ⟨rfl, rfl, hp⟩ := hp
        cases hp
        refine W.eq (g2 := F0 m 20 ls [.int (bz (inF y (-1) 99)), .ref (ad 13 0)]) rfl ?_
        refine lv_if_ne (tgt := 27) hx hb d_Model_load_20 (by decide) (fun c_2 => ?_) (fun c_2 => ?_)
        · skip
          refine lv_iconst (v := 0) hx hb d_Model_load_27 (by decide) ?_
          refine os_putI (C := "RobotFaultsModel") (T := F_Model) (N := 38) (ci := 7) (K := 13) (j := 0) (i := 0) (v := 0) (ty := .int) hx hb hts i_Model t_Model t_Model_ok n_Model hown hK hV rfl rfl (by decide) (hM.1.n 13 (by decide) (by decide)) (hts _ k_725) rfl rfl rfl (by decide +kernel) rfl rfl d_Model_load_28 (fun H locs hV => ?_)
          refine lv_aload_n hx hb d_Model_load_31 rfl (lv_at hl 0 rfl) ?_
          refine os_get (C := "RobotFaultsModel") (T := F_Model) (N := 38) (ci := 7) (K := 13) (j := 0) (i := 0) (v := .int 0) hx hb hts i_Model hown hK hV rfl rfl (by decide) (hM.1.n 13 (by decide) (by decide)) (hts _ k_725) (os_fv_sgs (σ := σ) (ad := ad) (K := 13) (j := 0) (i := 0) (v := 0) rfl rfl) d_Model_load_32 ?_
          refine lv_if_ne (tgt := 57) hx hb d_Model_load_35 (by decide) (fun c_3 => ?_) (fun c_3 => ?_)
          · exact absurd c_3 (by decide)
          · skip
            refine lv_aload_n hx hb d_Model_load_38 rfl (lv_at hl 0 rfl) ?_
            refine lv_aload_n hx hb d_Model_load_39 rfl (lv_at hl 0 rfl) ?_
            refine os_get (C := "RobotFaultsModel") (T := F_Model) (N := 38) (ci := 7) (K := 13) (j := 7) (i := 0) (v := .ref (ad 17 0)) hx hb hts i_Model hown hK hV rfl rfl (by decide) (hM.1.n 13 (by decide) (by decide)) (hts _ k_732) (congrArg (fun z => va_rf (Option.map (ad 17) z)) (hM.1.2.1 7 (by decide) (by decide))) d_Model_load_40 ?_
            refine lv_iload_n hx hb d_Model_load_43 rfl (lv_at hl 1 rfl) ?_
            refine os_ialdN (K := 17) (i := 0) (t0 := 0) (n := (iN x)) hx hb hK hV rfl rfl rfl (hM.1.n 17 (by decide) (by decide)) (inF.ix (σ := σ) (bz_1 c_1) hM.2.2.1).1 (by rw [show os_l (os_sg σ 13 0 0 0) 17 0 = 8 from hM.1.2.2 17 (by decide) (by decide)]; have h9 := (Nat.lt_of_lt_of_le (inF.ix (σ := σ) (bz_1 c_1) hM.2.2.1).2 hM.2.2.1.2); omega) (by rw [show os_l (os_sg σ 13 0 0 0) 17 0 = 8 from hM.1.2.2 17 (by decide) (by decide)]; decide) d_Model_load_44 ?_
            refine W.eq (g2 := F0 m 45 ls [.int (os_g σ 17 (iN x) 0), .ref (ad 13 0)]) (congrArg (fun z => F0 m 45 ls (.int z :: [.ref (ad 13 0)])) (show os_g (os_sg σ 13 0 0 0) 17 (iN x) 0 = os_g σ 17 (iN x) 0 from rfl)) ?_
            refine lv_iconst (v := 2) hx hb d_Model_load_45 (by decide) ?_
            refine lv_icmp_ne (tgt := 53) hx hb d_Model_load_46 (by decide) (fun c_4 => ?_) (fun c_4 => ?_)
            · skip
              refine lv_iconst (v := 0) hx hb d_Model_load_53 (by decide) ?_
              refine os_putI (C := "RobotFaultsModel") (T := F_Model) (N := 38) (ci := 7) (K := 13) (j := 0) (i := 0) (v := 0) (ty := .int) hx hb hts i_Model t_Model t_Model_ok n_Model hown hK hV rfl rfl (by decide) (hM.1.n 13 (by decide) (by decide)) (hts _ k_725) rfl rfl rfl (by decide +kernel) rfl rfl d_Model_load_54 (fun H locs hV => ?_)
              refine lv_aload_n hx hb d_Model_load_57 rfl (lv_at hl 0 rfl) ?_
              refine os_get (C := "RobotFaultsModel") (T := F_Model) (N := 38) (ci := 7) (K := 13) (j := 0) (i := 0) (v := .int 0) hx hb hts i_Model hown hK hV rfl rfl (by decide) (hM.1.n 13 (by decide) (by decide)) (hts _ k_725) (os_fv_sgs (σ := os_sg σ 13 0 0 0) (ad := ad) (K := 13) (j := 0) (i := 0) (v := 0) rfl rfl) d_Model_load_58 ?_
              refine lv_if_ne (tgt := 71) hx hb d_Model_load_61 (by decide) (fun c_5 => ?_) (fun c_5 => ?_)
              · exact absurd c_5 (by decide)
              · skip
                refine lv_aload_n hx hb d_Model_load_64 rfl (lv_at hl 0 rfl) ?_
                refine os_get (C := "RobotFaultsModel") (T := F_Model) (N := 38) (ci := 7) (K := 13) (j := 6) (i := 0) (v := .ref (ad 16 0)) hx hb hts i_Model hown hK hV rfl rfl (by decide) (hM.1.n 13 (by decide) (by decide)) (hts _ k_731) (congrArg (fun z => va_rf (Option.map (ad 16) z)) (hM.1.2.1 6 (by decide) (by decide))) d_Model_load_65 ?_
                refine lv_iload_n hx hb d_Model_load_68 rfl (lv_at hl 1 rfl) ?_
                refine lv_iload_n hx hb d_Model_load_69 rfl (lv_at hl 2 rfl) ?_
                refine os_iastN (K := 16) (i := 0) (t0 := 0) (n := (iN x)) hx hb hK hV rfl rfl rfl (hM.1.n 16 (by decide) (by decide)) (inF.ix (σ := σ) (bz_1 c_1) hM.2.2.1).1 (by rw [show os_l (os_sg (os_sg σ 13 0 0 0) 13 0 0 0) 16 0 = 8 from hM.1.2.2 16 (by decide) (by decide)]; have h9 := (Nat.lt_of_lt_of_le (inF.ix (σ := σ) (bz_1 c_1) hM.2.2.1).2 hM.2.2.1.2); omega) (by rw [show os_l (os_sg (os_sg σ 13 0 0 0) 13 0 0 0) 16 0 = 8 from hM.1.2.2 16 (by decide) (by decide)]; decide) d_Model_load_70 (fun H locs hV => ?_)
                refine os_vret hx hb hr hlocks hV (Nat.le_of_ble_eq_true rfl) (Nat.le_of_ble_eq_true rfl) d_Model_load_71 ?_
                exact ⟨rfl, Or.inl (⟨c_1, c_2, c_4, rfl, rfl⟩)⟩
            · skip
              refine lv_iconst (v := 3) hx hb d_Model_load_49 (by decide) ?_
              refine lv_goto (tgt := 54) hx hb d_Model_load_50 (by decide) ?_
              refine os_putI (C := "RobotFaultsModel") (T := F_Model) (N := 38) (ci := 7) (K := 13) (j := 0) (i := 0) (v := 3) (ty := .int) hx hb hts i_Model t_Model t_Model_ok n_Model hown hK hV rfl rfl (by decide) (hM.1.n 13 (by decide) (by decide)) (hts _ k_725) rfl rfl rfl (by decide +kernel) rfl rfl d_Model_load_54 (fun H locs hV => ?_)
              refine lv_aload_n hx hb d_Model_load_57 rfl (lv_at hl 0 rfl) ?_
              refine os_get (C := "RobotFaultsModel") (T := F_Model) (N := 38) (ci := 7) (K := 13) (j := 0) (i := 0) (v := .int 3) hx hb hts i_Model hown hK hV rfl rfl (by decide) (hM.1.n 13 (by decide) (by decide)) (hts _ k_725) (os_fv_sgs (σ := os_sg σ 13 0 0 0) (ad := ad) (K := 13) (j := 0) (i := 0) (v := 3) rfl rfl) d_Model_load_58 ?_
              refine lv_if_ne (tgt := 71) hx hb d_Model_load_61 (by decide) (fun c_6 => ?_) (fun c_6 => ?_)
              · skip
                refine os_vret hx hb hr hlocks hV (Nat.le_of_ble_eq_true rfl) (Nat.le_of_ble_eq_true rfl) d_Model_load_71 ?_
                exact ⟨rfl, Or.inr (Or.inl (⟨c_1, c_2, c_4, rfl, rfl⟩))⟩
              · exact absurd c_6 (by decide)
        · skip
          refine lv_iconst (v := 2) hx hb d_Model_load_23 (by decide) ?_
          refine lv_goto (tgt := 28) hx hb d_Model_load_24 (by decide) ?_
          refine os_putI (C := "RobotFaultsModel") (T := F_Model) (N := 38) (ci := 7) (K := 13) (j := 0) (i := 0) (v := 2) (ty := .int) hx hb hts i_Model t_Model t_Model_ok n_Model hown hK hV rfl rfl (by decide) (hM.1.n 13 (by decide) (by decide)) (hts _ k_725) rfl rfl rfl (by decide +kernel) rfl rfl d_Model_load_28 (fun H locs hV => ?_)
          refine lv_aload_n hx hb d_Model_load_31 rfl (lv_at hl 0 rfl) ?_
          refine os_get (C := "RobotFaultsModel") (T := F_Model) (N := 38) (ci := 7) (K := 13) (j := 0) (i := 0) (v := .int 2) hx hb hts i_Model hown hK hV rfl rfl (by decide) (hM.1.n 13 (by decide) (by decide)) (hts _ k_725) (os_fv_sgs (σ := σ) (ad := ad) (K := 13) (j := 0) (i := 0) (v := 2) rfl rfl) d_Model_load_32 ?_
          refine lv_if_ne (tgt := 57) hx hb d_Model_load_35 (by decide) (fun c_7 => ?_) (fun c_7 => ?_)
          · skip
            refine lv_aload_n hx hb d_Model_load_57 rfl (lv_at hl 0 rfl) ?_
            refine os_get (C := "RobotFaultsModel") (T := F_Model) (N := 38) (ci := 7) (K := 13) (j := 0) (i := 0) (v := .int 2) hx hb hts i_Model hown hK hV rfl rfl (by decide) (hM.1.n 13 (by decide) (by decide)) (hts _ k_725) (os_fv_sgs (σ := σ) (ad := ad) (K := 13) (j := 0) (i := 0) (v := 2) rfl rfl) d_Model_load_58 ?_
            refine lv_if_ne (tgt := 71) hx hb d_Model_load_61 (by decide) (fun c_8 => ?_) (fun c_8 => ?_)
            · skip
              refine os_vret hx hb hr hlocks hV (Nat.le_of_ble_eq_true rfl) (Nat.le_of_ble_eq_true rfl) d_Model_load_71 ?_
              exact ⟨rfl, Or.inr (Or.inr (Or.inl (⟨c_1, c_2, rfl, rfl⟩)))⟩
            · exact absurd c_8 (by decide)
          · exact absurd c_7 (by decide)
      · exact absurd hp.2.2 (fun h => by cases h)
    · skip
      refine lv_iconst (v := 1) hx hb d_Model_load_9 (by decide) ?_
      refine lv_goto (tgt := 28) hx hb d_Model_load_10 (by decide) ?_
      refine os_putI (C := "RobotFaultsModel") (T := F_Model) (N := 38) (ci := 7) (K := 13) (j := 0) (i := 0) (v := 1) (ty := .int) hx hb hts i_Model t_Model t_Model_ok n_Model hown hK hV rfl rfl (by decide) (hM.1.n 13 (by decide) (by decide)) (hts _ k_725) rfl rfl rfl (by decide +kernel) rfl rfl d_Model_load_28 (fun H locs hV => ?_)
      refine lv_aload_n hx hb d_Model_load_31 rfl (lv_at hl 0 rfl) ?_
      refine os_get (C := "RobotFaultsModel") (T := F_Model) (N := 38) (ci := 7) (K := 13) (j := 0) (i := 0) (v := .int 1) hx hb hts i_Model hown hK hV rfl rfl (by decide) (hM.1.n 13 (by decide) (by decide)) (hts _ k_725) (os_fv_sgs (σ := σ) (ad := ad) (K := 13) (j := 0) (i := 0) (v := 1) rfl rfl) d_Model_load_32 ?_
      refine lv_if_ne (tgt := 57) hx hb d_Model_load_35 (by decide) (fun c_9 => ?_) (fun c_9 => ?_)
      · skip
        refine lv_aload_n hx hb d_Model_load_57 rfl (lv_at hl 0 rfl) ?_
        refine os_get (C := "RobotFaultsModel") (T := F_Model) (N := 38) (ci := 7) (K := 13) (j := 0) (i := 0) (v := .int 1) hx hb hts i_Model hown hK hV rfl rfl (by decide) (hM.1.n 13 (by decide) (by decide)) (hts _ k_725) (os_fv_sgs (σ := σ) (ad := ad) (K := 13) (j := 0) (i := 0) (v := 1) rfl rfl) d_Model_load_58 ?_
        refine lv_if_ne (tgt := 71) hx hb d_Model_load_61 (by decide) (fun c_10 => ?_) (fun c_10 => ?_)
        · skip
          refine os_vret hx hb hr hlocks hV (Nat.le_of_ble_eq_true rfl) (Nat.le_of_ble_eq_true rfl) d_Model_load_71 ?_
          exact ⟨rfl, Or.inr (Or.inr (Or.inr (⟨c_1, rfl, rfl⟩)))⟩
        · exact absurd c_10 (by decide)
      · exact absurd c_9 (by decide)
  · exact absurd hp.2.2 (fun h => by cases h)
/-- what Model_move does, road by road -/
def m_move (σ : os_S) (ad : Nat → Nat → Nat) (x y : Int32) : os_O → os_S → (Nat → Nat → Nat) → Prop := fun r σ' ad' => ad = ad' ∧ ((((bz (inF x 0 (os_g σ 13 4 0 - 1))) = 0) ∧ os_sg σ 13 0 0 1 = σ' ∧ r = .inl none) ∨ ((¬ ((bz (inF x 0 (os_g σ 13 4 0 - 1))) = 0)) ∧ (¬ (bz (inF y 0 (os_g σ 13 2 0 - 1))) = 0) ∧ (¬ (os_g σ 17 (iN x) 0) = 0) ∧ os_sg (os_sg σ 13 0 0 0) 13 0 0 2 = σ' ∧ r = .inl none) ∨ ((¬ ((bz (inF x 0 (os_g σ 13 4 0 - 1))) = 0)) ∧ (¬ (bz (inF y 0 (os_g σ 13 2 0 - 1))) = 0) ∧ ((os_g σ 17 (iN x) 0) = 0) ∧ (¬ (os_g σ 14 (20 * (iN (os_g σ 15 (iN x) 0)) + (iN y)) 0) = 0) ∧ os_sg (os_sg (os_sg σ 13 0 0 0) 13 0 0 0) 15 (iN x) 0 y = σ' ∧ r = .inl none) ∨ ((¬ ((bz (inF x 0 (os_g σ 13 4 0 - 1))) = 0)) ∧ (¬ (bz (inF y 0 (os_g σ 13 2 0 - 1))) = 0) ∧ ((os_g σ 17 (iN x) 0) = 0) ∧ ((os_g σ 14 (20 * (iN (os_g σ 15 (iN x) 0)) + (iN y)) 0) = 0) ∧ os_sg (os_sg σ 13 0 0 0) 13 0 0 2 = σ' ∧ r = .inl none) ∨ ((¬ ((bz (inF x 0 (os_g σ 13 4 0 - 1))) = 0)) ∧ ((bz (inF y 0 (os_g σ 13 2 0 - 1))) = 0) ∧ os_sg σ 13 0 0 1 = σ' ∧ r = .inl none))
set_option maxHeartbeats 4000000 in
set_option maxRecDepth 100000 in
theorem c_Model_move (l : Launch) (hlt : l.stackTraces = false) (D : va_G) (cA : Nat → ClassId) (bs : Nat) (σ : os_S) (ad : Nat → Nat → Nat) (x y : Int32) (hM : MI σ) : os_Met l y_Model_move prog_9_method_13_code 3 none { frames := 2, cells := 0, slots := 0, locals := 43 } D cA bs [.ref (ad 13 0), .int x, .int y] σ ad (m_move σ ad x y) := by
  refine os_ofW (by decide) ?_
  intro p e s m below meth c hx hb hr hml hown hlocks hmn hout hE hV
  have hts := hE.hts (args := ([.ref (ad 13 0), .int x, .int y] : List Value).toArray)
  have hK := hE.2.1
  have hbs := hE.2.2.1
  have hown : s.vm.findClass "RobotFaultsModel" = some m.cls := hown
  have hl := lv_entry ([.ref (ad 13 0), .int x, .int y]) (n := 3) (Nat.le_of_ble_eq_true rfl)
  rw [lg_entry_eq]
  generalize (lg_sl ([.ref (ad 13 0), .int x, .int y]) ++ List.replicate (3 - (lg_sl ([.ref (ad 13 0), .int x, .int y])).length) Slot.unset).toArray = ls at hl ⊢
  have hl : lv_has ls 3 [(0, .ref (ad 13 0)), (1, .int x), (2, .int y)] := hl
  refine lv_aload_n hx hb d_Model_move_0 rfl (lv_at hl 0 rfl) ?_
  refine lv_aload_n hx hb d_Model_move_1 rfl (lv_at hl 0 rfl) ?_
  refine lv_iload_n hx hb d_Model_move_2 rfl (lv_at hl 1 rfl) ?_
  refine os_call (c_Model_isRobot l hlt D cA bs σ ad x hM) hE hV k_878 k_4 (os_inV (C := "RobotFaultsModel") (n := 1) (bytes := prog_9_method_5_code) (maxL := 2) (ret := (some .boolean)) hx hb hown (hts _ k_875) (hts _ k_877) (hts _ k_s22) (hts _ k_878) (by decide +kernel) rfl (os_recv hK hV rfl rfl (hM.1.n 13 (by decide) (by decide))) rfl d_Model_move_3) (hl.1.trans hml.symm) (Nat.le_of_ble_eq_true rfl) (Nat.le_of_ble_eq_true rfl) (Nat.le_of_ble_eq_true rfl) (Nat.le_of_ble_eq_true rfl) (Nat.le_of_ble_eq_true rfl) (fun v σ1 ad1 H locs hp hext hV => ?_) (fun E q ce σ1 ad1 H locs hp hext hV hce hcv hcl => ?_)
  · obtain ⟨rfl, rfl, hp⟩ := hp
    cases hp
    refine W.eq (g2 := F0 m 6 ls [.int (bz (inF x 0 (os_g σ 13 4 0 - 1))), .ref (ad 13 0)]) rfl ?_
    refine lv_if_eq (tgt := 17) hx hb d_Model_move_6 (by decide) (fun c_1 => ?_) (fun c_1 => ?_)
    · skip
      refine lv_iconst (v := 1) hx hb d_Model_move_17 (by decide) ?_
      refine lv_goto (tgt := 22) hx hb d_Model_move_18 (by decide) ?_
      refine os_putI (C := "RobotFaultsModel") (T := F_Model) (N := 38) (ci := 7) (K := 13) (j := 0) (i := 0) (v := 1) (ty := .int) hx hb hts i_Model t_Model t_Model_ok n_Model hown hK hV rfl rfl (by decide) (hM.1.n 13 (by decide) (by decide)) (hts _ k_725) rfl rfl rfl (by decide +kernel) rfl rfl d_Model_move_22 (fun H locs hV => ?_)
      refine lv_aload_n hx hb d_Model_move_25 rfl (lv_at hl 0 rfl) ?_
      refine os_get (C := "RobotFaultsModel") (T := F_Model) (N := 38) (ci := 7) (K := 13) (j := 0) (i := 0) (v := .int 1) hx hb hts i_Model hown hK hV rfl rfl (by decide) (hM.1.n 13 (by decide) (by decide)) (hts _ k_725) (os_fv_sgs (σ := σ) (ad := ad) (K := 13) (j := 0) (i := 0) (v := 1) rfl rfl) d_Model_move_26 ?_
      refine lv_if_ne (tgt := 69) hx hb d_Model_move_29 (by decide) (fun c_2 => ?_) (fun c_2 => ?_)
      · skip
        refine lv_aload_n hx hb d_Model_move_69 rfl (lv_at hl 0 rfl) ?_
        refine os_get (C := "RobotFaultsModel") (T := F_Model) (N := 38) (ci := 7) (K := 13) (j := 0) (i := 0) (v := .int 1) hx hb hts i_Model hown hK hV rfl rfl (by decide) (hM.1.n 13 (by decide) (by decide)) (hts _ k_725) (os_fv_sgs (σ := σ) (ad := ad) (K := 13) (j := 0) (i := 0) (v := 1) rfl rfl) d_Model_move_70 ?_
        refine lv_if_ne (tgt := 83) hx hb d_Model_move_73 (by decide) (fun c_3 => ?_) (fun c_3 => ?_)
        · skip
          refine os_vret hx hb hr hlocks hV (Nat.le_of_ble_eq_true rfl) (Nat.le_of_ble_eq_true rfl) d_Model_move_83 ?_
          exact ⟨rfl, Or.inl (⟨c_1, rfl, rfl⟩)⟩
        · exact absurd c_3 (by decide)
      · exact absurd c_2 (by decide)
    · skip
      refine lv_aload_n hx hb d_Model_move_9 rfl (lv_at hl 0 rfl) ?_
      refine lv_iload_n hx hb d_Model_move_10 rfl (lv_at hl 2 rfl) ?_
      refine os_call (c_Model_isPiece l hlt D cA bs σ ad y hM) hE hV k_856 k_4 (os_inV (C := "RobotFaultsModel") (n := 1) (bytes := prog_9_method_4_code) (maxL := 2) (ret := (some .boolean)) hx hb hown (hts _ k_853) (hts _ k_855) (hts _ k_s21) (hts _ k_856) (by decide +kernel) rfl (os_recv hK hV rfl rfl (hM.1.n 13 (by decide) (by decide))) rfl d_Model_move_11) (hl.1.trans hml.symm) (Nat.le_of_ble_eq_true rfl) (Nat.le_of_ble_eq_true rfl) (Nat.le_of_ble_eq_true rfl) (Nat.le_of_ble_eq_true rfl) (Nat.le_of_ble_eq_true rfl) (fun v σ1 ad1 H locs hp hext hV => ?_) (fun E q ce σ1 ad1 H locs hp hext hV hce hcv hcl => ?_)
      · obtain ⟨rfl, rfl, hp⟩ := hp
        cases hp
        refine W.eq (g2 := F0 m 14 ls [.int (bz (inF y 0 (os_g σ 13 2 0 - 1))), .ref (ad 13 0)]) rfl ?_
        refine lv_if_ne (tgt := 21) hx hb d_Model_move_14 (by decide) (fun c_4 => ?_) (fun c_4 => ?_)
        · skip
          refine lv_iconst (v := 0) hx hb d_Model_move_21 (by decide) ?_
          refine os_putI (C := "RobotFaultsModel") (T := F_Model) (N := 38) (ci := 7) (K := 13) (j := 0) (i := 0) (v := 0) (ty := .int) hx hb hts i_Model t_Model t_Model_ok n_Model hown hK hV rfl rfl (by decide) (hM.1.n 13 (by decide) (by decide)) (hts _ k_725) rfl rfl rfl (by decide +kernel) rfl rfl d_Model_move_22 (fun H locs hV => ?_)
          refine lv_aload_n hx hb d_Model_move_25 rfl (lv_at hl 0 rfl) ?_
          refine os_get (C := "RobotFaultsModel") (T := F_Model) (N := 38) (ci := 7) (K := 13) (j := 0) (i := 0) (v := .int 0) hx hb hts i_Model hown hK hV rfl rfl (by decide) (hM.1.n 13 (by decide) (by decide)) (hts _ k_725) (os_fv_sgs (σ := σ) (ad := ad) (K := 13) (j := 0) (i := 0) (v := 0) rfl rfl) d_Model_move_26 ?_
          refine lv_if_ne (tgt := 69) hx hb d_Model_move_29 (by decide) (fun c_5 => ?_) (fun c_5 => ?_)
          · exact absurd c_5 (by decide)
          · skip
            refine lv_aload_n hx hb d_Model_move_32 rfl (lv_at hl 0 rfl) ?_
            refine lv_aload_n hx hb d_Model_move_33 rfl (lv_at hl 0 rfl) ?_
            refine os_get (C := "RobotFaultsModel") (T := F_Model) (N := 38) (ci := 7) (K := 13) (j := 7) (i := 0) (v := .ref (ad 17 0)) hx hb hts i_Model hown hK hV rfl rfl (by decide) (hM.1.n 13 (by decide) (by decide)) (hts _ k_732) (congrArg (fun z => va_rf (Option.map (ad 17) z)) (hM.1.2.1 7 (by decide) (by decide))) d_Model_move_34 ?_
            refine lv_iload_n hx hb d_Model_move_37 rfl (lv_at hl 1 rfl) ?_
            refine os_ialdN (K := 17) (i := 0) (t0 := 0) (n := (iN x)) hx hb hK hV rfl rfl rfl (hM.1.n 17 (by decide) (by decide)) (inF.ix (σ := σ) (bz_1 c_1) hM.2.2.1).1 (by rw [show os_l (os_sg σ 13 0 0 0) 17 0 = 8 from hM.1.2.2 17 (by decide) (by decide)]; have h9 := (Nat.lt_of_lt_of_le (inF.ix (σ := σ) (bz_1 c_1) hM.2.2.1).2 hM.2.2.1.2); omega) (by rw [show os_l (os_sg σ 13 0 0 0) 17 0 = 8 from hM.1.2.2 17 (by decide) (by decide)]; decide) d_Model_move_38 ?_
            refine W.eq (g2 := F0 m 39 ls [.int (os_g σ 17 (iN x) 0), .ref (ad 13 0)]) (congrArg (fun z => F0 m 39 ls (.int z :: [.ref (ad 13 0)])) (show os_g (os_sg σ 13 0 0 0) 17 (iN x) 0 = os_g σ 17 (iN x) 0 from rfl)) ?_
            refine lv_if_ne (tgt := 61) hx hb d_Model_move_39 (by decide) (fun c_6 => ?_) (fun c_6 => ?_)
            · skip
              refine lv_iconst (v := 2) hx hb d_Model_move_61 (by decide) ?_
              refine lv_goto (tgt := 66) hx hb d_Model_move_62 (by decide) ?_
              refine os_putI (C := "RobotFaultsModel") (T := F_Model) (N := 38) (ci := 7) (K := 13) (j := 0) (i := 0) (v := 2) (ty := .int) hx hb hts i_Model t_Model t_Model_ok n_Model hown hK hV rfl rfl (by decide) (hM.1.n 13 (by decide) (by decide)) (hts _ k_725) rfl rfl rfl (by decide +kernel) rfl rfl d_Model_move_66 (fun H locs hV => ?_)
              refine lv_aload_n hx hb d_Model_move_69 rfl (lv_at hl 0 rfl) ?_
              refine os_get (C := "RobotFaultsModel") (T := F_Model) (N := 38) (ci := 7) (K := 13) (j := 0) (i := 0) (v := .int 2) hx hb hts i_Model hown hK hV rfl rfl (by decide) (hM.1.n 13 (by decide) (by decide)) (hts _ k_725) (os_fv_sgs (σ := os_sg σ 13 0 0 0) (ad := ad) (K := 13) (j := 0) (i := 0) (v := 2) rfl rfl) d_Model_move_70 ?_
              refine lv_if_ne (tgt := 83) hx hb d_Model_move_73 (by decide) (fun c_7 => ?_) (fun c_7 => ?_)
              · skip
                refine os_vret hx hb hr hlocks hV (Nat.le_of_ble_eq_true rfl) (Nat.le_of_ble_eq_true rfl) d_Model_move_83 ?_
                exact ⟨rfl, Or.inr (Or.inl (⟨c_1, c_4, c_6, rfl, rfl⟩))⟩
              · exact absurd c_7 (by decide)
            · skip
              refine lv_aload_n hx hb d_Model_move_42 rfl (lv_at hl 0 rfl) ?_
              refine os_get (C := "RobotFaultsModel") (T := F_Model) (N := 38) (ci := 7) (K := 13) (j := 3) (i := 0) (v := .ref (ad 14 0)) hx hb hts i_Model hown hK hV rfl rfl (by decide) (hM.1.n 13 (by decide) (by decide)) (hts _ k_728) (congrArg (fun z => va_rf (Option.map (ad 14) z)) (hM.1.2.1 3 (by decide) (by decide))) d_Model_move_43 ?_
              refine lv_bipush (v := 20) hx hb d_Model_move_46 (by decide) ?_
              refine lv_aload_n hx hb d_Model_move_48 rfl (lv_at hl 0 rfl) ?_
              refine os_get (C := "RobotFaultsModel") (T := F_Model) (N := 38) (ci := 7) (K := 13) (j := 5) (i := 0) (v := .ref (ad 15 0)) hx hb hts i_Model hown hK hV rfl rfl (by decide) (hM.1.n 13 (by decide) (by decide)) (hts _ k_730) (congrArg (fun z => va_rf (Option.map (ad 15) z)) (hM.1.2.1 5 (by decide) (by decide))) d_Model_move_49 ?_
              refine lv_iload_n hx hb d_Model_move_52 rfl (lv_at hl 1 rfl) ?_
              refine os_ialdN (K := 15) (i := 0) (t0 := 0) (n := (iN x)) hx hb hK hV rfl rfl rfl (hM.1.n 15 (by decide) (by decide)) (inF.ix (σ := σ) (bz_1 c_1) hM.2.2.1).1 (by rw [show os_l (os_sg σ 13 0 0 0) 15 0 = 8 from hM.1.2.2 15 (by decide) (by decide)]; have h9 := (Nat.lt_of_lt_of_le (inF.ix (σ := σ) (bz_1 c_1) hM.2.2.1).2 hM.2.2.1.2); omega) (by rw [show os_l (os_sg σ 13 0 0 0) 15 0 = 8 from hM.1.2.2 15 (by decide) (by decide)]; decide) d_Model_move_53 ?_
              refine W.eq (g2 := F0 m 54 ls [.int (os_g σ 15 (iN x) 0), .int 20, .ref (ad 14 0), .ref (ad 13 0)]) (congrArg (fun z => F0 m 54 ls (.int z :: [.int 20, .ref (ad 14 0), .ref (ad 13 0)])) (show os_g (os_sg σ 13 0 0 0) 15 (iN x) 0 = os_g σ 15 (iN x) 0 from rfl)) ?_
              refine lv_imul hx hb d_Model_move_54 ?_
              refine lv_iload_n hx hb d_Model_move_55 rfl (lv_at hl 2 rfl) ?_
              refine lv_iadd hx hb d_Model_move_56 ?_
              refine os_zaldN (K := 14) (i := 0) (t0 := 1) (n := (20 * (iN (os_g σ 15 (iN x) 0)) + (iN y))) hx hb hK hV rfl rfl rfl (hM.1.n 14 (by decide) (by decide)) (ix20 (hM.2.2.2.2.2.2.1 (iN x) (Nat.lt_of_lt_of_le (inF.ix (σ := σ) (bz_1 c_1) hM.2.2.1).2 hM.2.2.1.2)).1 (inF.ix (σ := σ) (bz_1 c_4) hM.2.1).1) (by rw [show os_l (os_sg σ 13 0 0 0) 14 0 = 400 from hM.1.2.2 14 (by decide) (by decide)]; have h9 := (show iN (os_g σ 15 (iN x) 0) < 20 ∧ iN y < 20 from ⟨by have h8 := (hM.2.2.2.2.2.2.1 (iN x) (Nat.lt_of_lt_of_le (inF.ix (σ := σ) (bz_1 c_1) hM.2.2.1).2 hM.2.2.1.2)).2; omega, by have h8 := (Nat.lt_of_lt_of_le (inF.ix (σ := σ) (bz_1 c_4) hM.2.1).2 hM.2.1.2); omega⟩); omega) (by rw [show os_l (os_sg σ 13 0 0 0) 14 0 = 400 from hM.1.2.2 14 (by decide) (by decide)]; decide) d_Model_move_57 ?_
              refine W.eq (g2 := F0 m 58 ls [.int (os_g σ 14 (20 * (iN (os_g σ 15 (iN x) 0)) + (iN y)) 0), .ref (ad 13 0)]) (congrArg (fun z => F0 m 58 ls (.int z :: [.ref (ad 13 0)])) (show os_g (os_sg σ 13 0 0 0) 14 (20 * (iN (os_g σ 15 (iN x) 0)) + (iN y)) 0 = os_g σ 14 (20 * (iN (os_g σ 15 (iN x) 0)) + (iN y)) 0 from rfl)) ?_
              refine lv_if_ne (tgt := 65) hx hb d_Model_move_58 (by decide) (fun c_8 => ?_) (fun c_8 => ?_)
              · skip
                refine lv_iconst (v := 0) hx hb d_Model_move_65 (by decide) ?_
                refine os_putI (C := "RobotFaultsModel") (T := F_Model) (N := 38) (ci := 7) (K := 13) (j := 0) (i := 0) (v := 0) (ty := .int) hx hb hts i_Model t_Model t_Model_ok n_Model hown hK hV rfl rfl (by decide) (hM.1.n 13 (by decide) (by decide)) (hts _ k_725) rfl rfl rfl (by decide +kernel) rfl rfl d_Model_move_66 (fun H locs hV => ?_)
                refine lv_aload_n hx hb d_Model_move_69 rfl (lv_at hl 0 rfl) ?_
                refine os_get (C := "RobotFaultsModel") (T := F_Model) (N := 38) (ci := 7) (K := 13) (j := 0) (i := 0) (v := .int 0) hx hb hts i_Model hown hK hV rfl rfl (by decide) (hM.1.n 13 (by decide) (by decide)) (hts _ k_725) (os_fv_sgs (σ := os_sg σ 13 0 0 0) (ad := ad) (K := 13) (j := 0) (i := 0) (v := 0) rfl rfl) d_Model_move_70 ?_
                refine lv_if_ne (tgt := 83) hx hb d_Model_move_73 (by decide) (fun c_9 => ?_) (fun c_9 => ?_)
                · exact absurd c_9 (by decide)
                · skip
                  refine lv_aload_n hx hb d_Model_move_76 rfl (lv_at hl 0 rfl) ?_
                  refine os_get (C := "RobotFaultsModel") (T := F_Model) (N := 38) (ci := 7) (K := 13) (j := 5) (i := 0) (v := .ref (ad 15 0)) hx hb hts i_Model hown hK hV rfl rfl (by decide) (hM.1.n 13 (by decide) (by decide)) (hts _ k_730) (congrArg (fun z => va_rf (Option.map (ad 15) z)) (hM.1.2.1 5 (by decide) (by decide))) d_Model_move_77 ?_
                  refine lv_iload_n hx hb d_Model_move_80 rfl (lv_at hl 1 rfl) ?_
                  refine lv_iload_n hx hb d_Model_move_81 rfl (lv_at hl 2 rfl) ?_
                  refine os_iastN (K := 15) (i := 0) (t0 := 0) (n := (iN x)) hx hb hK hV rfl rfl rfl (hM.1.n 15 (by decide) (by decide)) (inF.ix (σ := σ) (bz_1 c_1) hM.2.2.1).1 (by rw [show os_l (os_sg (os_sg σ 13 0 0 0) 13 0 0 0) 15 0 = 8 from hM.1.2.2 15 (by decide) (by decide)]; have h9 := (Nat.lt_of_lt_of_le (inF.ix (σ := σ) (bz_1 c_1) hM.2.2.1).2 hM.2.2.1.2); omega) (by rw [show os_l (os_sg (os_sg σ 13 0 0 0) 13 0 0 0) 15 0 = 8 from hM.1.2.2 15 (by decide) (by decide)]; decide) d_Model_move_82 (fun H locs hV => ?_)
                  refine os_vret hx hb hr hlocks hV (Nat.le_of_ble_eq_true rfl) (Nat.le_of_ble_eq_true rfl) d_Model_move_83 ?_
                  exact ⟨rfl, Or.inr (Or.inr (Or.inl (⟨c_1, c_4, c_6, c_8, rfl, rfl⟩)))⟩
              · skip
                refine lv_iconst (v := 2) hx hb d_Model_move_61 (by decide) ?_
                refine lv_goto (tgt := 66) hx hb d_Model_move_62 (by decide) ?_
                refine os_putI (C := "RobotFaultsModel") (T := F_Model) (N := 38) (ci := 7) (K := 13) (j := 0) (i := 0) (v := 2) (ty := .int) hx hb hts i_Model t_Model t_Model_ok n_Model hown hK hV rfl rfl (by decide) (hM.1.n 13 (by decide) (by decide)) (hts _ k_725) rfl rfl rfl (by decide +kernel) rfl rfl d_Model_move_66 (fun H locs hV => ?_)
                refine lv_aload_n hx hb d_Model_move_69 rfl (lv_at hl 0 rfl) ?_
                refine os_get (C := "RobotFaultsModel") (T := F_Model) (N := 38) (ci := 7) (K := 13) (j := 0) (i := 0) (v := .int 2) hx hb hts i_Model hown hK hV rfl rfl (by decide) (hM.1.n 13 (by decide) (by decide)) (hts _ k_725) (os_fv_sgs (σ := os_sg σ 13 0 0 0) (ad := ad) (K := 13) (j := 0) (i := 0) (v := 2) rfl rfl) d_Model_move_70 ?_
                refine lv_if_ne (tgt := 83) hx hb d_Model_move_73 (by decide) (fun c_10 => ?_) (fun c_10 => ?_)
                · skip
                  refine os_vret hx hb hr hlocks hV (Nat.le_of_ble_eq_true rfl) (Nat.le_of_ble_eq_true rfl) d_Model_move_83 ?_
                  exact ⟨rfl, Or.inr (Or.inr (Or.inr (Or.inl (⟨c_1, c_4, c_6, c_8, rfl, rfl⟩))))⟩
                · exact absurd c_10 (by decide)
        · skip
          refine lv_iconst (v := 1) hx hb d_Model_move_17 (by decide) ?_
          refine lv_goto (tgt := 22) hx hb d_Model_move_18 (by decide) ?_
          refine os_putI (C := "RobotFaultsModel") (T := F_Model) (N := 38) (ci := 7) (K := 13) (j := 0) (i := 0) (v := 1) (ty := .int) hx hb hts i_Model t_Model t_Model_ok n_Model hown hK hV rfl rfl (by decide) (hM.1.n 13 (by decide) (by decide)) (hts _ k_725) rfl rfl rfl (by decide +kernel) rfl rfl d_Model_move_22 (fun H locs hV => ?_)
          refine lv_aload_n hx hb d_Model_move_25 rfl (lv_at hl 0 rfl) ?_
          refine os_get (C := "RobotFaultsModel") (T := F_Model) (N := 38) (ci := 7) (K := 13) (j := 0) (i := 0) (v := .int 1) hx hb hts i_Model hown hK hV rfl rfl (by decide) (hM.1.n 13 (by decide) (by decide)) (hts _ k_725) (os_fv_sgs (σ := σ) (ad := ad) (K := 13) (j := 0) (i := 0) (v := 1) rfl rfl) d_Model_move_26 ?_
          refine lv_if_ne (tgt := 69) hx hb d_Model_move_29 (by decide) (fun c_11 => ?_) (fun c_11 => ?_)
          · skip
            refine lv_aload_n hx hb d_Model_move_69 rfl (lv_at hl 0 rfl) ?_
            refine os_get (C := "RobotFaultsModel") (T := F_Model) (N := 38) (ci := 7) (K := 13) (j := 0) (i := 0) (v := .int 1) hx hb hts i_Model hown hK hV rfl rfl (by decide) (hM.1.n 13 (by decide) (by decide)) (hts _ k_725) (os_fv_sgs (σ := σ) (ad := ad) (K := 13) (j := 0) (i := 0) (v := 1) rfl rfl) d_Model_move_70 ?_
            refine lv_if_ne (tgt := 83) hx hb d_Model_move_73 (by decide) (fun c_12 => ?_) (fun c_12 => ?_)
            · skip
              refine os_vret hx hb hr hlocks hV (Nat.le_of_ble_eq_true rfl) (Nat.le_of_ble_eq_true rfl) d_Model_move_83 ?_
              exact ⟨rfl, Or.inr (Or.inr (Or.inr (Or.inr (⟨c_1, c_4, rfl, rfl⟩))))⟩
            · exact absurd c_12 (by decide)
          · exact absurd c_11 (by decide)
      · exact absurd hp.2.2 (fun h => by cases h)
  · exact absurd hp.2.2 (fun h => by cases h)
/-- what Model_tow does, road by road -/
def m_tow (σ : os_S) (ad : Nat → Nat → Nat) (x y : Int32) : os_O → os_S → (Nat → Nat → Nat) → Prop := fun r σ' ad' => ad = ad' ∧ ((((bz (inF x 0 (os_g σ 13 4 0 - 1))) = 0) ∧ os_sg σ 13 0 0 1 = σ' ∧ r = .inl none) ∨ ((¬ ((bz (inF x 0 (os_g σ 13 4 0 - 1))) = 0)) ∧ (¬ (bz (inF y 0 (os_g σ 13 2 0 - 1))) = 0) ∧ ((os_g σ 17 (iN x) 0) = 1) ∧ os_sg (os_sg (os_sg (os_sg σ 13 0 0 0) 13 0 0 0) 17 (iN x) 0 3) 15 (iN x) 0 y = σ' ∧ r = .inl none) ∨ ((¬ ((bz (inF x 0 (os_g σ 13 4 0 - 1))) = 0)) ∧ (¬ (bz (inF y 0 (os_g σ 13 2 0 - 1))) = 0) ∧ (¬ ((os_g σ 17 (iN x) 0) = 1)) ∧ ((os_g σ 17 (iN x) 0) = 3) ∧ os_sg (os_sg (os_sg (os_sg σ 13 0 0 0) 13 0 0 0) 17 (iN x) 0 3) 15 (iN x) 0 y = σ' ∧ r = .inl none) ∨ ((¬ ((bz (inF x 0 (os_g σ 13 4 0 - 1))) = 0)) ∧ (¬ (bz (inF y 0 (os_g σ 13 2 0 - 1))) = 0) ∧ (¬ ((os_g σ 17 (iN x) 0) = 1)) ∧ (¬ ((os_g σ 17 (iN x) 0) = 3)) ∧ os_sg (os_sg σ 13 0 0 0) 13 0 0 2 = σ' ∧ r = .inl none) ∨ ((¬ ((bz (inF x 0 (os_g σ 13 4 0 - 1))) = 0)) ∧ ((bz (inF y 0 (os_g σ 13 2 0 - 1))) = 0) ∧ os_sg σ 13 0 0 1 = σ' ∧ r = .inl none))
set_option maxHeartbeats 4000000 in
set_option maxRecDepth 100000 in
theorem c_Model_tow (l : Launch) (hlt : l.stackTraces = false) (D : va_G) (cA : Nat → ClassId) (bs : Nat) (σ : os_S) (ad : Nat → Nat → Nat) (x y : Int32) (hM : MI σ) : os_Met l y_Model_tow prog_9_method_29_code 3 none { frames := 2, cells := 0, slots := 0, locals := 43 } D cA bs [.ref (ad 13 0), .int x, .int y] σ ad (m_tow σ ad x y) := by
  refine os_ofW (by decide) ?_
  intro p e s m below meth c hx hb hr hml hown hlocks hmn hout hE hV
  have hts := hE.hts (args := ([.ref (ad 13 0), .int x, .int y] : List Value).toArray)
  have hK := hE.2.1
  have hbs := hE.2.2.1
  have hown : s.vm.findClass "RobotFaultsModel" = some m.cls := hown
  have hl := lv_entry ([.ref (ad 13 0), .int x, .int y]) (n := 3) (Nat.le_of_ble_eq_true rfl)
  rw [lg_entry_eq]
  generalize (lg_sl ([.ref (ad 13 0), .int x, .int y]) ++ List.replicate (3 - (lg_sl ([.ref (ad 13 0), .int x, .int y])).length) Slot.unset).toArray = ls at hl ⊢
  have hl : lv_has ls 3 [(0, .ref (ad 13 0)), (1, .int x), (2, .int y)] := hl
  refine lv_aload_n hx hb d_Model_tow_0 rfl (lv_at hl 0 rfl) ?_
  refine lv_aload_n hx hb d_Model_tow_1 rfl (lv_at hl 0 rfl) ?_
  refine lv_iload_n hx hb d_Model_tow_2 rfl (lv_at hl 1 rfl) ?_
  refine os_call (c_Model_isRobot l hlt D cA bs σ ad x hM) hE hV k_878 k_4 (os_inV (C := "RobotFaultsModel") (n := 1) (bytes := prog_9_method_5_code) (maxL := 2) (ret := (some .boolean)) hx hb hown (hts _ k_875) (hts _ k_877) (hts _ k_s22) (hts _ k_878) (by decide +kernel) rfl (os_recv hK hV rfl rfl (hM.1.n 13 (by decide) (by decide))) rfl d_Model_tow_3) (hl.1.trans hml.symm) (Nat.le_of_ble_eq_true rfl) (Nat.le_of_ble_eq_true rfl) (Nat.le_of_ble_eq_true rfl) (Nat.le_of_ble_eq_true rfl) (Nat.le_of_ble_eq_true rfl) (fun v σ1 ad1 H locs hp hext hV => ?_) (fun E q ce σ1 ad1 H locs hp hext hV hce hcv hcl => ?_)
  · obtain ⟨rfl, rfl, hp⟩ := hp
    cases hp
    refine W.eq (g2 := F0 m 6 ls [.int (bz (inF x 0 (os_g σ 13 4 0 - 1))), .ref (ad 13 0)]) rfl ?_
    refine lv_if_eq (tgt := 17) hx hb d_Model_tow_6 (by decide) (fun c_1 => ?_) (fun c_1 => ?_)
    · skip
      refine lv_iconst (v := 1) hx hb d_Model_tow_17 (by decide) ?_
      refine lv_goto (tgt := 22) hx hb d_Model_tow_18 (by decide) ?_
      refine os_putI (C := "RobotFaultsModel") (T := F_Model) (N := 38) (ci := 7) (K := 13) (j := 0) (i := 0) (v := 1) (ty := .int) hx hb hts i_Model t_Model t_Model_ok n_Model hown hK hV rfl rfl (by decide) (hM.1.n 13 (by decide) (by decide)) (hts _ k_725) rfl rfl rfl (by decide +kernel) rfl rfl d_Model_tow_22 (fun H locs hV => ?_)
      refine lv_aload_n hx hb d_Model_tow_25 rfl (lv_at hl 0 rfl) ?_
      refine os_get (C := "RobotFaultsModel") (T := F_Model) (N := 38) (ci := 7) (K := 13) (j := 0) (i := 0) (v := .int 1) hx hb hts i_Model hown hK hV rfl rfl (by decide) (hM.1.n 13 (by decide) (by decide)) (hts _ k_725) (os_fv_sgs (σ := σ) (ad := ad) (K := 13) (j := 0) (i := 0) (v := 1) rfl rfl) d_Model_tow_26 ?_
      refine lv_if_ne (tgt := 61) hx hb d_Model_tow_29 (by decide) (fun c_2 => ?_) (fun c_2 => ?_)
      · skip
        refine lv_aload_n hx hb d_Model_tow_61 rfl (lv_at hl 0 rfl) ?_
        refine os_get (C := "RobotFaultsModel") (T := F_Model) (N := 38) (ci := 7) (K := 13) (j := 0) (i := 0) (v := .int 1) hx hb hts i_Model hown hK hV rfl rfl (by decide) (hM.1.n 13 (by decide) (by decide)) (hts _ k_725) (os_fv_sgs (σ := σ) (ad := ad) (K := 13) (j := 0) (i := 0) (v := 1) rfl rfl) d_Model_tow_62 ?_
        refine lv_if_le (tgt := 69) hx hb d_Model_tow_65 (by decide) (fun c_3 => ?_) (fun c_3 => ?_)
        · exact absurd c_3 (by decide)
        · skip
          refine os_vret hx hb hr hlocks hV (Nat.le_of_ble_eq_true rfl) (Nat.le_of_ble_eq_true rfl) d_Model_tow_68 ?_
          exact ⟨rfl, Or.inl (⟨c_1, rfl, rfl⟩)⟩
      · exact absurd c_2 (by decide)
    · skip
      refine lv_aload_n hx hb d_Model_tow_9 rfl (lv_at hl 0 rfl) ?_
      refine lv_iload_n hx hb d_Model_tow_10 rfl (lv_at hl 2 rfl) ?_
      refine os_call (c_Model_isPiece l hlt D cA bs σ ad y hM) hE hV k_856 k_4 (os_inV (C := "RobotFaultsModel") (n := 1) (bytes := prog_9_method_4_code) (maxL := 2) (ret := (some .boolean)) hx hb hown (hts _ k_853) (hts _ k_855) (hts _ k_s21) (hts _ k_856) (by decide +kernel) rfl (os_recv hK hV rfl rfl (hM.1.n 13 (by decide) (by decide))) rfl d_Model_tow_11) (hl.1.trans hml.symm) (Nat.le_of_ble_eq_true rfl) (Nat.le_of_ble_eq_true rfl) (Nat.le_of_ble_eq_true rfl) (Nat.le_of_ble_eq_true rfl) (Nat.le_of_ble_eq_true rfl) (fun v σ1 ad1 H locs hp hext hV => ?_) (fun E q ce σ1 ad1 H locs hp hext hV hce hcv hcl => ?_)
      · obtain ⟨rfl, rfl, hp⟩ := hp
        cases hp
        refine W.eq (g2 := F0 m 14 ls [.int (bz (inF y 0 (os_g σ 13 2 0 - 1))), .ref (ad 13 0)]) rfl ?_
        refine lv_if_ne (tgt := 21) hx hb d_Model_tow_14 (by decide) (fun c_4 => ?_) (fun c_4 => ?_)
        · skip
          refine lv_iconst (v := 0) hx hb d_Model_tow_21 (by decide) ?_
          refine os_putI (C := "RobotFaultsModel") (T := F_Model) (N := 38) (ci := 7) (K := 13) (j := 0) (i := 0) (v := 0) (ty := .int) hx hb hts i_Model t_Model t_Model_ok n_Model hown hK hV rfl rfl (by decide) (hM.1.n 13 (by decide) (by decide)) (hts _ k_725) rfl rfl rfl (by decide +kernel) rfl rfl d_Model_tow_22 (fun H locs hV => ?_)
          refine lv_aload_n hx hb d_Model_tow_25 rfl (lv_at hl 0 rfl) ?_
          refine os_get (C := "RobotFaultsModel") (T := F_Model) (N := 38) (ci := 7) (K := 13) (j := 0) (i := 0) (v := .int 0) hx hb hts i_Model hown hK hV rfl rfl (by decide) (hM.1.n 13 (by decide) (by decide)) (hts _ k_725) (os_fv_sgs (σ := σ) (ad := ad) (K := 13) (j := 0) (i := 0) (v := 0) rfl rfl) d_Model_tow_26 ?_
          refine lv_if_ne (tgt := 61) hx hb d_Model_tow_29 (by decide) (fun c_5 => ?_) (fun c_5 => ?_)
          · exact absurd c_5 (by decide)
          · skip
            refine lv_aload_n hx hb d_Model_tow_32 rfl (lv_at hl 0 rfl) ?_
            refine lv_aload_n hx hb d_Model_tow_33 rfl (lv_at hl 0 rfl) ?_
            refine os_get (C := "RobotFaultsModel") (T := F_Model) (N := 38) (ci := 7) (K := 13) (j := 7) (i := 0) (v := .ref (ad 17 0)) hx hb hts i_Model hown hK hV rfl rfl (by decide) (hM.1.n 13 (by decide) (by decide)) (hts _ k_732) (congrArg (fun z => va_rf (Option.map (ad 17) z)) (hM.1.2.1 7 (by decide) (by decide))) d_Model_tow_34 ?_
            refine lv_iload_n hx hb d_Model_tow_37 rfl (lv_at hl 1 rfl) ?_
            refine os_ialdN (K := 17) (i := 0) (t0 := 0) (n := (iN x)) hx hb hK hV rfl rfl rfl (hM.1.n 17 (by decide) (by decide)) (inF.ix (σ := σ) (bz_1 c_1) hM.2.2.1).1 (by rw [show os_l (os_sg σ 13 0 0 0) 17 0 = 8 from hM.1.2.2 17 (by decide) (by decide)]; have h9 := (Nat.lt_of_lt_of_le (inF.ix (σ := σ) (bz_1 c_1) hM.2.2.1).2 hM.2.2.1.2); omega) (by rw [show os_l (os_sg σ 13 0 0 0) 17 0 = 8 from hM.1.2.2 17 (by decide) (by decide)]; decide) d_Model_tow_38 ?_
            refine W.eq (g2 := F0 m 39 ls [.int (os_g σ 17 (iN x) 0), .ref (ad 13 0)]) (congrArg (fun z => F0 m 39 ls (.int z :: [.ref (ad 13 0)])) (show os_g (os_sg σ 13 0 0 0) 17 (iN x) 0 = os_g σ 17 (iN x) 0 from rfl)) ?_
            refine lv_iconst (v := 1) hx hb d_Model_tow_39 (by decide) ?_
            refine lv_icmp_eq (tgt := 57) hx hb d_Model_tow_40 (by decide) (fun c_6 => ?_) (fun c_6 => ?_)
            · skip
              refine lv_iconst (v := 0) hx hb d_Model_tow_57 (by decide) ?_
              refine os_putI (C := "RobotFaultsModel") (T := F_Model) (N := 38) (ci := 7) (K := 13) (j := 0) (i := 0) (v := 0) (ty := .int) hx hb hts i_Model t_Model t_Model_ok n_Model hown hK hV rfl rfl (by decide) (hM.1.n 13 (by decide) (by decide)) (hts _ k_725) rfl rfl rfl (by decide +kernel) rfl rfl d_Model_tow_58 (fun H locs hV => ?_)
              refine lv_aload_n hx hb d_Model_tow_61 rfl (lv_at hl 0 rfl) ?_
              refine os_get (C := "RobotFaultsModel") (T := F_Model) (N := 38) (ci := 7) (K := 13) (j := 0) (i := 0) (v := .int 0) hx hb hts i_Model hown hK hV rfl rfl (by decide) (hM.1.n 13 (by decide) (by decide)) (hts _ k_725) (os_fv_sgs (σ := os_sg σ 13 0 0 0) (ad := ad) (K := 13) (j := 0) (i := 0) (v := 0) rfl rfl) d_Model_tow_62 ?_
              refine lv_if_le (tgt := 69) hx hb d_Model_tow_65 (by decide) (fun c_7 => ?_) (fun c_7 => ?_)
              · skip
                refine lv_aload_n hx hb d_Model_tow_69 rfl (lv_at hl 0 rfl) ?_
                refine os_get (C := "RobotFaultsModel") (T := F_Model) (N := 38) (ci := 7) (K := 13) (j := 7) (i := 0) (v := .ref (ad 17 0)) hx hb hts i_Model hown hK hV rfl rfl (by decide) (hM.1.n 13 (by decide) (by decide)) (hts _ k_732) (congrArg (fun z => va_rf (Option.map (ad 17) z)) (hM.1.2.1 7 (by decide) (by decide))) d_Model_tow_70 ?_
                refine lv_iload_n hx hb d_Model_tow_73 rfl (lv_at hl 1 rfl) ?_
                refine lv_iconst (v := 3) hx hb d_Model_tow_74 (by decide) ?_
                refine os_iastN (K := 17) (i := 0) (t0 := 0) (n := (iN x)) hx hb hK hV rfl rfl rfl (hM.1.n 17 (by decide) (by decide)) (inF.ix (σ := σ) (bz_1 c_1) hM.2.2.1).1 (by rw [show os_l (os_sg (os_sg σ 13 0 0 0) 13 0 0 0) 17 0 = 8 from hM.1.2.2 17 (by decide) (by decide)]; have h9 := (Nat.lt_of_lt_of_le (inF.ix (σ := σ) (bz_1 c_1) hM.2.2.1).2 hM.2.2.1.2); omega) (by rw [show os_l (os_sg (os_sg σ 13 0 0 0) 13 0 0 0) 17 0 = 8 from hM.1.2.2 17 (by decide) (by decide)]; decide) d_Model_tow_75 (fun H locs hV => ?_)
                refine lv_aload_n hx hb d_Model_tow_76 rfl (lv_at hl 0 rfl) ?_
                refine os_get (C := "RobotFaultsModel") (T := F_Model) (N := 38) (ci := 7) (K := 13) (j := 5) (i := 0) (v := .ref (ad 15 0)) hx hb hts i_Model hown hK hV rfl rfl (by decide) (hM.1.n 13 (by decide) (by decide)) (hts _ k_730) (congrArg (fun z => va_rf (Option.map (ad 15) z)) (hM.1.2.1 5 (by decide) (by decide))) d_Model_tow_77 ?_
                refine lv_iload_n hx hb d_Model_tow_80 rfl (lv_at hl 1 rfl) ?_
                refine lv_iload_n hx hb d_Model_tow_81 rfl (lv_at hl 2 rfl) ?_
                refine os_iastN (K := 15) (i := 0) (t0 := 0) (n := (iN x)) hx hb hK hV rfl rfl rfl (hM.1.n 15 (by decide) (by decide)) (inF.ix (σ := σ) (bz_1 c_1) hM.2.2.1).1 (by rw [show os_l (os_sg (os_sg (os_sg σ 13 0 0 0) 13 0 0 0) 17 (iN x) 0 3) 15 0 = 8 from hM.1.2.2 15 (by decide) (by decide)]; have h9 := (Nat.lt_of_lt_of_le (inF.ix (σ := σ) (bz_1 c_1) hM.2.2.1).2 hM.2.2.1.2); omega) (by rw [show os_l (os_sg (os_sg (os_sg σ 13 0 0 0) 13 0 0 0) 17 (iN x) 0 3) 15 0 = 8 from hM.1.2.2 15 (by decide) (by decide)]; decide) d_Model_tow_82 (fun H locs hV => ?_)
                refine os_vret hx hb hr hlocks hV (Nat.le_of_ble_eq_true rfl) (Nat.le_of_ble_eq_true rfl) d_Model_tow_83 ?_
                exact ⟨rfl, Or.inr (Or.inl (⟨c_1, c_4, c_6, rfl, rfl⟩))⟩
              · exact absurd (by decide) c_7
            · skip
              refine lv_aload_n hx hb d_Model_tow_43 rfl (lv_at hl 0 rfl) ?_
              refine os_get (C := "RobotFaultsModel") (T := F_Model) (N := 38) (ci := 7) (K := 13) (j := 7) (i := 0) (v := .ref (ad 17 0)) hx hb hts i_Model hown hK hV rfl rfl (by decide) (hM.1.n 13 (by decide) (by decide)) (hts _ k_732) (congrArg (fun z => va_rf (Option.map (ad 17) z)) (hM.1.2.1 7 (by decide) (by decide))) d_Model_tow_44 ?_
              refine lv_iload_n hx hb d_Model_tow_47 rfl (lv_at hl 1 rfl) ?_
              refine os_ialdN (K := 17) (i := 0) (t0 := 0) (n := (iN x)) hx hb hK hV rfl rfl rfl (hM.1.n 17 (by decide) (by decide)) (inF.ix (σ := σ) (bz_1 c_1) hM.2.2.1).1 (by rw [show os_l (os_sg σ 13 0 0 0) 17 0 = 8 from hM.1.2.2 17 (by decide) (by decide)]; have h9 := (Nat.lt_of_lt_of_le (inF.ix (σ := σ) (bz_1 c_1) hM.2.2.1).2 hM.2.2.1.2); omega) (by rw [show os_l (os_sg σ 13 0 0 0) 17 0 = 8 from hM.1.2.2 17 (by decide) (by decide)]; decide) d_Model_tow_48 ?_
              refine W.eq (g2 := F0 m 49 ls [.int (os_g σ 17 (iN x) 0), .ref (ad 13 0)]) (congrArg (fun z => F0 m 49 ls (.int z :: [.ref (ad 13 0)])) (show os_g (os_sg σ 13 0 0 0) 17 (iN x) 0 = os_g σ 17 (iN x) 0 from rfl)) ?_
              refine lv_iconst (v := 3) hx hb d_Model_tow_49 (by decide) ?_
              refine lv_icmp_eq (tgt := 57) hx hb d_Model_tow_50 (by decide) (fun c_8 => ?_) (fun c_8 => ?_)
              · skip
                refine lv_iconst (v := 0) hx hb d_Model_tow_57 (by decide) ?_
                refine os_putI (C := "RobotFaultsModel") (T := F_Model) (N := 38) (ci := 7) (K := 13) (j := 0) (i := 0) (v := 0) (ty := .int) hx hb hts i_Model t_Model t_Model_ok n_Model hown hK hV rfl rfl (by decide) (hM.1.n 13 (by decide) (by decide)) (hts _ k_725) rfl rfl rfl (by decide +kernel) rfl rfl d_Model_tow_58 (fun H locs hV => ?_)
                refine lv_aload_n hx hb d_Model_tow_61 rfl (lv_at hl 0 rfl) ?_
                refine os_get (C := "RobotFaultsModel") (T := F_Model) (N := 38) (ci := 7) (K := 13) (j := 0) (i := 0) (v := .int 0) hx hb hts i_Model hown hK hV rfl rfl (by decide) (hM.1.n 13 (by decide) (by decide)) (hts _ k_725) (os_fv_sgs (σ := os_sg σ 13 0 0 0) (ad := ad) (K := 13) (j := 0) (i := 0) (v := 0) rfl rfl) d_Model_tow_62 ?_
                refine lv_if_le (tgt := 69) hx hb d_Model_tow_65 (by decide) (fun c_9 => ?_) (fun c_9 => ?_)
                · skip
                  refine lv_aload_n hx hb d_Model_tow_69 rfl (lv_at hl 0 rfl) ?_
                  refine os_get (C := "RobotFaultsModel") (T := F_Model) (N := 38) (ci := 7) (K := 13) (j := 7) (i := 0) (v := .ref (ad 17 0)) hx hb hts i_Model hown hK hV rfl rfl (by decide) (hM.1.n 13 (by decide) (by decide)) (hts _ k_732) (congrArg (fun z => va_rf (Option.map (ad 17) z)) (hM.1.2.1 7 (by decide) (by decide))) d_Model_tow_70 ?_
                  refine lv_iload_n hx hb d_Model_tow_73 rfl (lv_at hl 1 rfl) ?_
                  refine lv_iconst (v := 3) hx hb d_Model_tow_74 (by decide) ?_
                  refine os_iastN (K := 17) (i := 0) (t0 := 0) (n := (iN x)) hx hb hK hV rfl rfl rfl (hM.1.n 17 (by decide) (by decide)) (inF.ix (σ := σ) (bz_1 c_1) hM.2.2.1).1 (by rw [show os_l (os_sg (os_sg σ 13 0 0 0) 13 0 0 0) 17 0 = 8 from hM.1.2.2 17 (by decide) (by decide)]; have h9 := (Nat.lt_of_lt_of_le (inF.ix (σ := σ) (bz_1 c_1) hM.2.2.1).2 hM.2.2.1.2); omega) (by rw [show os_l (os_sg (os_sg σ 13 0 0 0) 13 0 0 0) 17 0 = 8 from hM.1.2.2 17 (by decide) (by decide)]; decide) d_Model_tow_75 (fun H locs hV => ?_)
                  refine lv_aload_n hx hb d_Model_tow_76 rfl (lv_at hl 0 rfl) ?_
                  refine os_get (C := "RobotFaultsModel") (T := F_Model) (N := 38) (ci := 7) (K := 13) (j := 5) (i := 0) (v := .ref (ad 15 0)) hx hb hts i_Model hown hK hV rfl rfl (by decide) (hM.1.n 13 (by decide) (by decide)) (hts _ k_730) (congrArg (fun z => va_rf (Option.map (ad 15) z)) (hM.1.2.1 5 (by decide) (by decide))) d_Model_tow_77 ?_
                  refine lv_iload_n hx hb d_Model_tow_80 rfl (lv_at hl 1 rfl) ?_
                  refine lv_iload_n hx hb d_Model_tow_81 rfl (lv_at hl 2 rfl) ?_
                  refine os_iastN (K := 15) (i := 0) (t0 := 0) (n := (iN x)) hx hb hK hV rfl rfl rfl (hM.1.n 15 (by decide) (by decide)) (inF.ix (σ := σ) (bz_1 c_1) hM.2.2.1).1 (by rw [show os_l (os_sg (os_sg (os_sg σ 13 0 0 0) 13 0 0 0) 17 (iN x) 0 3) 15 0 = 8 from hM.1.2.2 15 (by decide) (by decide)]; have h9 := (Nat.lt_of_lt_of_le (inF.ix (σ := σ) (bz_1 c_1) hM.2.2.1).2 hM.2.2.1.2); omega) (by rw [show os_l (os_sg (os_sg (os_sg σ 13 0 0 0) 13 0 0 0) 17 (iN x) 0 3) 15 0 = 8 from hM.1.2.2 15 (by decide) (by decide)]; decide) d_Model_tow_82 (fun H locs hV => ?_)
                  refine os_vret hx hb hr hlocks hV (Nat.le_of_ble_eq_true rfl) (Nat.le_of_ble_eq_true rfl) d_Model_tow_83 ?_
                  exact ⟨rfl, Or.inr (Or.inr (Or.inl (⟨c_1, c_4, c_6, c_8, rfl, rfl⟩)))⟩
                · exact absurd (by decide) c_9
              · skip
                refine lv_iconst (v := 2) hx hb d_Model_tow_53 (by decide) ?_
                refine lv_goto (tgt := 58) hx hb d_Model_tow_54 (by decide) ?_
                refine os_putI (C := "RobotFaultsModel") (T := F_Model) (N := 38) (ci := 7) (K := 13) (j := 0) (i := 0) (v := 2) (ty := .int) hx hb hts i_Model t_Model t_Model_ok n_Model hown hK hV rfl rfl (by decide) (hM.1.n 13 (by decide) (by decide)) (hts _ k_725) rfl rfl rfl (by decide +kernel) rfl rfl d_Model_tow_58 (fun H locs hV => ?_)
                refine lv_aload_n hx hb d_Model_tow_61 rfl (lv_at hl 0 rfl) ?_
                refine os_get (C := "RobotFaultsModel") (T := F_Model) (N := 38) (ci := 7) (K := 13) (j := 0) (i := 0) (v := .int 2) hx hb hts i_Model hown hK hV rfl rfl (by decide) (hM.1.n 13 (by decide) (by decide)) (hts _ k_725) (os_fv_sgs (σ := os_sg σ 13 0 0 0) (ad := ad) (K := 13) (j := 0) (i := 0) (v := 2) rfl rfl) d_Model_tow_62 ?_
                refine lv_if_le (tgt := 69) hx hb d_Model_tow_65 (by decide) (fun c_10 => ?_) (fun c_10 => ?_)
                · exact absurd c_10 (by decide)
                · skip
                  refine os_vret hx hb hr hlocks hV (Nat.le_of_ble_eq_true rfl) (Nat.le_of_ble_eq_true rfl) d_Model_tow_68 ?_
                  exact ⟨rfl, Or.inr (Or.inr (Or.inr (Or.inl (⟨c_1, c_4, c_6, c_8, rfl, rfl⟩))))⟩
        · skip
          refine lv_iconst (v := 1) hx hb d_Model_tow_17 (by decide) ?_
          refine lv_goto (tgt := 22) hx hb d_Model_tow_18 (by decide) ?_
          refine os_putI (C := "RobotFaultsModel") (T := F_Model) (N := 38) (ci := 7) (K := 13) (j := 0) (i := 0) (v := 1) (ty := .int) hx hb hts i_Model t_Model t_Model_ok n_Model hown hK hV rfl rfl (by decide) (hM.1.n 13 (by decide) (by decide)) (hts _ k_725) rfl rfl rfl (by decide +kernel) rfl rfl d_Model_tow_22 (fun H locs hV => ?_)
          refine lv_aload_n hx hb d_Model_tow_25 rfl (lv_at hl 0 rfl) ?_
          refine os_get (C := "RobotFaultsModel") (T := F_Model) (N := 38) (ci := 7) (K := 13) (j := 0) (i := 0) (v := .int 1) hx hb hts i_Model hown hK hV rfl rfl (by decide) (hM.1.n 13 (by decide) (by decide)) (hts _ k_725) (os_fv_sgs (σ := σ) (ad := ad) (K := 13) (j := 0) (i := 0) (v := 1) rfl rfl) d_Model_tow_26 ?_
          refine lv_if_ne (tgt := 61) hx hb d_Model_tow_29 (by decide) (fun c_11 => ?_) (fun c_11 => ?_)
          · skip
            refine lv_aload_n hx hb d_Model_tow_61 rfl (lv_at hl 0 rfl) ?_
            refine os_get (C := "RobotFaultsModel") (T := F_Model) (N := 38) (ci := 7) (K := 13) (j := 0) (i := 0) (v := .int 1) hx hb hts i_Model hown hK hV rfl rfl (by decide) (hM.1.n 13 (by decide) (by decide)) (hts _ k_725) (os_fv_sgs (σ := σ) (ad := ad) (K := 13) (j := 0) (i := 0) (v := 1) rfl rfl) d_Model_tow_62 ?_
            refine lv_if_le (tgt := 69) hx hb d_Model_tow_65 (by decide) (fun c_12 => ?_) (fun c_12 => ?_)
            · exact absurd c_12 (by decide)
            · skip
              refine os_vret hx hb hr hlocks hV (Nat.le_of_ble_eq_true rfl) (Nat.le_of_ble_eq_true rfl) d_Model_tow_68 ?_
              exact ⟨rfl, Or.inr (Or.inr (Or.inr (Or.inr (⟨c_1, c_4, rfl, rfl⟩))))⟩
          · exact absurd c_11 (by decide)
      · exact absurd hp.2.2 (fun h => by cases h)
  · exact absurd hp.2.2 (fun h => by cases h)
/-- what Model_acknowledge does, road by road -/
def m_acknowledge (σ : os_S) (ad : Nat → Nat → Nat) (x y : Int32) : os_O → os_S → (Nat → Nat → Nat) → Prop := fun r σ' ad' => ad = ad' ∧ (((¬ (bz (inF x 0 (os_g σ 13 24 0 - 1))) = 0) ∧ (¬ (bz (inF y 0 7)) = 0) ∧ ((os_g σ 38 (iN x) 0) = (-1)) ∧ os_sg (os_sg (os_sg σ 13 0 0 0) 13 0 0 0) 38 (iN x) 0 y = σ' ∧ r = .inl (some (.int (os_g σ 36 (iN x) 0)))) ∨ ((¬ (bz (inF x 0 (os_g σ 13 24 0 - 1))) = 0) ∧ (¬ (bz (inF y 0 7)) = 0) ∧ (¬ ((os_g σ 38 (iN x) 0) = (-1))) ∧ os_sg (os_sg σ 13 0 0 0) 13 0 0 3 = σ' ∧ r = .inl (some (.int 0))) ∨ ((¬ (bz (inF x 0 (os_g σ 13 24 0 - 1))) = 0) ∧ ((bz (inF y 0 7)) = 0) ∧ os_sg σ 13 0 0 2 = σ' ∧ r = .inl (some (.int 0))) ∨ (((bz (inF x 0 (os_g σ 13 24 0 - 1))) = 0) ∧ os_sg σ 13 0 0 1 = σ' ∧ r = .inl (some (.int 0))))
set_option maxHeartbeats 4000000 in
set_option maxRecDepth 100000 in
theorem c_Model_acknowledge (l : Launch) (hlt : l.stackTraces = false) (D : va_G) (cA : Nat → ClassId) (bs : Nat) (σ : os_S) (ad : Nat → Nat → Nat) (x y : Int32) (hM : MI σ) : os_Met l y_Model_acknowledge prog_9_method_33_code 3 (some .int) { frames := 2, cells := 0, slots := 0, locals := 43 } D cA bs [.ref (ad 13 0), .int x, .int y] σ ad (m_acknowledge σ ad x y) := by
  refine os_ofW (by decide) ?_
  intro p e s m below meth c hx hb hr hml hown hlocks hmn hout hE hV
  have hts := hE.hts (args := ([.ref (ad 13 0), .int x, .int y] : List Value).toArray)
  have hK := hE.2.1
  have hbs := hE.2.2.1
  have hown : s.vm.findClass "RobotFaultsModel" = some m.cls := hown
  have hl := lv_entry ([.ref (ad 13 0), .int x, .int y]) (n := 3) (Nat.le_of_ble_eq_true rfl)
  rw [lg_entry_eq]
  generalize (lg_sl ([.ref (ad 13 0), .int x, .int y]) ++ List.replicate (3 - (lg_sl ([.ref (ad 13 0), .int x, .int y])).length) Slot.unset).toArray = ls at hl ⊢
  have hl : lv_has ls 3 [(0, .ref (ad 13 0)), (1, .int x), (2, .int y)] := hl
  refine lv_aload_n hx hb d_Model_acknowledge_0 rfl (lv_at hl 0 rfl) ?_
  refine lv_aload_n hx hb d_Model_acknowledge_1 rfl (lv_at hl 0 rfl) ?_
  refine lv_iload_n hx hb d_Model_acknowledge_2 rfl (lv_at hl 1 rfl) ?_
  refine os_call (c_Model_isAlarm l hlt D cA bs σ ad x hM) hE hV k_966 k_4 (os_inV (C := "RobotFaultsModel") (n := 1) (bytes := prog_9_method_7_code) (maxL := 2) (ret := (some .boolean)) hx hb hown (hts _ k_963) (hts _ k_965) (hts _ k_s32) (hts _ k_966) (by decide +kernel) rfl (os_recv hK hV rfl rfl (hM.1.n 13 (by decide) (by decide))) rfl d_Model_acknowledge_3) (hl.1.trans hml.symm) (Nat.le_of_ble_eq_true rfl) (Nat.le_of_ble_eq_true rfl) (Nat.le_of_ble_eq_true rfl) (Nat.le_of_ble_eq_true rfl) (Nat.le_of_ble_eq_true rfl) (fun v σ1 ad1 H locs hp hext hV => ?_) (fun E q ce σ1 ad1 H locs hp hext hV hce hcv hcl => ?_)
  · obtain ⟨rfl, rfl, hp⟩ := hp
    cases hp
    refine W.eq (g2 := F0 m 6 ls [.int (bz (inF x 0 (os_g σ 13 24 0 - 1))), .ref (ad 13 0)]) rfl ?_
    refine lv_if_ne (tgt := 13) hx hb d_Model_acknowledge_6 (by decide) (fun c_1 => ?_) (fun c_1 => ?_)
    · skip
      refine lv_iload_n hx hb d_Model_acknowledge_13 rfl (lv_at hl 2 rfl) ?_
      refine lv_iconst (v := 0) hx hb d_Model_acknowledge_14 (by decide) ?_
      refine lv_bipush (v := 7) hx hb d_Model_acknowledge_15 (by decide) ?_
      refine os_call (c_Model_in l hlt D cA bs σ ad y 0 7) hE hV k_859 k_4 (os_inS (n := 3) (bytes := prog_9_method_3_code) (maxL := 3) (ret := (some .boolean)) hx hb hown (hts _ k_857) (hts _ k_858) (hts _ k_4) (hts _ k_859) (by decide +kernel) rfl rfl d_Model_acknowledge_17) (hl.1.trans hml.symm) (Nat.le_of_ble_eq_true rfl) (Nat.le_of_ble_eq_true rfl) (Nat.le_of_ble_eq_true rfl) (Nat.le_of_ble_eq_true rfl) (Nat.le_of_ble_eq_true rfl) (fun v σ1 ad1 H locs hp hext hV => ?_) (fun E q ce σ1 ad1 H locs hp hext hV hce hcv hcl => ?_)
      · obtain ⟨rfl, rfl, hp⟩ := hp
        cases hp
        refine W.eq (g2 := F0 m 20 ls [.int (bz (inF y 0 7)), .ref (ad 13 0)]) rfl ?_
        refine lv_if_ne (tgt := 27) hx hb d_Model_acknowledge_20 (by decide) (fun c_2 => ?_) (fun c_2 => ?_)
        · skip
          refine lv_iconst (v := 0) hx hb d_Model_acknowledge_27 (by decide) ?_
          refine os_putI (C := "RobotFaultsModel") (T := F_Model) (N := 38) (ci := 7) (K := 13) (j := 0) (i := 0) (v := 0) (ty := .int) hx hb hts i_Model t_Model t_Model_ok n_Model hown hK hV rfl rfl (by decide) (hM.1.n 13 (by decide) (by decide)) (hts _ k_725) rfl rfl rfl (by decide +kernel) rfl rfl d_Model_acknowledge_28 (fun H locs hV => ?_)
          refine lv_aload_n hx hb d_Model_acknowledge_31 rfl (lv_at hl 0 rfl) ?_
          refine os_get (C := "RobotFaultsModel") (T := F_Model) (N := 38) (ci := 7) (K := 13) (j := 0) (i := 0) (v := .int 0) hx hb hts i_Model hown hK hV rfl rfl (by decide) (hM.1.n 13 (by decide) (by decide)) (hts _ k_725) (os_fv_sgs (σ := σ) (ad := ad) (K := 13) (j := 0) (i := 0) (v := 0) rfl rfl) d_Model_acknowledge_32 ?_
          refine lv_if_ne (tgt := 57) hx hb d_Model_acknowledge_35 (by decide) (fun c_3 => ?_) (fun c_3 => ?_)
          · exact absurd c_3 (by decide)
          · skip
            refine lv_aload_n hx hb d_Model_acknowledge_38 rfl (lv_at hl 0 rfl) ?_
            refine lv_aload_n hx hb d_Model_acknowledge_39 rfl (lv_at hl 0 rfl) ?_
            refine os_get (C := "RobotFaultsModel") (T := F_Model) (N := 38) (ci := 7) (K := 13) (j := 30) (i := 0) (v := .ref (ad 38 0)) hx hb hts i_Model hown hK hV rfl rfl (by decide) (hM.1.n 13 (by decide) (by decide)) (hts _ k_755) (congrArg (fun z => va_rf (Option.map (ad 38) z)) (hM.1.2.1 30 (by decide) (by decide))) d_Model_acknowledge_40 ?_
            refine lv_iload_n hx hb d_Model_acknowledge_43 rfl (lv_at hl 1 rfl) ?_
            refine os_ialdN (K := 38) (i := 0) (t0 := 0) (n := (iN x)) hx hb hK hV rfl rfl rfl (hM.1.n 38 (by decide) (by decide)) (inF.ix (σ := σ) (bz_1 c_1) hM.2.2.2.2.1).1 (by rw [show os_l (os_sg σ 13 0 0 0) 38 0 = 40 from hM.1.2.2 38 (by decide) (by decide)]; have h9 := (Nat.lt_of_lt_of_le (inF.ix (σ := σ) (bz_1 c_1) hM.2.2.2.2.1).2 hM.2.2.2.2.1.2); omega) (by rw [show os_l (os_sg σ 13 0 0 0) 38 0 = 40 from hM.1.2.2 38 (by decide) (by decide)]; decide) d_Model_acknowledge_44 ?_
            refine W.eq (g2 := F0 m 45 ls [.int (os_g σ 38 (iN x) 0), .ref (ad 13 0)]) (congrArg (fun z => F0 m 45 ls (.int z :: [.ref (ad 13 0)])) (show os_g (os_sg σ 13 0 0 0) 38 (iN x) 0 = os_g σ 38 (iN x) 0 from rfl)) ?_
            refine lv_iconst (v := (-1)) hx hb d_Model_acknowledge_45 (by decide) ?_
            refine lv_icmp_eq (tgt := 53) hx hb d_Model_acknowledge_46 (by decide) (fun c_4 => ?_) (fun c_4 => ?_)
            · skip
              refine lv_iconst (v := 0) hx hb d_Model_acknowledge_53 (by decide) ?_
              refine os_putI (C := "RobotFaultsModel") (T := F_Model) (N := 38) (ci := 7) (K := 13) (j := 0) (i := 0) (v := 0) (ty := .int) hx hb hts i_Model t_Model t_Model_ok n_Model hown hK hV rfl rfl (by decide) (hM.1.n 13 (by decide) (by decide)) (hts _ k_725) rfl rfl rfl (by decide +kernel) rfl rfl d_Model_acknowledge_54 (fun H locs hV => ?_)
              refine lv_aload_n hx hb d_Model_acknowledge_57 rfl (lv_at hl 0 rfl) ?_
              refine os_get (C := "RobotFaultsModel") (T := F_Model) (N := 38) (ci := 7) (K := 13) (j := 0) (i := 0) (v := .int 0) hx hb hts i_Model hown hK hV rfl rfl (by decide) (hM.1.n 13 (by decide) (by decide)) (hts _ k_725) (os_fv_sgs (σ := os_sg σ 13 0 0 0) (ad := ad) (K := 13) (j := 0) (i := 0) (v := 0) rfl rfl) d_Model_acknowledge_58 ?_
              refine lv_if_le (tgt := 66) hx hb d_Model_acknowledge_61 (by decide) (fun c_5 => ?_) (fun c_5 => ?_)
              · skip
                refine lv_aload_n hx hb d_Model_acknowledge_66 rfl (lv_at hl 0 rfl) ?_
                refine os_get (C := "RobotFaultsModel") (T := F_Model) (N := 38) (ci := 7) (K := 13) (j := 30) (i := 0) (v := .ref (ad 38 0)) hx hb hts i_Model hown hK hV rfl rfl (by decide) (hM.1.n 13 (by decide) (by decide)) (hts _ k_755) (congrArg (fun z => va_rf (Option.map (ad 38) z)) (hM.1.2.1 30 (by decide) (by decide))) d_Model_acknowledge_67 ?_
                refine lv_iload_n hx hb d_Model_acknowledge_70 rfl (lv_at hl 1 rfl) ?_
                refine lv_iload_n hx hb d_Model_acknowledge_71 rfl (lv_at hl 2 rfl) ?_
                refine os_iastN (K := 38) (i := 0) (t0 := 0) (n := (iN x)) hx hb hK hV rfl rfl rfl (hM.1.n 38 (by decide) (by decide)) (inF.ix (σ := σ) (bz_1 c_1) hM.2.2.2.2.1).1 (by rw [show os_l (os_sg (os_sg σ 13 0 0 0) 13 0 0 0) 38 0 = 40 from hM.1.2.2 38 (by decide) (by decide)]; have h9 := (Nat.lt_of_lt_of_le (inF.ix (σ := σ) (bz_1 c_1) hM.2.2.2.2.1).2 hM.2.2.2.2.1.2); omega) (by rw [show os_l (os_sg (os_sg σ 13 0 0 0) 13 0 0 0) 38 0 = 40 from hM.1.2.2 38 (by decide) (by decide)]; decide) d_Model_acknowledge_72 (fun H locs hV => ?_)
                refine lv_aload_n hx hb d_Model_acknowledge_73 rfl (lv_at hl 0 rfl) ?_
                refine os_get (C := "RobotFaultsModel") (T := F_Model) (N := 38) (ci := 7) (K := 13) (j := 28) (i := 0) (v := .ref (ad 36 0)) hx hb hts i_Model hown hK hV rfl rfl (by decide) (hM.1.n 13 (by decide) (by decide)) (hts _ k_753) (congrArg (fun z => va_rf (Option.map (ad 36) z)) (hM.1.2.1 28 (by decide) (by decide))) d_Model_acknowledge_74 ?_
                refine lv_iload_n hx hb d_Model_acknowledge_77 rfl (lv_at hl 1 rfl) ?_
                refine os_ialdN (K := 36) (i := 0) (t0 := 0) (n := (iN x)) hx hb hK hV rfl rfl rfl (hM.1.n 36 (by decide) (by decide)) (inF.ix (σ := σ) (bz_1 c_1) hM.2.2.2.2.1).1 (by rw [show os_l (os_sg (os_sg (os_sg σ 13 0 0 0) 13 0 0 0) 38 (iN x) 0 y) 36 0 = 40 from hM.1.2.2 36 (by decide) (by decide)]; have h9 := (Nat.lt_of_lt_of_le (inF.ix (σ := σ) (bz_1 c_1) hM.2.2.2.2.1).2 hM.2.2.2.2.1.2); omega) (by rw [show os_l (os_sg (os_sg (os_sg σ 13 0 0 0) 13 0 0 0) 38 (iN x) 0 y) 36 0 = 40 from hM.1.2.2 36 (by decide) (by decide)]; decide) d_Model_acknowledge_78 ?_
                refine W.eq (g2 := F0 m 79 ls [.int (os_g σ 36 (iN x) 0)]) (congrArg (fun z => F0 m 79 ls (.int z :: [])) (show os_g (os_sg (os_sg (os_sg σ 13 0 0 0) 13 0 0 0) 38 (iN x) 0 y) 36 (iN x) 0 = os_g σ 36 (iN x) 0 from rfl)) ?_
                refine os_iret hx hb hr hlocks hV (Nat.le_of_ble_eq_true rfl) (Nat.le_of_ble_eq_true rfl) d_Model_acknowledge_79 ?_
                exact ⟨rfl, Or.inl (⟨c_1, c_2, c_4, rfl, rfl⟩)⟩
              · exact absurd (by decide) c_5
            · skip
              refine lv_iconst (v := 3) hx hb d_Model_acknowledge_49 (by decide) ?_
              refine lv_goto (tgt := 54) hx hb d_Model_acknowledge_50 (by decide) ?_
              refine os_putI (C := "RobotFaultsModel") (T := F_Model) (N := 38) (ci := 7) (K := 13) (j := 0) (i := 0) (v := 3) (ty := .int) hx hb hts i_Model t_Model t_Model_ok n_Model hown hK hV rfl rfl (by decide) (hM.1.n 13 (by decide) (by decide)) (hts _ k_725) rfl rfl rfl (by decide +kernel) rfl rfl d_Model_acknowledge_54 (fun H locs hV => ?_)
              refine lv_aload_n hx hb d_Model_acknowledge_57 rfl (lv_at hl 0 rfl) ?_
              refine os_get (C := "RobotFaultsModel") (T := F_Model) (N := 38) (ci := 7) (K := 13) (j := 0) (i := 0) (v := .int 3) hx hb hts i_Model hown hK hV rfl rfl (by decide) (hM.1.n 13 (by decide) (by decide)) (hts _ k_725) (os_fv_sgs (σ := os_sg σ 13 0 0 0) (ad := ad) (K := 13) (j := 0) (i := 0) (v := 3) rfl rfl) d_Model_acknowledge_58 ?_
              refine lv_if_le (tgt := 66) hx hb d_Model_acknowledge_61 (by decide) (fun c_6 => ?_) (fun c_6 => ?_)
              · exact absurd c_6 (by decide)
              · skip
                refine lv_iconst (v := 0) hx hb d_Model_acknowledge_64 (by decide) ?_
                refine os_iret hx hb hr hlocks hV (Nat.le_of_ble_eq_true rfl) (Nat.le_of_ble_eq_true rfl) d_Model_acknowledge_65 ?_
                exact ⟨rfl, Or.inr (Or.inl (⟨c_1, c_2, c_4, rfl, rfl⟩))⟩
        · skip
          refine lv_iconst (v := 2) hx hb d_Model_acknowledge_23 (by decide) ?_
          refine lv_goto (tgt := 28) hx hb d_Model_acknowledge_24 (by decide) ?_
          refine os_putI (C := "RobotFaultsModel") (T := F_Model) (N := 38) (ci := 7) (K := 13) (j := 0) (i := 0) (v := 2) (ty := .int) hx hb hts i_Model t_Model t_Model_ok n_Model hown hK hV rfl rfl (by decide) (hM.1.n 13 (by decide) (by decide)) (hts _ k_725) rfl rfl rfl (by decide +kernel) rfl rfl d_Model_acknowledge_28 (fun H locs hV => ?_)
          refine lv_aload_n hx hb d_Model_acknowledge_31 rfl (lv_at hl 0 rfl) ?_
          refine os_get (C := "RobotFaultsModel") (T := F_Model) (N := 38) (ci := 7) (K := 13) (j := 0) (i := 0) (v := .int 2) hx hb hts i_Model hown hK hV rfl rfl (by decide) (hM.1.n 13 (by decide) (by decide)) (hts _ k_725) (os_fv_sgs (σ := σ) (ad := ad) (K := 13) (j := 0) (i := 0) (v := 2) rfl rfl) d_Model_acknowledge_32 ?_
          refine lv_if_ne (tgt := 57) hx hb d_Model_acknowledge_35 (by decide) (fun c_7 => ?_) (fun c_7 => ?_)
          · skip
            refine lv_aload_n hx hb d_Model_acknowledge_57 rfl (lv_at hl 0 rfl) ?_
            refine os_get (C := "RobotFaultsModel") (T := F_Model) (N := 38) (ci := 7) (K := 13) (j := 0) (i := 0) (v := .int 2) hx hb hts i_Model hown hK hV rfl rfl (by decide) (hM.1.n 13 (by decide) (by decide)) (hts _ k_725) (os_fv_sgs (σ := σ) (ad := ad) (K := 13) (j := 0) (i := 0) (v := 2) rfl rfl) d_Model_acknowledge_58 ?_
            refine lv_if_le (tgt := 66) hx hb d_Model_acknowledge_61 (by decide) (fun c_8 => ?_) (fun c_8 => ?_)
            · exact absurd c_8 (by decide)
            · skip
              refine lv_iconst (v := 0) hx hb d_Model_acknowledge_64 (by decide) ?_
              refine os_iret hx hb hr hlocks hV (Nat.le_of_ble_eq_true rfl) (Nat.le_of_ble_eq_true rfl) d_Model_acknowledge_65 ?_
              exact ⟨rfl, Or.inr (Or.inr (Or.inl (⟨c_1, c_2, rfl, rfl⟩)))⟩
          · exact absurd c_7 (by decide)
      · exact absurd hp.2.2 (fun h => by cases h)
    · skip
      refine lv_iconst (v := 1) hx hb d_Model_acknowledge_9 (by decide) ?_
      refine lv_goto (tgt := 28) hx hb d_Model_acknowledge_10 (by decide) ?_
      refine os_putI (C := "RobotFaultsModel") (T := F_Model) (N := 38) (ci := 7) (K := 13) (j := 0) (i := 0) (v := 1) (ty := .int) hx hb hts i_Model t_Model t_Model_ok n_Model hown hK hV rfl rfl (by decide) (hM.1.n 13 (by decide) (by decide)) (hts _ k_725) rfl rfl rfl (by decide +kernel) rfl rfl d_Model_acknowledge_28 (fun H locs hV => ?_)
      refine lv_aload_n hx hb d_Model_acknowledge_31 rfl (lv_at hl 0 rfl) ?_
      refine os_get (C := "RobotFaultsModel") (T := F_Model) (N := 38) (ci := 7) (K := 13) (j := 0) (i := 0) (v := .int 1) hx hb hts i_Model hown hK hV rfl rfl (by decide) (hM.1.n 13 (by decide) (by decide)) (hts _ k_725) (os_fv_sgs (σ := σ) (ad := ad) (K := 13) (j := 0) (i := 0) (v := 1) rfl rfl) d_Model_acknowledge_32 ?_
      refine lv_if_ne (tgt := 57) hx hb d_Model_acknowledge_35 (by decide) (fun c_9 => ?_) (fun c_9 => ?_)
      · skip
        refine lv_aload_n hx hb d_Model_acknowledge_57 rfl (lv_at hl 0 rfl) ?_
        refine os_get (C := "RobotFaultsModel") (T := F_Model) (N := 38) (ci := 7) (K := 13) (j := 0) (i := 0) (v := .int 1) hx hb hts i_Model hown hK hV rfl rfl (by decide) (hM.1.n 13 (by decide) (by decide)) (hts _ k_725) (os_fv_sgs (σ := σ) (ad := ad) (K := 13) (j := 0) (i := 0) (v := 1) rfl rfl) d_Model_acknowledge_58 ?_
        refine lv_if_le (tgt := 66) hx hb d_Model_acknowledge_61 (by decide) (fun c_10 => ?_) (fun c_10 => ?_)
        · exact absurd c_10 (by decide)
        · skip
          refine lv_iconst (v := 0) hx hb d_Model_acknowledge_64 (by decide) ?_
          refine os_iret hx hb hr hlocks hV (Nat.le_of_ble_eq_true rfl) (Nat.le_of_ble_eq_true rfl) d_Model_acknowledge_65 ?_
          exact ⟨rfl, Or.inr (Or.inr (Or.inr (⟨c_1, rfl, rfl⟩)))⟩
      · exact absurd c_9 (by decide)
  · exact absurd hp.2.2 (fun h => by cases h)
/-- what Model_alarm does, road by road -/
def m_alarm (σ : os_S) (ad : Nat → Nat → Nat) (x y : Int32) : os_O → os_S → (Nat → Nat → Nat) → Prop := fun r σ' ad' => ad = ad' ∧ (((¬ (bz (inF x 0 (os_g σ 13 24 0 - 1))) = 0) ∧ (¬ (bz (inF y 0 6)) = 0) ∧ (¬ y = 0) ∧ (¬ y = 1) ∧ (¬ y = 2) ∧ (¬ y = 3) ∧ (¬ y = 4) ∧ (¬ y = 5) ∧ os_sg σ 13 0 0 0 = σ' ∧ r = .inl (some (.int (os_g σ 39 (iN x) 0)))) ∨ ((¬ (bz (inF x 0 (os_g σ 13 24 0 - 1))) = 0) ∧ (¬ (bz (inF y 0 6)) = 0) ∧ (¬ y = 0) ∧ (¬ y = 1) ∧ (¬ y = 2) ∧ (¬ y = 3) ∧ (¬ y = 4) ∧ (y = 5) ∧ os_sg σ 13 0 0 0 = σ' ∧ r = .inl (some (.int (os_g σ 38 (iN x) 0)))) ∨ ((¬ (bz (inF x 0 (os_g σ 13 24 0 - 1))) = 0) ∧ (¬ (bz (inF y 0 6)) = 0) ∧ (¬ y = 0) ∧ (¬ y = 1) ∧ (¬ y = 2) ∧ (¬ y = 3) ∧ (y = 4) ∧ os_sg σ 13 0 0 0 = σ' ∧ r = .inl (some (.int (os_g σ 37 (iN x) 0)))) ∨ ((¬ (bz (inF x 0 (os_g σ 13 24 0 - 1))) = 0) ∧ (¬ (bz (inF y 0 6)) = 0) ∧ (¬ y = 0) ∧ (¬ y = 1) ∧ (¬ y = 2) ∧ (y = 3) ∧ os_sg σ 13 0 0 0 = σ' ∧ r = .inl (some (.int (os_g σ 36 (iN x) 0)))) ∨ ((¬ (bz (inF x 0 (os_g σ 13 24 0 - 1))) = 0) ∧ (¬ (bz (inF y 0 6)) = 0) ∧ (¬ y = 0) ∧ (¬ y = 1) ∧ (y = 2) ∧ os_sg σ 13 0 0 0 = σ' ∧ r = .inl (some (.int (os_g σ 35 (iN x) 0)))) ∨ ((¬ (bz (inF x 0 (os_g σ 13 24 0 - 1))) = 0) ∧ (¬ (bz (inF y 0 6)) = 0) ∧ (¬ y = 0) ∧ (y = 1) ∧ os_sg σ 13 0 0 0 = σ' ∧ r = .inl (some (.int (os_g σ 34 (iN x) 0)))) ∨ ((¬ (bz (inF x 0 (os_g σ 13 24 0 - 1))) = 0) ∧ (¬ (bz (inF y 0 6)) = 0) ∧ (y = 0) ∧ os_sg σ 13 0 0 0 = σ' ∧ r = .inl (some (.int (os_g σ 33 (iN x) 0)))) ∨ ((¬ (bz (inF x 0 (os_g σ 13 24 0 - 1))) = 0) ∧ ((bz (inF y 0 6)) = 0) ∧ os_sg σ 13 0 0 2 = σ' ∧ r = .inl (some (.int 0))) ∨ (((bz (inF x 0 (os_g σ 13 24 0 - 1))) = 0) ∧ os_sg σ 13 0 0 1 = σ' ∧ r = .inl (some (.int 0))))
set_option maxHeartbeats 4000000 in
set_option maxRecDepth 100000 in
theorem c_Model_alarm (l : Launch) (hlt : l.stackTraces = false) (D : va_G) (cA : Nat → ClassId) (bs : Nat) (σ : os_S) (ad : Nat → Nat → Nat) (x y : Int32) (hM : MI σ) : os_Met l y_Model_alarm prog_9_method_34_code 3 (some .int) { frames := 2, cells := 0, slots := 0, locals := 43 } D cA bs [.ref (ad 13 0), .int x, .int y] σ ad (m_alarm σ ad x y) := by
  refine os_ofW (by decide) ?_
  intro p e s m below meth c hx hb hr hml hown hlocks hmn hout hE hV
  have hts := hE.hts (args := ([.ref (ad 13 0), .int x, .int y] : List Value).toArray)
  have hK := hE.2.1
  have hbs := hE.2.2.1
  have hown : s.vm.findClass "RobotFaultsModel" = some m.cls := hown
  have hl := lv_entry ([.ref (ad 13 0), .int x, .int y]) (n := 3) (Nat.le_of_ble_eq_true rfl)
  rw [lg_entry_eq]
  generalize (lg_sl ([.ref (ad 13 0), .int x, .int y]) ++ List.replicate (3 - (lg_sl ([.ref (ad 13 0), .int x, .int y])).length) Slot.unset).toArray = ls at hl ⊢
  have hl : lv_has ls 3 [(0, .ref (ad 13 0)), (1, .int x), (2, .int y)] := hl
  refine lv_aload_n hx hb d_Model_alarm_0 rfl (lv_at hl 0 rfl) ?_
  refine lv_aload_n hx hb d_Model_alarm_1 rfl (lv_at hl 0 rfl) ?_
  refine lv_iload_n hx hb d_Model_alarm_2 rfl (lv_at hl 1 rfl) ?_
  refine os_call (c_Model_isAlarm l hlt D cA bs σ ad x hM) hE hV k_966 k_4 (os_inV (C := "RobotFaultsModel") (n := 1) (bytes := prog_9_method_7_code) (maxL := 2) (ret := (some .boolean)) hx hb hown (hts _ k_963) (hts _ k_965) (hts _ k_s32) (hts _ k_966) (by decide +kernel) rfl (os_recv hK hV rfl rfl (hM.1.n 13 (by decide) (by decide))) rfl d_Model_alarm_3) (hl.1.trans hml.symm) (Nat.le_of_ble_eq_true rfl) (Nat.le_of_ble_eq_true rfl) (Nat.le_of_ble_eq_true rfl) (Nat.le_of_ble_eq_true rfl) (Nat.le_of_ble_eq_true rfl) (fun v σ1 ad1 H locs hp hext hV => ?_) (fun E q ce σ1 ad1 H locs hp hext hV hce hcv hcl => ?_)
  · obtain ⟨rfl, rfl, hp⟩ := hp
    cases hp
    refine W.eq (g2 := F0 m 6 ls [.int (bz (inF x 0 (os_g σ 13 24 0 - 1))), .ref (ad 13 0)]) rfl ?_
    refine lv_if_ne (tgt := 13) hx hb d_Model_alarm_6 (by decide) (fun c_1 => ?_) (fun c_1 => ?_)
    · skip
      refine lv_iload_n hx hb d_Model_alarm_13 rfl (lv_at hl 2 rfl) ?_
      refine lv_iconst (v := 0) hx hb d_Model_alarm_14 (by decide) ?_
      refine lv_bipush (v := 6) hx hb d_Model_alarm_15 (by decide) ?_
      refine os_call (c_Model_in l hlt D cA bs σ ad y 0 6) hE hV k_859 k_4 (os_inS (n := 3) (bytes := prog_9_method_3_code) (maxL := 3) (ret := (some .boolean)) hx hb hown (hts _ k_857) (hts _ k_858) (hts _ k_4) (hts _ k_859) (by decide +kernel) rfl rfl d_Model_alarm_17) (hl.1.trans hml.symm) (Nat.le_of_ble_eq_true rfl) (Nat.le_of_ble_eq_true rfl) (Nat.le_of_ble_eq_true rfl) (Nat.le_of_ble_eq_true rfl) (Nat.le_of_ble_eq_true rfl) (fun v σ1 ad1 H locs hp hext hV => ?_) (fun E q ce σ1 ad1 H locs hp hext hV hce hcv hcl => ?_)
      · obtain ⟨rfl, rfl, hp⟩ := hp
        cases hp
        refine W.eq (g2 := F0 m 20 ls [.int (bz (inF y 0 6)), .ref (ad 13 0)]) rfl ?_
        refine lv_if_ne (tgt := 27) hx hb d_Model_alarm_20 (by decide) (fun c_2 => ?_) (fun c_2 => ?_)
        · skip
          refine lv_iconst (v := 0) hx hb d_Model_alarm_27 (by decide) ?_
          refine os_putI (C := "RobotFaultsModel") (T := F_Model) (N := 38) (ci := 7) (K := 13) (j := 0) (i := 0) (v := 0) (ty := .int) hx hb hts i_Model t_Model t_Model_ok n_Model hown hK hV rfl rfl (by decide) (hM.1.n 13 (by decide) (by decide)) (hts _ k_725) rfl rfl rfl (by decide +kernel) rfl rfl d_Model_alarm_28 (fun H locs hV => ?_)
          refine lv_aload_n hx hb d_Model_alarm_31 rfl (lv_at hl 0 rfl) ?_
          refine os_get (C := "RobotFaultsModel") (T := F_Model) (N := 38) (ci := 7) (K := 13) (j := 0) (i := 0) (v := .int 0) hx hb hts i_Model hown hK hV rfl rfl (by decide) (hM.1.n 13 (by decide) (by decide)) (hts _ k_725) (os_fv_sgs (σ := σ) (ad := ad) (K := 13) (j := 0) (i := 0) (v := 0) rfl rfl) d_Model_alarm_32 ?_
          refine lv_if_le (tgt := 40) hx hb d_Model_alarm_35 (by decide) (fun c_3 => ?_) (fun c_3 => ?_)
          · skip
            refine lv_iload_n hx hb d_Model_alarm_40 rfl (lv_at hl 2 rfl) ?_
            refine lv_if_ne (tgt := 51) hx hb d_Model_alarm_41 (by decide) (fun c_4 => ?_) (fun c_4 => ?_)
            · skip
              refine lv_iload_n hx hb d_Model_alarm_51 rfl (lv_at hl 2 rfl) ?_
              refine lv_iconst (v := 1) hx hb d_Model_alarm_52 (by decide) ?_
              refine lv_icmp_ne (tgt := 63) hx hb d_Model_alarm_53 (by decide) (fun c_5 => ?_) (fun c_5 => ?_)
              · skip
                refine lv_iload_n hx hb d_Model_alarm_63 rfl (lv_at hl 2 rfl) ?_
                refine lv_iconst (v := 2) hx hb d_Model_alarm_64 (by decide) ?_
                refine lv_icmp_ne (tgt := 75) hx hb d_Model_alarm_65 (by decide) (fun c_6 => ?_) (fun c_6 => ?_)
                · skip
                  refine lv_iload_n hx hb d_Model_alarm_75 rfl (lv_at hl 2 rfl) ?_
                  refine lv_iconst (v := 3) hx hb d_Model_alarm_76 (by decide) ?_
                  refine lv_icmp_ne (tgt := 87) hx hb d_Model_alarm_77 (by decide) (fun c_7 => ?_) (fun c_7 => ?_)
                  · skip
                    refine lv_iload_n hx hb d_Model_alarm_87 rfl (lv_at hl 2 rfl) ?_
                    refine lv_iconst (v := 4) hx hb d_Model_alarm_88 (by decide) ?_
                    refine lv_icmp_ne (tgt := 101) hx hb d_Model_alarm_89 (by decide) (fun c_8 => ?_) (fun c_8 => ?_)
                    · skip
                      refine lv_iload_n hx hb d_Model_alarm_101 rfl (lv_at hl 2 rfl) ?_
                      refine lv_iconst (v := 5) hx hb d_Model_alarm_102 (by decide) ?_
                      refine lv_icmp_ne (tgt := 115) hx hb d_Model_alarm_103 (by decide) (fun c_9 => ?_) (fun c_9 => ?_)
                      · skip
                        refine lv_aload_n hx hb d_Model_alarm_115 rfl (lv_at hl 0 rfl) ?_
                        refine os_get (C := "RobotFaultsModel") (T := F_Model) (N := 38) (ci := 7) (K := 13) (j := 31) (i := 0) (v := .ref (ad 39 0)) hx hb hts i_Model hown hK hV rfl rfl (by decide) (hM.1.n 13 (by decide) (by decide)) (hts _ k_756) (congrArg (fun z => va_rf (Option.map (ad 39) z)) (hM.1.2.1 31 (by decide) (by decide))) d_Model_alarm_116 ?_
                        refine lv_iload_n hx hb d_Model_alarm_119 rfl (lv_at hl 1 rfl) ?_
                        refine os_ialdN (K := 39) (i := 0) (t0 := 0) (n := (iN x)) hx hb hK hV rfl rfl rfl (hM.1.n 39 (by decide) (by decide)) (inF.ix (σ := σ) (bz_1 c_1) hM.2.2.2.2.1).1 (by rw [show os_l (os_sg σ 13 0 0 0) 39 0 = 40 from hM.1.2.2 39 (by decide) (by decide)]; have h9 := (Nat.lt_of_lt_of_le (inF.ix (σ := σ) (bz_1 c_1) hM.2.2.2.2.1).2 hM.2.2.2.2.1.2); omega) (by rw [show os_l (os_sg σ 13 0 0 0) 39 0 = 40 from hM.1.2.2 39 (by decide) (by decide)]; decide) d_Model_alarm_120 ?_
                        refine W.eq (g2 := F0 m 121 ls [.int (os_g σ 39 (iN x) 0)]) (congrArg (fun z => F0 m 121 ls (.int z :: [])) (show os_g (os_sg σ 13 0 0 0) 39 (iN x) 0 = os_g σ 39 (iN x) 0 from rfl)) ?_
                        refine os_iret hx hb hr hlocks hV (Nat.le_of_ble_eq_true rfl) (Nat.le_of_ble_eq_true rfl) d_Model_alarm_121 ?_
                        exact ⟨rfl, Or.inl (⟨c_1, c_2, c_4, c_5, c_6, c_7, c_8, c_9, rfl, rfl⟩)⟩
                      · skip
                        refine lv_aload_n hx hb d_Model_alarm_106 rfl (lv_at hl 0 rfl) ?_
                        refine os_get (C := "RobotFaultsModel") (T := F_Model) (N := 38) (ci := 7) (K := 13) (j := 30) (i := 0) (v := .ref (ad 38 0)) hx hb hts i_Model hown hK hV rfl rfl (by decide) (hM.1.n 13 (by decide) (by decide)) (hts _ k_755) (congrArg (fun z => va_rf (Option.map (ad 38) z)) (hM.1.2.1 30 (by decide) (by decide))) d_Model_alarm_107 ?_
                        refine lv_iload_n hx hb d_Model_alarm_110 rfl (lv_at hl 1 rfl) ?_
                        refine os_ialdN (K := 38) (i := 0) (t0 := 0) (n := (iN x)) hx hb hK hV rfl rfl rfl (hM.1.n 38 (by decide) (by decide)) (inF.ix (σ := σ) (bz_1 c_1) hM.2.2.2.2.1).1 (by rw [show os_l (os_sg σ 13 0 0 0) 38 0 = 40 from hM.1.2.2 38 (by decide) (by decide)]; have h9 := (Nat.lt_of_lt_of_le (inF.ix (σ := σ) (bz_1 c_1) hM.2.2.2.2.1).2 hM.2.2.2.2.1.2); omega) (by rw [show os_l (os_sg σ 13 0 0 0) 38 0 = 40 from hM.1.2.2 38 (by decide) (by decide)]; decide) d_Model_alarm_111 ?_
                        refine W.eq (g2 := F0 m 112 ls [.int (os_g σ 38 (iN x) 0)]) (congrArg (fun z => F0 m 112 ls (.int z :: [])) (show os_g (os_sg σ 13 0 0 0) 38 (iN x) 0 = os_g σ 38 (iN x) 0 from rfl)) ?_
                        refine lv_goto (tgt := 121) hx hb d_Model_alarm_112 (by decide) ?_
                        refine os_iret hx hb hr hlocks hV (Nat.le_of_ble_eq_true rfl) (Nat.le_of_ble_eq_true rfl) d_Model_alarm_121 ?_
                        exact ⟨rfl, Or.inr (Or.inl (⟨c_1, c_2, c_4, c_5, c_6, c_7, c_8, c_9, rfl, rfl⟩))⟩
                    · skip
                      refine lv_aload_n hx hb d_Model_alarm_92 rfl (lv_at hl 0 rfl) ?_
                      refine os_get (C := "RobotFaultsModel") (T := F_Model) (N := 38) (ci := 7) (K := 13) (j := 29) (i := 0) (v := .ref (ad 37 0)) hx hb hts i_Model hown hK hV rfl rfl (by decide) (hM.1.n 13 (by decide) (by decide)) (hts _ k_754) (congrArg (fun z => va_rf (Option.map (ad 37) z)) (hM.1.2.1 29 (by decide) (by decide))) d_Model_alarm_93 ?_
                      refine lv_iload_n hx hb d_Model_alarm_96 rfl (lv_at hl 1 rfl) ?_
                      refine os_ialdN (K := 37) (i := 0) (t0 := 0) (n := (iN x)) hx hb hK hV rfl rfl rfl (hM.1.n 37 (by decide) (by decide)) (inF.ix (σ := σ) (bz_1 c_1) hM.2.2.2.2.1).1 (by rw [show os_l (os_sg σ 13 0 0 0) 37 0 = 40 from hM.1.2.2 37 (by decide) (by decide)]; have h9 := (Nat.lt_of_lt_of_le (inF.ix (σ := σ) (bz_1 c_1) hM.2.2.2.2.1).2 hM.2.2.2.2.1.2); omega) (by rw [show os_l (os_sg σ 13 0 0 0) 37 0 = 40 from hM.1.2.2 37 (by decide) (by decide)]; decide) d_Model_alarm_97 ?_
                      refine W.eq (g2 := F0 m 98 ls [.int (os_g σ 37 (iN x) 0)]) (congrArg (fun z => F0 m 98 ls (.int z :: [])) (show os_g (os_sg σ 13 0 0 0) 37 (iN x) 0 = os_g σ 37 (iN x) 0 from rfl)) ?_
                      refine lv_goto (tgt := 121) hx hb d_Model_alarm_98 (by decide) ?_
                      refine os_iret hx hb hr hlocks hV (Nat.le_of_ble_eq_true rfl) (Nat.le_of_ble_eq_true rfl) d_Model_alarm_121 ?_
                      exact ⟨rfl, Or.inr (Or.inr (Or.inl (⟨c_1, c_2, c_4, c_5, c_6, c_7, c_8, rfl, rfl⟩)))⟩
                  · skip
                    refine lv_aload_n hx hb d_Model_alarm_80 rfl (lv_at hl 0 rfl) ?_
                    refine os_get (C := "RobotFaultsModel") (T := F_Model) (N := 38) (ci := 7) (K := 13) (j := 28) (i := 0) (v := .ref (ad 36 0)) hx hb hts i_Model hown hK hV rfl rfl (by decide) (hM.1.n 13 (by decide) (by decide)) (hts _ k_753) (congrArg (fun z => va_rf (Option.map (ad 36) z)) (hM.1.2.1 28 (by decide) (by decide))) d_Model_alarm_81 ?_
                    refine lv_iload_n hx hb d_Model_alarm_84 rfl (lv_at hl 1 rfl) ?_
                    refine os_ialdN (K := 36) (i := 0) (t0 := 0) (n := (iN x)) hx hb hK hV rfl rfl rfl (hM.1.n 36 (by decide) (by decide)) (inF.ix (σ := σ) (bz_1 c_1) hM.2.2.2.2.1).1 (by rw [show os_l (os_sg σ 13 0 0 0) 36 0 = 40 from hM.1.2.2 36 (by decide) (by decide)]; have h9 := (Nat.lt_of_lt_of_le (inF.ix (σ := σ) (bz_1 c_1) hM.2.2.2.2.1).2 hM.2.2.2.2.1.2); omega) (by rw [show os_l (os_sg σ 13 0 0 0) 36 0 = 40 from hM.1.2.2 36 (by decide) (by decide)]; decide) d_Model_alarm_85 ?_
                    refine W.eq (g2 := F0 m 86 ls [.int (os_g σ 36 (iN x) 0)]) (congrArg (fun z => F0 m 86 ls (.int z :: [])) (show os_g (os_sg σ 13 0 0 0) 36 (iN x) 0 = os_g σ 36 (iN x) 0 from rfl)) ?_
                    refine os_iret hx hb hr hlocks hV (Nat.le_of_ble_eq_true rfl) (Nat.le_of_ble_eq_true rfl) d_Model_alarm_86 ?_
                    exact ⟨rfl, Or.inr (Or.inr (Or.inr (Or.inl (⟨c_1, c_2, c_4, c_5, c_6, c_7, rfl, rfl⟩))))⟩
                · skip
                  refine lv_aload_n hx hb d_Model_alarm_68 rfl (lv_at hl 0 rfl) ?_
                  refine os_get (C := "RobotFaultsModel") (T := F_Model) (N := 38) (ci := 7) (K := 13) (j := 27) (i := 0) (v := .ref (ad 35 0)) hx hb hts i_Model hown hK hV rfl rfl (by decide) (hM.1.n 13 (by decide) (by decide)) (hts _ k_752) (congrArg (fun z => va_rf (Option.map (ad 35) z)) (hM.1.2.1 27 (by decide) (by decide))) d_Model_alarm_69 ?_
                  refine lv_iload_n hx hb d_Model_alarm_72 rfl (lv_at hl 1 rfl) ?_
                  refine os_ialdN (K := 35) (i := 0) (t0 := 0) (n := (iN x)) hx hb hK hV rfl rfl rfl (hM.1.n 35 (by decide) (by decide)) (inF.ix (σ := σ) (bz_1 c_1) hM.2.2.2.2.1).1 (by rw [show os_l (os_sg σ 13 0 0 0) 35 0 = 40 from hM.1.2.2 35 (by decide) (by decide)]; have h9 := (Nat.lt_of_lt_of_le (inF.ix (σ := σ) (bz_1 c_1) hM.2.2.2.2.1).2 hM.2.2.2.2.1.2); omega) (by rw [show os_l (os_sg σ 13 0 0 0) 35 0 = 40 from hM.1.2.2 35 (by decide) (by decide)]; decide) d_Model_alarm_73 ?_
                  refine W.eq (g2 := F0 m 74 ls [.int (os_g σ 35 (iN x) 0)]) (congrArg (fun z => F0 m 74 ls (.int z :: [])) (show os_g (os_sg σ 13 0 0 0) 35 (iN x) 0 = os_g σ 35 (iN x) 0 from rfl)) ?_
                  refine os_iret hx hb hr hlocks hV (Nat.le_of_ble_eq_true rfl) (Nat.le_of_ble_eq_true rfl) d_Model_alarm_74 ?_
                  exact ⟨rfl, Or.inr (Or.inr (Or.inr (Or.inr (Or.inl (⟨c_1, c_2, c_4, c_5, c_6, rfl, rfl⟩)))))⟩
              · skip
                refine lv_aload_n hx hb d_Model_alarm_56 rfl (lv_at hl 0 rfl) ?_
                refine os_get (C := "RobotFaultsModel") (T := F_Model) (N := 38) (ci := 7) (K := 13) (j := 26) (i := 0) (v := .ref (ad 34 0)) hx hb hts i_Model hown hK hV rfl rfl (by decide) (hM.1.n 13 (by decide) (by decide)) (hts _ k_751) (congrArg (fun z => va_rf (Option.map (ad 34) z)) (hM.1.2.1 26 (by decide) (by decide))) d_Model_alarm_57 ?_
                refine lv_iload_n hx hb d_Model_alarm_60 rfl (lv_at hl 1 rfl) ?_
                refine os_ialdN (K := 34) (i := 0) (t0 := 0) (n := (iN x)) hx hb hK hV rfl rfl rfl (hM.1.n 34 (by decide) (by decide)) (inF.ix (σ := σ) (bz_1 c_1) hM.2.2.2.2.1).1 (by rw [show os_l (os_sg σ 13 0 0 0) 34 0 = 40 from hM.1.2.2 34 (by decide) (by decide)]; have h9 := (Nat.lt_of_lt_of_le (inF.ix (σ := σ) (bz_1 c_1) hM.2.2.2.2.1).2 hM.2.2.2.2.1.2); omega) (by rw [show os_l (os_sg σ 13 0 0 0) 34 0 = 40 from hM.1.2.2 34 (by decide) (by decide)]; decide) d_Model_alarm_61 ?_
                refine W.eq (g2 := F0 m 62 ls [.int (os_g σ 34 (iN x) 0)]) (congrArg (fun z => F0 m 62 ls (.int z :: [])) (show os_g (os_sg σ 13 0 0 0) 34 (iN x) 0 = os_g σ 34 (iN x) 0 from rfl)) ?_
                refine os_iret hx hb hr hlocks hV (Nat.le_of_ble_eq_true rfl) (Nat.le_of_ble_eq_true rfl) d_Model_alarm_62 ?_
                exact ⟨rfl, Or.inr (Or.inr (Or.inr (Or.inr (Or.inr (Or.inl (⟨c_1, c_2, c_4, c_5, rfl, rfl⟩))))))⟩
            · skip
              refine lv_aload_n hx hb d_Model_alarm_44 rfl (lv_at hl 0 rfl) ?_
              refine os_get (C := "RobotFaultsModel") (T := F_Model) (N := 38) (ci := 7) (K := 13) (j := 25) (i := 0) (v := .ref (ad 33 0)) hx hb hts i_Model hown hK hV rfl rfl (by decide) (hM.1.n 13 (by decide) (by decide)) (hts _ k_750) (congrArg (fun z => va_rf (Option.map (ad 33) z)) (hM.1.2.1 25 (by decide) (by decide))) d_Model_alarm_45 ?_
              refine lv_iload_n hx hb d_Model_alarm_48 rfl (lv_at hl 1 rfl) ?_
              refine os_ialdN (K := 33) (i := 0) (t0 := 0) (n := (iN x)) hx hb hK hV rfl rfl rfl (hM.1.n 33 (by decide) (by decide)) (inF.ix (σ := σ) (bz_1 c_1) hM.2.2.2.2.1).1 (by rw [show os_l (os_sg σ 13 0 0 0) 33 0 = 40 from hM.1.2.2 33 (by decide) (by decide)]; have h9 := (Nat.lt_of_lt_of_le (inF.ix (σ := σ) (bz_1 c_1) hM.2.2.2.2.1).2 hM.2.2.2.2.1.2); omega) (by rw [show os_l (os_sg σ 13 0 0 0) 33 0 = 40 from hM.1.2.2 33 (by decide) (by decide)]; decide) d_Model_alarm_49 ?_
              refine W.eq (g2 := F0 m 50 ls [.int (os_g σ 33 (iN x) 0)]) (congrArg (fun z => F0 m 50 ls (.int z :: [])) (show os_g (os_sg σ 13 0 0 0) 33 (iN x) 0 = os_g σ 33 (iN x) 0 from rfl)) ?_
              refine os_iret hx hb hr hlocks hV (Nat.le_of_ble_eq_true rfl) (Nat.le_of_ble_eq_true rfl) d_Model_alarm_50 ?_
              exact ⟨rfl, Or.inr (Or.inr (Or.inr (Or.inr (Or.inr (Or.inr (Or.inl (⟨c_1, c_2, c_4, rfl, rfl⟩)))))))⟩
          · exact absurd (by decide) c_3
        · skip
          refine lv_iconst (v := 2) hx hb d_Model_alarm_23 (by decide) ?_
          refine lv_goto (tgt := 28) hx hb d_Model_alarm_24 (by decide) ?_
          refine os_putI (C := "RobotFaultsModel") (T := F_Model) (N := 38) (ci := 7) (K := 13) (j := 0) (i := 0) (v := 2) (ty := .int) hx hb hts i_Model t_Model t_Model_ok n_Model hown hK hV rfl rfl (by decide) (hM.1.n 13 (by decide) (by decide)) (hts _ k_725) rfl rfl rfl (by decide +kernel) rfl rfl d_Model_alarm_28 (fun H locs hV => ?_)
          refine lv_aload_n hx hb d_Model_alarm_31 rfl (lv_at hl 0 rfl) ?_
          refine os_get (C := "RobotFaultsModel") (T := F_Model) (N := 38) (ci := 7) (K := 13) (j := 0) (i := 0) (v := .int 2) hx hb hts i_Model hown hK hV rfl rfl (by decide) (hM.1.n 13 (by decide) (by decide)) (hts _ k_725) (os_fv_sgs (σ := σ) (ad := ad) (K := 13) (j := 0) (i := 0) (v := 2) rfl rfl) d_Model_alarm_32 ?_
          refine lv_if_le (tgt := 40) hx hb d_Model_alarm_35 (by decide) (fun c_10 => ?_) (fun c_10 => ?_)
          · exact absurd c_10 (by decide)
          · skip
            refine lv_iconst (v := 0) hx hb d_Model_alarm_38 (by decide) ?_
            refine os_iret hx hb hr hlocks hV (Nat.le_of_ble_eq_true rfl) (Nat.le_of_ble_eq_true rfl) d_Model_alarm_39 ?_
            exact ⟨rfl, Or.inr (Or.inr (Or.inr (Or.inr (Or.inr (Or.inr (Or.inr (Or.inl (⟨c_1, c_2, rfl, rfl⟩))))))))⟩
      · exact absurd hp.2.2 (fun h => by cases h)
    · skip
      refine lv_iconst (v := 1) hx hb d_Model_alarm_9 (by decide) ?_
      refine lv_goto (tgt := 28) hx hb d_Model_alarm_10 (by decide) ?_
      refine os_putI (C := "RobotFaultsModel") (T := F_Model) (N := 38) (ci := 7) (K := 13) (j := 0) (i := 0) (v := 1) (ty := .int) hx hb hts i_Model t_Model t_Model_ok n_Model hown hK hV rfl rfl (by decide) (hM.1.n 13 (by decide) (by decide)) (hts _ k_725) rfl rfl rfl (by decide +kernel) rfl rfl d_Model_alarm_28 (fun H locs hV => ?_)
      refine lv_aload_n hx hb d_Model_alarm_31 rfl (lv_at hl 0 rfl) ?_
      refine os_get (C := "RobotFaultsModel") (T := F_Model) (N := 38) (ci := 7) (K := 13) (j := 0) (i := 0) (v := .int 1) hx hb hts i_Model hown hK hV rfl rfl (by decide) (hM.1.n 13 (by decide) (by decide)) (hts _ k_725) (os_fv_sgs (σ := σ) (ad := ad) (K := 13) (j := 0) (i := 0) (v := 1) rfl rfl) d_Model_alarm_32 ?_
      refine lv_if_le (tgt := 40) hx hb d_Model_alarm_35 (by decide) (fun c_11 => ?_) (fun c_11 => ?_)
      · exact absurd c_11 (by decide)
      · skip
        refine lv_iconst (v := 0) hx hb d_Model_alarm_38 (by decide) ?_
        refine os_iret hx hb hr hlocks hV (Nat.le_of_ble_eq_true rfl) (Nat.le_of_ble_eq_true rfl) d_Model_alarm_39 ?_
        exact ⟨rfl, Or.inr (Or.inr (Or.inr (Or.inr (Or.inr (Or.inr (Or.inr (Or.inr (⟨c_1, rfl, rfl⟩))))))))⟩
  · exact absurd hp.2.2 (fun h => by cases h)
/-- what Model_known does, road by road -/
def m_known (σ : os_S) (ad : Nat → Nat → Nat) (x y : Int32) : os_O → os_S → (Nat → Nat → Nat) → Prop := fun r σ' ad' => ad = ad' ∧ (((¬ (bz (inF x 1 (os_g σ 13 13 0))) = 0) ∧ (¬ (bz (inF y 0 8)) = 0) ∧ (¬ y = 0) ∧ (¬ y = 1) ∧ (¬ y = 2) ∧ (¬ y = 3) ∧ (¬ y = 4) ∧ (¬ y = 5) ∧ (¬ y = 6) ∧ (¬ y = 7) ∧ os_sg σ 13 0 0 0 = σ' ∧ r = .inl (some (.int (os_g σ 32 (iN x) 0)))) ∨ ((¬ (bz (inF x 1 (os_g σ 13 13 0))) = 0) ∧ (¬ (bz (inF y 0 8)) = 0) ∧ (¬ y = 0) ∧ (¬ y = 1) ∧ (¬ y = 2) ∧ (¬ y = 3) ∧ (¬ y = 4) ∧ (¬ y = 5) ∧ (¬ y = 6) ∧ (y = 7) ∧ os_sg σ 13 0 0 0 = σ' ∧ r = .inl (some (.int (os_g σ 31 (iN x) 0)))) ∨ ((¬ (bz (inF x 1 (os_g σ 13 13 0))) = 0) ∧ (¬ (bz (inF y 0 8)) = 0) ∧ (¬ y = 0) ∧ (¬ y = 1) ∧ (¬ y = 2) ∧ (¬ y = 3) ∧ (¬ y = 4) ∧ (¬ y = 5) ∧ (y = 6) ∧ ((os_g σ 30 (iN x) 0) = 0) ∧ os_sg σ 13 0 0 0 = σ' ∧ r = .inl (some (.int 0))) ∨ ((¬ (bz (inF x 1 (os_g σ 13 13 0))) = 0) ∧ (¬ (bz (inF y 0 8)) = 0) ∧ (¬ y = 0) ∧ (¬ y = 1) ∧ (¬ y = 2) ∧ (¬ y = 3) ∧ (¬ y = 4) ∧ (¬ y = 5) ∧ (y = 6) ∧ (¬ ((os_g σ 30 (iN x) 0) = 0)) ∧ os_sg σ 13 0 0 0 = σ' ∧ r = .inl (some (.int 1))) ∨ ((¬ (bz (inF x 1 (os_g σ 13 13 0))) = 0) ∧ (¬ (bz (inF y 0 8)) = 0) ∧ (¬ y = 0) ∧ (¬ y = 1) ∧ (¬ y = 2) ∧ (¬ y = 3) ∧ (¬ y = 4) ∧ (y = 5) ∧ os_sg σ 13 0 0 0 = σ' ∧ r = .inl (some (.int (os_g σ 28 (iN x) 0)))) ∨ ((¬ (bz (inF x 1 (os_g σ 13 13 0))) = 0) ∧ (¬ (bz (inF y 0 8)) = 0) ∧ (¬ y = 0) ∧ (¬ y = 1) ∧ (¬ y = 2) ∧ (¬ y = 3) ∧ (y = 4) ∧ os_sg σ 13 0 0 0 = σ' ∧ r = .inl (some (.int (os_g σ 27 (iN x) 0)))) ∨ ((¬ (bz (inF x 1 (os_g σ 13 13 0))) = 0) ∧ (¬ (bz (inF y 0 8)) = 0) ∧ (¬ y = 0) ∧ (¬ y = 1) ∧ (¬ y = 2) ∧ (y = 3) ∧ os_sg σ 13 0 0 0 = σ' ∧ r = .inl (some (.int (os_g σ 26 (iN x) 0)))) ∨ ((¬ (bz (inF x 1 (os_g σ 13 13 0))) = 0) ∧ (¬ (bz (inF y 0 8)) = 0) ∧ (¬ y = 0) ∧ (¬ y = 1) ∧ (y = 2) ∧ os_sg σ 13 0 0 0 = σ' ∧ r = .inl (some (.int (os_g σ 25 (iN x) 0)))) ∨ ((¬ (bz (inF x 1 (os_g σ 13 13 0))) = 0) ∧ (¬ (bz (inF y 0 8)) = 0) ∧ (¬ y = 0) ∧ (y = 1) ∧ os_sg σ 13 0 0 0 = σ' ∧ r = .inl (some (.int (os_g σ 24 (iN x) 0)))) ∨ ((¬ (bz (inF x 1 (os_g σ 13 13 0))) = 0) ∧ (¬ (bz (inF y 0 8)) = 0) ∧ (y = 0) ∧ os_sg σ 13 0 0 0 = σ' ∧ r = .inl (some (.int (os_g σ 23 (iN x) 0)))) ∨ ((¬ (bz (inF x 1 (os_g σ 13 13 0))) = 0) ∧ ((bz (inF y 0 8)) = 0) ∧ os_sg σ 13 0 0 2 = σ' ∧ r = .inl (some (.int 0))) ∨ (((bz (inF x 1 (os_g σ 13 13 0))) = 0) ∧ os_sg σ 13 0 0 1 = σ' ∧ r = .inl (some (.int 0))))
set_option maxHeartbeats 4000000 in
set_option maxRecDepth 100000 in
theorem c_Model_known (l : Launch) (hlt : l.stackTraces = false) (D : va_G) (cA : Nat → ClassId) (bs : Nat) (σ : os_S) (ad : Nat → Nat → Nat) (x y : Int32) (hM : MI σ) : os_Met l y_Model_known prog_9_method_36_code 3 (some .int) { frames := 2, cells := 0, slots := 0, locals := 43 } D cA bs [.ref (ad 13 0), .int x, .int y] σ ad (m_known σ ad x y) := by
  refine os_ofW (by decide) ?_
  intro p e s m below meth c hx hb hr hml hown hlocks hmn hout hE hV
  have hts := hE.hts (args := ([.ref (ad 13 0), .int x, .int y] : List Value).toArray)
  have hK := hE.2.1
  have hbs := hE.2.2.1
  have hown : s.vm.findClass "RobotFaultsModel" = some m.cls := hown
  have hl := lv_entry ([.ref (ad 13 0), .int x, .int y]) (n := 3) (Nat.le_of_ble_eq_true rfl)
  rw [lg_entry_eq]
  generalize (lg_sl ([.ref (ad 13 0), .int x, .int y]) ++ List.replicate (3 - (lg_sl ([.ref (ad 13 0), .int x, .int y])).length) Slot.unset).toArray = ls at hl ⊢
  have hl : lv_has ls 3 [(0, .ref (ad 13 0)), (1, .int x), (2, .int y)] := hl
  refine lv_aload_n hx hb d_Model_known_0 rfl (lv_at hl 0 rfl) ?_
  refine lv_aload_n hx hb d_Model_known_1 rfl (lv_at hl 0 rfl) ?_
  refine lv_iload_n hx hb d_Model_known_2 rfl (lv_at hl 1 rfl) ?_
  refine os_call (c_Model_isFault l hlt D cA bs σ ad x hM) hE hV k_910 k_4 (os_inV (C := "RobotFaultsModel") (n := 1) (bytes := prog_9_method_6_code) (maxL := 2) (ret := (some .boolean)) hx hb hown (hts _ k_907) (hts _ k_909) (hts _ k_s27) (hts _ k_910) (by decide +kernel) rfl (os_recv hK hV rfl rfl (hM.1.n 13 (by decide) (by decide))) rfl d_Model_known_3) (hl.1.trans hml.symm) (Nat.le_of_ble_eq_true rfl) (Nat.le_of_ble_eq_true rfl) (Nat.le_of_ble_eq_true rfl) (Nat.le_of_ble_eq_true rfl) (Nat.le_of_ble_eq_true rfl) (fun v σ1 ad1 H locs hp hext hV => ?_) (fun E q ce σ1 ad1 H locs hp hext hV hce hcv hcl => ?_)
  · obtain ⟨rfl, rfl, hp⟩ := hp
    cases hp
    refine W.eq (g2 := F0 m 6 ls [.int (bz (inF x 1 (os_g σ 13 13 0))), .ref (ad 13 0)]) rfl ?_
    refine lv_if_ne (tgt := 13) hx hb d_Model_known_6 (by decide) (fun c_1 => ?_) (fun c_1 => ?_)
    · skip
      refine lv_iload_n hx hb d_Model_known_13 rfl (lv_at hl 2 rfl) ?_
      refine lv_iconst (v := 0) hx hb d_Model_known_14 (by decide) ?_
      refine lv_bipush (v := 8) hx hb d_Model_known_15 (by decide) ?_
      refine os_call (c_Model_in l hlt D cA bs σ ad y 0 8) hE hV k_859 k_4 (os_inS (n := 3) (bytes := prog_9_method_3_code) (maxL := 3) (ret := (some .boolean)) hx hb hown (hts _ k_857) (hts _ k_858) (hts _ k_4) (hts _ k_859) (by decide +kernel) rfl rfl d_Model_known_17) (hl.1.trans hml.symm) (Nat.le_of_ble_eq_true rfl) (Nat.le_of_ble_eq_true rfl) (Nat.le_of_ble_eq_true rfl) (Nat.le_of_ble_eq_true rfl) (Nat.le_of_ble_eq_true rfl) (fun v σ1 ad1 H locs hp hext hV => ?_) (fun E q ce σ1 ad1 H locs hp hext hV hce hcv hcl => ?_)
      · obtain ⟨rfl, rfl, hp⟩ := hp
        cases hp
        refine W.eq (g2 := F0 m 20 ls [.int (bz (inF y 0 8)), .ref (ad 13 0)]) rfl ?_
        refine lv_if_ne (tgt := 27) hx hb d_Model_known_20 (by decide) (fun c_2 => ?_) (fun c_2 => ?_)
        · skip
          refine lv_iconst (v := 0) hx hb d_Model_known_27 (by decide) ?_
          refine os_putI (C := "RobotFaultsModel") (T := F_Model) (N := 38) (ci := 7) (K := 13) (j := 0) (i := 0) (v := 0) (ty := .int) hx hb hts i_Model t_Model t_Model_ok n_Model hown hK hV rfl rfl (by decide) (hM.1.n 13 (by decide) (by decide)) (hts _ k_725) rfl rfl rfl (by decide +kernel) rfl rfl d_Model_known_28 (fun H locs hV => ?_)
          refine lv_aload_n hx hb d_Model_known_31 rfl (lv_at hl 0 rfl) ?_
          refine os_get (C := "RobotFaultsModel") (T := F_Model) (N := 38) (ci := 7) (K := 13) (j := 0) (i := 0) (v := .int 0) hx hb hts i_Model hown hK hV rfl rfl (by decide) (hM.1.n 13 (by decide) (by decide)) (hts _ k_725) (os_fv_sgs (σ := σ) (ad := ad) (K := 13) (j := 0) (i := 0) (v := 0) rfl rfl) d_Model_known_32 ?_
          refine lv_if_le (tgt := 40) hx hb d_Model_known_35 (by decide) (fun c_3 => ?_) (fun c_3 => ?_)
          · skip
            refine lv_iload_n hx hb d_Model_known_40 rfl (lv_at hl 2 rfl) ?_
            refine lv_if_ne (tgt := 51) hx hb d_Model_known_41 (by decide) (fun c_4 => ?_) (fun c_4 => ?_)
            · skip
              refine lv_iload_n hx hb d_Model_known_51 rfl (lv_at hl 2 rfl) ?_
              refine lv_iconst (v := 1) hx hb d_Model_known_52 (by decide) ?_
              refine lv_icmp_ne (tgt := 63) hx hb d_Model_known_53 (by decide) (fun c_5 => ?_) (fun c_5 => ?_)
              · skip
                refine lv_iload_n hx hb d_Model_known_63 rfl (lv_at hl 2 rfl) ?_
                refine lv_iconst (v := 2) hx hb d_Model_known_64 (by decide) ?_
                refine lv_icmp_ne (tgt := 75) hx hb d_Model_known_65 (by decide) (fun c_6 => ?_) (fun c_6 => ?_)
                · skip
                  refine lv_iload_n hx hb d_Model_known_75 rfl (lv_at hl 2 rfl) ?_
                  refine lv_iconst (v := 3) hx hb d_Model_known_76 (by decide) ?_
                  refine lv_icmp_ne (tgt := 87) hx hb d_Model_known_77 (by decide) (fun c_7 => ?_) (fun c_7 => ?_)
                  · skip
                    refine lv_iload_n hx hb d_Model_known_87 rfl (lv_at hl 2 rfl) ?_
                    refine lv_iconst (v := 4) hx hb d_Model_known_88 (by decide) ?_
                    refine lv_icmp_ne (tgt := 99) hx hb d_Model_known_89 (by decide) (fun c_8 => ?_) (fun c_8 => ?_)
                    · skip
                      refine lv_iload_n hx hb d_Model_known_99 rfl (lv_at hl 2 rfl) ?_
                      refine lv_iconst (v := 5) hx hb d_Model_known_100 (by decide) ?_
                      refine lv_icmp_ne (tgt := 111) hx hb d_Model_known_101 (by decide) (fun c_9 => ?_) (fun c_9 => ?_)
                      · skip
                        refine lv_iload_n hx hb d_Model_known_111 rfl (lv_at hl 2 rfl) ?_
                        refine lv_bipush (v := 6) hx hb d_Model_known_112 (by decide) ?_
                        refine lv_icmp_ne (tgt := 134) hx hb d_Model_known_114 (by decide) (fun c_10 => ?_) (fun c_10 => ?_)
                        · skip
                          refine lv_iload_n hx hb d_Model_known_134 rfl (lv_at hl 2 rfl) ?_
                          refine lv_bipush (v := 7) hx hb d_Model_known_135 (by decide) ?_
                          refine lv_icmp_ne (tgt := 149) hx hb d_Model_known_137 (by decide) (fun c_11 => ?_) (fun c_11 => ?_)
                          · skip
                            refine lv_aload_n hx hb d_Model_known_149 rfl (lv_at hl 0 rfl) ?_
                            refine os_get (C := "RobotFaultsModel") (T := F_Model) (N := 38) (ci := 7) (K := 13) (j := 23) (i := 0) (v := .ref (ad 32 0)) hx hb hts i_Model hown hK hV rfl rfl (by decide) (hM.1.n 13 (by decide) (by decide)) (hts _ k_748) (congrArg (fun z => va_rf (Option.map (ad 32) z)) (hM.1.2.1 23 (by decide) (by decide))) d_Model_known_150 ?_
                            refine lv_iload_n hx hb d_Model_known_153 rfl (lv_at hl 1 rfl) ?_
                            refine os_ialdN (K := 32) (i := 0) (t0 := 0) (n := (iN x)) hx hb hK hV rfl rfl rfl (hM.1.n 32 (by decide) (by decide)) (inF.ft (σ := σ) (bz_1 c_1) hM.2.2.2.1).1 (by rw [show os_l (os_sg σ 13 0 0 0) 32 0 = 41 from hM.1.2.2 32 (by decide) (by decide)]; have h9 := (Nat.le_trans (inF.ft (σ := σ) (bz_1 c_1) hM.2.2.2.1).2.2 hM.2.2.2.1.2); omega) (by rw [show os_l (os_sg σ 13 0 0 0) 32 0 = 41 from hM.1.2.2 32 (by decide) (by decide)]; decide) d_Model_known_154 ?_
                            refine W.eq (g2 := F0 m 155 ls [.int (os_g σ 32 (iN x) 0)]) (congrArg (fun z => F0 m 155 ls (.int z :: [])) (show os_g (os_sg σ 13 0 0 0) 32 (iN x) 0 = os_g σ 32 (iN x) 0 from rfl)) ?_
                            refine os_iret hx hb hr hlocks hV (Nat.le_of_ble_eq_true rfl) (Nat.le_of_ble_eq_true rfl) d_Model_known_155 ?_
                            exact ⟨rfl, Or.inl (⟨c_1, c_2, c_4, c_5, c_6, c_7, c_8, c_9, c_10, c_11, rfl, rfl⟩)⟩
                          · skip
                            refine lv_aload_n hx hb d_Model_known_140 rfl (lv_at hl 0 rfl) ?_
                            refine os_get (C := "RobotFaultsModel") (T := F_Model) (N := 38) (ci := 7) (K := 13) (j := 22) (i := 0) (v := .ref (ad 31 0)) hx hb hts i_Model hown hK hV rfl rfl (by decide) (hM.1.n 13 (by decide) (by decide)) (hts _ k_747) (congrArg (fun z => va_rf (Option.map (ad 31) z)) (hM.1.2.1 22 (by decide) (by decide))) d_Model_known_141 ?_
                            refine lv_iload_n hx hb d_Model_known_144 rfl (lv_at hl 1 rfl) ?_
                            refine os_ialdN (K := 31) (i := 0) (t0 := 0) (n := (iN x)) hx hb hK hV rfl rfl rfl (hM.1.n 31 (by decide) (by decide)) (inF.ft (σ := σ) (bz_1 c_1) hM.2.2.2.1).1 (by rw [show os_l (os_sg σ 13 0 0 0) 31 0 = 41 from hM.1.2.2 31 (by decide) (by decide)]; have h9 := (Nat.le_trans (inF.ft (σ := σ) (bz_1 c_1) hM.2.2.2.1).2.2 hM.2.2.2.1.2); omega) (by rw [show os_l (os_sg σ 13 0 0 0) 31 0 = 41 from hM.1.2.2 31 (by decide) (by decide)]; decide) d_Model_known_145 ?_
                            refine W.eq (g2 := F0 m 146 ls [.int (os_g σ 31 (iN x) 0)]) (congrArg (fun z => F0 m 146 ls (.int z :: [])) (show os_g (os_sg σ 13 0 0 0) 31 (iN x) 0 = os_g σ 31 (iN x) 0 from rfl)) ?_
                            refine lv_goto (tgt := 155) hx hb d_Model_known_146 (by decide) ?_
                            refine os_iret hx hb hr hlocks hV (Nat.le_of_ble_eq_true rfl) (Nat.le_of_ble_eq_true rfl) d_Model_known_155 ?_
                            exact ⟨rfl, Or.inr (Or.inl (⟨c_1, c_2, c_4, c_5, c_6, c_7, c_8, c_9, c_10, c_11, rfl, rfl⟩))⟩
                        · skip
                          refine lv_aload_n hx hb d_Model_known_117 rfl (lv_at hl 0 rfl) ?_
                          refine os_get (C := "RobotFaultsModel") (T := F_Model) (N := 38) (ci := 7) (K := 13) (j := 21) (i := 0) (v := .ref (ad 30 0)) hx hb hts i_Model hown hK hV rfl rfl (by decide) (hM.1.n 13 (by decide) (by decide)) (hts _ k_746) (congrArg (fun z => va_rf (Option.map (ad 30) z)) (hM.1.2.1 21 (by decide) (by decide))) d_Model_known_118 ?_
                          refine lv_iload_n hx hb d_Model_known_121 rfl (lv_at hl 1 rfl) ?_
                          refine os_zaldN (K := 30) (i := 0) (t0 := 1) (n := (iN x)) hx hb hK hV rfl rfl rfl (hM.1.n 30 (by decide) (by decide)) (inF.ft (σ := σ) (bz_1 c_1) hM.2.2.2.1).1 (by rw [show os_l (os_sg σ 13 0 0 0) 30 0 = 41 from hM.1.2.2 30 (by decide) (by decide)]; have h9 := (Nat.le_trans (inF.ft (σ := σ) (bz_1 c_1) hM.2.2.2.1).2.2 hM.2.2.2.1.2); omega) (by rw [show os_l (os_sg σ 13 0 0 0) 30 0 = 41 from hM.1.2.2 30 (by decide) (by decide)]; decide) d_Model_known_122 ?_
                          refine W.eq (g2 := F0 m 123 ls [.int (os_g σ 30 (iN x) 0)]) (congrArg (fun z => F0 m 123 ls (.int z :: [])) (show os_g (os_sg σ 13 0 0 0) 30 (iN x) 0 = os_g σ 30 (iN x) 0 from rfl)) ?_
                          refine lv_if_eq (tgt := 130) hx hb d_Model_known_123 (by decide) (fun c_12 => ?_) (fun c_12 => ?_)
                          · skip
                            refine lv_iconst (v := 0) hx hb d_Model_known_130 (by decide) ?_
                            refine lv_goto (tgt := 155) hx hb d_Model_known_131 (by decide) ?_
                            refine os_iret hx hb hr hlocks hV (Nat.le_of_ble_eq_true rfl) (Nat.le_of_ble_eq_true rfl) d_Model_known_155 ?_
                            exact ⟨rfl, Or.inr (Or.inr (Or.inl (⟨c_1, c_2, c_4, c_5, c_6, c_7, c_8, c_9, c_10, c_12, rfl, rfl⟩)))⟩
                          · skip
                            refine lv_iconst (v := 1) hx hb d_Model_known_126 (by decide) ?_
                            refine lv_goto (tgt := 155) hx hb d_Model_known_127 (by decide) ?_
                            refine os_iret hx hb hr hlocks hV (Nat.le_of_ble_eq_true rfl) (Nat.le_of_ble_eq_true rfl) d_Model_known_155 ?_
                            exact ⟨rfl, Or.inr (Or.inr (Or.inr (Or.inl (⟨c_1, c_2, c_4, c_5, c_6, c_7, c_8, c_9, c_10, c_12, rfl, rfl⟩))))⟩
                      · skip
                        refine lv_aload_n hx hb d_Model_known_104 rfl (lv_at hl 0 rfl) ?_
                        refine os_get (C := "RobotFaultsModel") (T := F_Model) (N := 38) (ci := 7) (K := 13) (j := 19) (i := 0) (v := .ref (ad 28 0)) hx hb hts i_Model hown hK hV rfl rfl (by decide) (hM.1.n 13 (by decide) (by decide)) (hts _ k_744) (congrArg (fun z => va_rf (Option.map (ad 28) z)) (hM.1.2.1 19 (by decide) (by decide))) d_Model_known_105 ?_
                        refine lv_iload_n hx hb d_Model_known_108 rfl (lv_at hl 1 rfl) ?_
                        refine os_ialdN (K := 28) (i := 0) (t0 := 0) (n := (iN x)) hx hb hK hV rfl rfl rfl (hM.1.n 28 (by decide) (by decide)) (inF.ft (σ := σ) (bz_1 c_1) hM.2.2.2.1).1 (by rw [show os_l (os_sg σ 13 0 0 0) 28 0 = 41 from hM.1.2.2 28 (by decide) (by decide)]; have h9 := (Nat.le_trans (inF.ft (σ := σ) (bz_1 c_1) hM.2.2.2.1).2.2 hM.2.2.2.1.2); omega) (by rw [show os_l (os_sg σ 13 0 0 0) 28 0 = 41 from hM.1.2.2 28 (by decide) (by decide)]; decide) d_Model_known_109 ?_
                        refine W.eq (g2 := F0 m 110 ls [.int (os_g σ 28 (iN x) 0)]) (congrArg (fun z => F0 m 110 ls (.int z :: [])) (show os_g (os_sg σ 13 0 0 0) 28 (iN x) 0 = os_g σ 28 (iN x) 0 from rfl)) ?_
                        refine os_iret hx hb hr hlocks hV (Nat.le_of_ble_eq_true rfl) (Nat.le_of_ble_eq_true rfl) d_Model_known_110 ?_
                        exact ⟨rfl, Or.inr (Or.inr (Or.inr (Or.inr (Or.inl (⟨c_1, c_2, c_4, c_5, c_6, c_7, c_8, c_9, rfl, rfl⟩)))))⟩
                    · skip
                      refine lv_aload_n hx hb d_Model_known_92 rfl (lv_at hl 0 rfl) ?_
                      refine os_get (C := "RobotFaultsModel") (T := F_Model) (N := 38) (ci := 7) (K := 13) (j := 18) (i := 0) (v := .ref (ad 27 0)) hx hb hts i_Model hown hK hV rfl rfl (by decide) (hM.1.n 13 (by decide) (by decide)) (hts _ k_743) (congrArg (fun z => va_rf (Option.map (ad 27) z)) (hM.1.2.1 18 (by decide) (by decide))) d_Model_known_93 ?_
                      refine lv_iload_n hx hb d_Model_known_96 rfl (lv_at hl 1 rfl) ?_
                      refine os_ialdN (K := 27) (i := 0) (t0 := 0) (n := (iN x)) hx hb hK hV rfl rfl rfl (hM.1.n 27 (by decide) (by decide)) (inF.ft (σ := σ) (bz_1 c_1) hM.2.2.2.1).1 (by rw [show os_l (os_sg σ 13 0 0 0) 27 0 = 41 from hM.1.2.2 27 (by decide) (by decide)]; have h9 := (Nat.le_trans (inF.ft (σ := σ) (bz_1 c_1) hM.2.2.2.1).2.2 hM.2.2.2.1.2); omega) (by rw [show os_l (os_sg σ 13 0 0 0) 27 0 = 41 from hM.1.2.2 27 (by decide) (by decide)]; decide) d_Model_known_97 ?_
                      refine W.eq (g2 := F0 m 98 ls [.int (os_g σ 27 (iN x) 0)]) (congrArg (fun z => F0 m 98 ls (.int z :: [])) (show os_g (os_sg σ 13 0 0 0) 27 (iN x) 0 = os_g σ 27 (iN x) 0 from rfl)) ?_
                      refine os_iret hx hb hr hlocks hV (Nat.le_of_ble_eq_true rfl) (Nat.le_of_ble_eq_true rfl) d_Model_known_98 ?_
                      exact ⟨rfl, Or.inr (Or.inr (Or.inr (Or.inr (Or.inr (Or.inl (⟨c_1, c_2, c_4, c_5, c_6, c_7, c_8, rfl, rfl⟩))))))⟩
                  · skip
                    refine lv_aload_n hx hb d_Model_known_80 rfl (lv_at hl 0 rfl) ?_
                    refine os_get (C := "RobotFaultsModel") (T := F_Model) (N := 38) (ci := 7) (K := 13) (j := 17) (i := 0) (v := .ref (ad 26 0)) hx hb hts i_Model hown hK hV rfl rfl (by decide) (hM.1.n 13 (by decide) (by decide)) (hts _ k_742) (congrArg (fun z => va_rf (Option.map (ad 26) z)) (hM.1.2.1 17 (by decide) (by decide))) d_Model_known_81 ?_
                    refine lv_iload_n hx hb d_Model_known_84 rfl (lv_at hl 1 rfl) ?_
                    refine os_ialdN (K := 26) (i := 0) (t0 := 0) (n := (iN x)) hx hb hK hV rfl rfl rfl (hM.1.n 26 (by decide) (by decide)) (inF.ft (σ := σ) (bz_1 c_1) hM.2.2.2.1).1 (by rw [show os_l (os_sg σ 13 0 0 0) 26 0 = 41 from hM.1.2.2 26 (by decide) (by decide)]; have h9 := (Nat.le_trans (inF.ft (σ := σ) (bz_1 c_1) hM.2.2.2.1).2.2 hM.2.2.2.1.2); omega) (by rw [show os_l (os_sg σ 13 0 0 0) 26 0 = 41 from hM.1.2.2 26 (by decide) (by decide)]; decide) d_Model_known_85 ?_
                    refine W.eq (g2 := F0 m 86 ls [.int (os_g σ 26 (iN x) 0)]) (congrArg (fun z => F0 m 86 ls (.int z :: [])) (show os_g (os_sg σ 13 0 0 0) 26 (iN x) 0 = os_g σ 26 (iN x) 0 from rfl)) ?_
                    refine os_iret hx hb hr hlocks hV (Nat.le_of_ble_eq_true rfl) (Nat.le_of_ble_eq_true rfl) d_Model_known_86 ?_
                    exact ⟨rfl, Or.inr (Or.inr (Or.inr (Or.inr (Or.inr (Or.inr (Or.inl (⟨c_1, c_2, c_4, c_5, c_6, c_7, rfl, rfl⟩)))))))⟩
                · skip
                  refine lv_aload_n hx hb d_Model_known_68 rfl (lv_at hl 0 rfl) ?_
                  refine os_get (C := "RobotFaultsModel") (T := F_Model) (N := 38) (ci := 7) (K := 13) (j := 16) (i := 0) (v := .ref (ad 25 0)) hx hb hts i_Model hown hK hV rfl rfl (by decide) (hM.1.n 13 (by decide) (by decide)) (hts _ k_741) (congrArg (fun z => va_rf (Option.map (ad 25) z)) (hM.1.2.1 16 (by decide) (by decide))) d_Model_known_69 ?_
                  refine lv_iload_n hx hb d_Model_known_72 rfl (lv_at hl 1 rfl) ?_
                  refine os_ialdN (K := 25) (i := 0) (t0 := 0) (n := (iN x)) hx hb hK hV rfl rfl rfl (hM.1.n 25 (by decide) (by decide)) (inF.ft (σ := σ) (bz_1 c_1) hM.2.2.2.1).1 (by rw [show os_l (os_sg σ 13 0 0 0) 25 0 = 41 from hM.1.2.2 25 (by decide) (by decide)]; have h9 := (Nat.le_trans (inF.ft (σ := σ) (bz_1 c_1) hM.2.2.2.1).2.2 hM.2.2.2.1.2); omega) (by rw [show os_l (os_sg σ 13 0 0 0) 25 0 = 41 from hM.1.2.2 25 (by decide) (by decide)]; decide) d_Model_known_73 ?_
                  refine W.eq (g2 := F0 m 74 ls [.int (os_g σ 25 (iN x) 0)]) (congrArg (fun z => F0 m 74 ls (.int z :: [])) (show os_g (os_sg σ 13 0 0 0) 25 (iN x) 0 = os_g σ 25 (iN x) 0 from rfl)) ?_
                  refine os_iret hx hb hr hlocks hV (Nat.le_of_ble_eq_true rfl) (Nat.le_of_ble_eq_true rfl) d_Model_known_74 ?_
                  exact ⟨rfl, Or.inr (Or.inr (Or.inr (Or.inr (Or.inr (Or.inr (Or.inr (Or.inl (⟨c_1, c_2, c_4, c_5, c_6, rfl, rfl⟩))))))))⟩
              · skip
                refine lv_aload_n hx hb d_Model_known_56 rfl (lv_at hl 0 rfl) ?_
                refine os_get (C := "RobotFaultsModel") (T := F_Model) (N := 38) (ci := 7) (K := 13) (j := 15) (i := 0) (v := .ref (ad 24 0)) hx hb hts i_Model hown hK hV rfl rfl (by decide) (hM.1.n 13 (by decide) (by decide)) (hts _ k_740) (congrArg (fun z => va_rf (Option.map (ad 24) z)) (hM.1.2.1 15 (by decide) (by decide))) d_Model_known_57 ?_
                refine lv_iload_n hx hb d_Model_known_60 rfl (lv_at hl 1 rfl) ?_
                refine os_ialdN (K := 24) (i := 0) (t0 := 0) (n := (iN x)) hx hb hK hV rfl rfl rfl (hM.1.n 24 (by decide) (by decide)) (inF.ft (σ := σ) (bz_1 c_1) hM.2.2.2.1).1 (by rw [show os_l (os_sg σ 13 0 0 0) 24 0 = 41 from hM.1.2.2 24 (by decide) (by decide)]; have h9 := (Nat.le_trans (inF.ft (σ := σ) (bz_1 c_1) hM.2.2.2.1).2.2 hM.2.2.2.1.2); omega) (by rw [show os_l (os_sg σ 13 0 0 0) 24 0 = 41 from hM.1.2.2 24 (by decide) (by decide)]; decide) d_Model_known_61 ?_
                refine W.eq (g2 := F0 m 62 ls [.int (os_g σ 24 (iN x) 0)]) (congrArg (fun z => F0 m 62 ls (.int z :: [])) (show os_g (os_sg σ 13 0 0 0) 24 (iN x) 0 = os_g σ 24 (iN x) 0 from rfl)) ?_
                refine os_iret hx hb hr hlocks hV (Nat.le_of_ble_eq_true rfl) (Nat.le_of_ble_eq_true rfl) d_Model_known_62 ?_
                exact ⟨rfl, Or.inr (Or.inr (Or.inr (Or.inr (Or.inr (Or.inr (Or.inr (Or.inr (Or.inl (⟨c_1, c_2, c_4, c_5, rfl, rfl⟩)))))))))⟩
            · skip
              refine lv_aload_n hx hb d_Model_known_44 rfl (lv_at hl 0 rfl) ?_
              refine os_get (C := "RobotFaultsModel") (T := F_Model) (N := 38) (ci := 7) (K := 13) (j := 14) (i := 0) (v := .ref (ad 23 0)) hx hb hts i_Model hown hK hV rfl rfl (by decide) (hM.1.n 13 (by decide) (by decide)) (hts _ k_739) (congrArg (fun z => va_rf (Option.map (ad 23) z)) (hM.1.2.1 14 (by decide) (by decide))) d_Model_known_45 ?_
              refine lv_iload_n hx hb d_Model_known_48 rfl (lv_at hl 1 rfl) ?_
              refine os_ialdN (K := 23) (i := 0) (t0 := 0) (n := (iN x)) hx hb hK hV rfl rfl rfl (hM.1.n 23 (by decide) (by decide)) (inF.ft (σ := σ) (bz_1 c_1) hM.2.2.2.1).1 (by rw [show os_l (os_sg σ 13 0 0 0) 23 0 = 41 from hM.1.2.2 23 (by decide) (by decide)]; have h9 := (Nat.le_trans (inF.ft (σ := σ) (bz_1 c_1) hM.2.2.2.1).2.2 hM.2.2.2.1.2); omega) (by rw [show os_l (os_sg σ 13 0 0 0) 23 0 = 41 from hM.1.2.2 23 (by decide) (by decide)]; decide) d_Model_known_49 ?_
              refine W.eq (g2 := F0 m 50 ls [.int (os_g σ 23 (iN x) 0)]) (congrArg (fun z => F0 m 50 ls (.int z :: [])) (show os_g (os_sg σ 13 0 0 0) 23 (iN x) 0 = os_g σ 23 (iN x) 0 from rfl)) ?_
              refine os_iret hx hb hr hlocks hV (Nat.le_of_ble_eq_true rfl) (Nat.le_of_ble_eq_true rfl) d_Model_known_50 ?_
              exact ⟨rfl, Or.inr (Or.inr (Or.inr (Or.inr (Or.inr (Or.inr (Or.inr (Or.inr (Or.inr (Or.inl (⟨c_1, c_2, c_4, rfl, rfl⟩))))))))))⟩
          · exact absurd (by decide) c_3
        · skip
          refine lv_iconst (v := 2) hx hb d_Model_known_23 (by decide) ?_
          refine lv_goto (tgt := 28) hx hb d_Model_known_24 (by decide) ?_
          refine os_putI (C := "RobotFaultsModel") (T := F_Model) (N := 38) (ci := 7) (K := 13) (j := 0) (i := 0) (v := 2) (ty := .int) hx hb hts i_Model t_Model t_Model_ok n_Model hown hK hV rfl rfl (by decide) (hM.1.n 13 (by decide) (by decide)) (hts _ k_725) rfl rfl rfl (by decide +kernel) rfl rfl d_Model_known_28 (fun H locs hV => ?_)
          refine lv_aload_n hx hb d_Model_known_31 rfl (lv_at hl 0 rfl) ?_
          refine os_get (C := "RobotFaultsModel") (T := F_Model) (N := 38) (ci := 7) (K := 13) (j := 0) (i := 0) (v := .int 2) hx hb hts i_Model hown hK hV rfl rfl (by decide) (hM.1.n 13 (by decide) (by decide)) (hts _ k_725) (os_fv_sgs (σ := σ) (ad := ad) (K := 13) (j := 0) (i := 0) (v := 2) rfl rfl) d_Model_known_32 ?_
          refine lv_if_le (tgt := 40) hx hb d_Model_known_35 (by decide) (fun c_13 => ?_) (fun c_13 => ?_)
          · exact absurd c_13 (by decide)
          · skip
            refine lv_iconst (v := 0) hx hb d_Model_known_38 (by decide) ?_
            refine os_iret hx hb hr hlocks hV (Nat.le_of_ble_eq_true rfl) (Nat.le_of_ble_eq_true rfl) d_Model_known_39 ?_
            exact ⟨rfl, Or.inr (Or.inr (Or.inr (Or.inr (Or.inr (Or.inr (Or.inr (Or.inr (Or.inr (Or.inr (Or.inl (⟨c_1, c_2, rfl, rfl⟩)))))))))))⟩
      · exact absurd hp.2.2 (fun h => by cases h)
    · skip
      refine lv_iconst (v := 1) hx hb d_Model_known_9 (by decide) ?_
      refine lv_goto (tgt := 28) hx hb d_Model_known_10 (by decide) ?_
      refine os_putI (C := "RobotFaultsModel") (T := F_Model) (N := 38) (ci := 7) (K := 13) (j := 0) (i := 0) (v := 1) (ty := .int) hx hb hts i_Model t_Model t_Model_ok n_Model hown hK hV rfl rfl (by decide) (hM.1.n 13 (by decide) (by decide)) (hts _ k_725) rfl rfl rfl (by decide +kernel) rfl rfl d_Model_known_28 (fun H locs hV => ?_)
      refine lv_aload_n hx hb d_Model_known_31 rfl (lv_at hl 0 rfl) ?_
      refine os_get (C := "RobotFaultsModel") (T := F_Model) (N := 38) (ci := 7) (K := 13) (j := 0) (i := 0) (v := .int 1) hx hb hts i_Model hown hK hV rfl rfl (by decide) (hM.1.n 13 (by decide) (by decide)) (hts _ k_725) (os_fv_sgs (σ := σ) (ad := ad) (K := 13) (j := 0) (i := 0) (v := 1) rfl rfl) d_Model_known_32 ?_
      refine lv_if_le (tgt := 40) hx hb d_Model_known_35 (by decide) (fun c_14 => ?_) (fun c_14 => ?_)
      · exact absurd c_14 (by decide)
      · skip
        refine lv_iconst (v := 0) hx hb d_Model_known_38 (by decide) ?_
        refine os_iret hx hb hr hlocks hV (Nat.le_of_ble_eq_true rfl) (Nat.le_of_ble_eq_true rfl) d_Model_known_39 ?_
        exact ⟨rfl, Or.inr (Or.inr (Or.inr (Or.inr (Or.inr (Or.inr (Or.inr (Or.inr (Or.inr (Or.inr (Or.inr (⟨c_1, rfl, rfl⟩)))))))))))⟩
  · exact absurd hp.2.2 (fun h => by cases h)
