/-! THE REFERENCE: a fault that comes, all of it -/
theorem mdc.s {σ : os_S} {j M : Nat} (h : mdc σ j M) : os_g σ 13 j 0 + 1 = nI (iN (os_g σ 13 j 0) + 1) := (congrArg (· + 1) h.1).trans (nI_1 _)
theorem mdc.up {σ : os_S} {j M : Nat} (h : mdc σ j M) (hn : iN (os_g σ 13 j 0) < M) (hM : M < 2 ^ 30 := by decide) : mdc (os_sg σ 13 j 0 (os_g σ 13 j 0 + 1)) j M := by
  unfold mdc
  rw [os_g_sg, if_pos ⟨rfl, rfl, rfl⟩, h.s, iN_nI (by omega)]
  exact ⟨rfl, hn⟩
theorem mdc.ne {σ : os_S} {j M j' : Nat} {v : Int32} (h : mdc σ j M) (hj : j ≠ j') : mdc (os_sg σ 13 j' 0 v) j M := by
  unfold mdc
  rw [os_g_sg, if_neg (fun z => hj z.2.1)]
  exact h
theorem mdx.sg {σ : os_S} {K N M K' j i : Nat} {v : Int32} (h : mdx σ K N M) (hK : K ≠ K') : mdx (os_sg σ K' j i v) K N M := fun i' hi' => by
  rw [os_g_sg, if_neg (fun z => hK z.1)]
  exact h i' hi'
theorem MI.f {σ : os_S} (h : MI σ) (hn : iN (os_g σ 13 13 0) < 40) : MI (os_sg σ 13 13 0 (os_g σ 13 13 0 + 1)) := by
  obtain ⟨h1, h2, h3, h4, h5, h6, h7, h8, h9, h10⟩ := h
  exact ⟨h1.sg, h2.ne (by decide), h3.ne (by decide), h4.up hn, h5.ne (by decide), h6.ne (by decide), h7.sg (by decide), h8.sg (by decide), h9.sg (by decide), h10.sg (by decide)⟩
theorem MI.a {σ : os_S} (h : MI σ) (hn : iN (os_g σ 13 24 0) < 40) : MI (os_sg σ 13 24 0 (os_g σ 13 24 0 + 1)) := by
  obtain ⟨h1, h2, h3, h4, h5, h6, h7, h8, h9, h10⟩ := h
  exact ⟨h1.sg, h2.ne (by decide), h3.ne (by decide), h4.ne (by decide), h5.up hn, h6.ne (by decide), h7.sg (by decide), h8.sg (by decide), h9.sg (by decide), h10.sg (by decide)⟩
theorem MI.N {σ : os_S} {x k : Int32} (h : MI σ) (hn : iN (os_g σ 13 24 0) < 40) : MI (maN σ x k) := by
  unfold maN
  exact ((((((h.k (by decide)).k (by decide)).k (by decide)).k (by decide)).k (by decide)).a hn)
theorem MI.S {σ : os_S} {x k : Int32} (h : MI σ) (hn : iN (os_g σ 13 24 0) < 40) : MI (maS σ x k) := by
  unfold maS
  split
  · exact h.N hn
  · exact h
theorem mla_lt {σ : os_S} {x k : Int32} {t : Nat} : ∀ {j : Nat}, mla σ x k j = some t → t < j ∧ os_g σ 33 t 0 = x ∧ os_g σ 34 t 0 = k
  | 0, h => by cases h
  | j + 1, h => by
    rw [mla] at h
    split at h
    · rename_i hc; cases h; exact ⟨by omega, hc⟩
    · have := mla_lt h; exact ⟨by omega, this.2⟩
theorem mjn_lt {σ : os_S} {x k : Int32} {t : Nat} (h : mjn σ x k = some t) : t < iN (os_g σ 13 24 0) := by
  unfold mjn at h
  split at h
  · cases h
  · rename_i u hu
    split at h
    · cases h
    · cases h; exact (mla_lt hu).1
theorem mal_lt {σ : os_S} {x k : Int32} (hn : iN (os_g σ 13 24 0) < 40) : mal σ x k < 40 := by
  unfold mal
  split
  · exact hn
  · rename_i t ht; have := mjn_lt ht; omega
/-- what a fault of a kind does to a robot, in the reference -/
def mcR (σ : os_S) (x k : Int32) (f : Nat) : os_S :=
  let a := os_sg σ 32 f 0 (if k = 2 then os_g σ 16 (iN x) 0 else -1)
  let b := if k = 2 then os_sg a 16 (iN x) 0 (-1) else a
  let c := if os_g σ 21 (iN k) 0 = 0 then b else os_sg b 18 (iN x) 0 1
  if k = 1 then os_sg (os_sg c 17 (iN x) 0 2) 19 (iN x) 0 (os_g σ 13 1 0) else if os_g σ 17 (iN x) 0 = 0 then os_sg c 17 (iN x) 0 1 else c
theorem MI.R {σ : os_S} {x k : Int32} {f : Nat} (h : MI σ) : MI (mcR σ x k f) := by
  have ha : MI (os_sg σ 32 f 0 (if k = 2 then os_g σ 16 (iN x) 0 else -1)) := h.k (by decide)
  have hb : MI (if k = 2 then os_sg (os_sg σ 32 f 0 (if k = 2 then os_g σ 16 (iN x) 0 else -1)) 16 (iN x) 0 (-1) else os_sg σ 32 f 0 (if k = 2 then os_g σ 16 (iN x) 0 else -1)) := by
    split
    · exact ha.k (by decide)
    · exact ha
  unfold mcR
  simp only
  generalize (if k = 2 then os_sg (os_sg σ 32 f 0 (if k = 2 then os_g σ 16 (iN x) 0 else -1)) 16 (iN x) 0 (-1) else os_sg σ 32 f 0 (if k = 2 then os_g σ 16 (iN x) 0 else -1)) = b at hb ⊢
  have hc : MI (if os_g σ 21 (iN k) 0 = 0 then b else os_sg b 18 (iN x) 0 1) := by
    split
    · exact hb
    · exact hb.k (by decide)
  generalize (if os_g σ 21 (iN k) 0 = 0 then b else os_sg b 18 (iN x) 0 1) = c at hc ⊢
  split
  · exact (hc.k (by decide)).k (by decide)
  · split
    · exact hc.k (by decide)
    · exact hc
theorem mcR_g {σ : os_S} {x k : Int32} {f K j i : Nat} (h : K ≠ 16 ∧ K ≠ 17 ∧ K ≠ 18 ∧ K ≠ 19 ∧ K ≠ 32) : os_g (mcR σ x k f) K j i = os_g σ K j i := by
  obtain ⟨h1, h2, h3, h4, h5⟩ := h
  unfold mcR
  simp only
  repeat' split
  all_goals simp [os_g_sg, h1, h2, h3, h4, h5]
theorem mcR_al {σ : os_S} {x k : Int32} {f : Nat} : os_g (mcR σ x k f) 13 24 0 = os_g σ 13 24 0 := mcR_g (by decide)
/-- a fault's first fields, in the reference -/
def mc0 (σ : os_S) (x k : Int32) (b : Bool) : os_S := os_sg (os_sg (os_sg (os_sg (os_sg (os_sg (os_sg (os_sg (os_sg σ 13 13 0 ((os_g σ 13 13 0) + 1)) 23 (iN (os_g σ 13 13 0) + 1) 0 x) 24 (iN (os_g σ 13 13 0) + 1) 0 k) 25 (iN (os_g σ 13 13 0) + 1) 0 (os_g σ 13 1 0)) 26 (iN (os_g σ 13 13 0) + 1) 0 (-1)) 28 (iN (os_g σ 13 13 0) + 1) 0 0) 29 (iN (os_g σ 13 13 0) + 1) 0 (os_g σ 20 (iN k) 0)) 30 (iN (os_g σ 13 13 0) + 1) 0 (bz b)) 31 (iN (os_g σ 13 13 0) + 1) 0 (os_g σ 15 (iN x) 0)
/-- its alarm's fields -/
def mc9 (σ : os_S) (f al : Nat) : os_S := os_sg (os_sg (os_sg (os_sg (os_sg σ 27 f 0 (nI al)) 37 al 0 ((os_g σ 37 al 0) + 1)) 38 al 0 (-1)) 39 al 0 (os_g σ 13 1 0)) 40 al 0 (nI f)
def mcm (σ : os_S) (x k : Int32) (b : Bool) : os_S := mc9 (maS (mcR (mc0 σ x k b) x k (iN (os_g σ 13 13 0) + 1)) x k) (iN (os_g σ 13 13 0) + 1) (mal (mcR (mc0 σ x k b) x k (iN (os_g σ 13 13 0) + 1)) x k)
/-- a fault comes, or is open -/
def mcS (σ : os_S) (x k : Int32) (b : Bool) : os_S := if mof σ x k ≤ 0 then mcm σ x k b else σ
def mcV (σ : os_S) (x k : Int32) : Int32 := if mof σ x k ≤ 0 then nI (iN (os_g σ 13 13 0) + 1) else -(mof σ x k)
set_option maxHeartbeats 4000000 in
set_option maxRecDepth 100000 in
theorem c_Model_come (l : Launch) (hlt : l.stackTraces = false) (D : va_G) (cA : Nat → ClassId) (bs : Nat) (σ : os_S) (ad : Nat → Nat → Nat) (x k : Int32) (b : Bool) (hM : MI σ) (hx9 : x = nI (iN x) ∧ iN x < 8) (hk9 : k = nI (iN k) ∧ iN k < 8) (hf : mof σ x k ≤ 0 → iN (os_g σ 13 13 0) < 40) (hn : mof σ x k ≤ 0 → iN (os_g σ 13 24 0) < 40) : os_Met l y_Model_come prog_9_method_19_code 6 (some .int) { frames := 1, cells := 0, slots := 0, locals := 26 } D cA bs [.ref (ad 13 0), .int x, .int k, .int (bz b)] σ ad (fun r σ' ad' => mcS σ x k b = σ' ∧ ad = ad' ∧ r = .inl (some (.int (mcV σ x k)))) := by
  refine os_ofW (by decide) ?_
  intro p e s m below meth c hx hb hr hml hown hlocks hmn hout hE hV
  have hts := hE.hts (args := ([.ref (ad 13 0), .int x, .int k, .int (bz b)] : List Value).toArray)
  have hK := hE.2.1
  have hbs := hE.2.2.1
  have hown : s.vm.findClass "RobotFaultsModel" = some m.cls := hown
  have hl := lv_entry ([.ref (ad 13 0), .int x, .int k, .int (bz b)]) (n := 6) (Nat.le_of_ble_eq_true rfl)
  rw [lg_entry_eq]
  generalize (lg_sl ([.ref (ad 13 0), .int x, .int k, .int (bz b)]) ++ List.replicate (6 - (lg_sl ([.ref (ad 13 0), .int x, .int k, .int (bz b)])).length) Slot.unset).toArray = ls at hl ⊢
  have hl : lv_has ls 6 [(0, .ref (ad 13 0)), (1, .int x), (2, .int k), (3, .int (bz b))] := hl
  refine lv_aload_n hx hb d_Model_come_0 rfl (lv_at hl 0 rfl) ?_
  refine lv_iload_n hx hb d_Model_come_1 rfl (lv_at hl 1 rfl) ?_
  refine lv_iload_n hx hb d_Model_come_2 rfl (lv_at hl 2 rfl) ?_
  refine os_call (c_Model_openOf l hlt D cA bs σ ad x k hM) hE hV k_898 k_4 (os_inV (C := "RobotFaultsModel") (n := 2) (bytes := prog_9_method_15_code) (maxL := 4) (ret := (some .int)) hx hb hown (hts _ k_895) (hts _ k_897) (hts _ k_s25) (hts _ k_898) (by decide +kernel) rfl (os_recv hK hV rfl rfl (hM.1.n 13 (by decide) (by decide))) rfl d_Model_come_3) (hl.1.trans hml.symm) (Nat.le_of_ble_eq_true rfl) (Nat.le_of_ble_eq_true rfl) (Nat.le_of_ble_eq_true rfl) (Nat.le_of_ble_eq_true rfl) (Nat.le_of_ble_eq_true rfl) (fun v σ1 ad1 H locs hp hext hV => ?_) (fun E q ce σ1 ad1 H locs hp hext hV hce hcv hcl => ?_)
  · obtain ⟨rfl, rfl, hp⟩ := hp
    cases hp
    refine W.eq (g2 := F0 m 6 ls [.int (mof σ x k)]) rfl ?_
    refine lv_if_le (tgt := 17) hx hb d_Model_come_6 (by decide) (fun c_1 => ?_) (fun c_1 => ?_)
    · skip
      have hf := hf c_1
      have hn := hn c_1
      refine lv_aload_n hx hb d_Model_come_17 rfl (lv_at hl 0 rfl) ?_
      refine lv_dup hx hb d_Model_come_18 rfl ?_
      refine os_get (C := "RobotFaultsModel") (T := F_Model) (N := 38) (ci := 7) (K := 13) (j := 13) (i := 0) (v := .int (os_g σ 13 13 0)) hx hb hts i_Model hown hK hV rfl rfl (by decide) (hM.1.n 13 (by decide) (by decide)) (hts _ k_738) rfl d_Model_come_19 ?_
      refine lv_iconst (v := 1) hx hb d_Model_come_22 (by decide) ?_
      refine lv_iadd hx hb d_Model_come_23 ?_
      refine os_putI (C := "RobotFaultsModel") (T := F_Model) (N := 38) (ci := 7) (K := 13) (j := 13) (i := 0) (v := (os_g σ 13 13 0) + 1) (ty := .int) hx hb hts i_Model t_Model t_Model_ok n_Model hown hK hV rfl rfl (by decide) (hM.1.n 13 (by decide) (by decide)) (hts _ k_738) rfl rfl rfl (by decide +kernel) rfl rfl d_Model_come_24 (fun H locs hV => ?_)
      refine lv_aload_n hx hb d_Model_come_27 rfl (lv_at hl 0 rfl) ?_
      refine os_get (C := "RobotFaultsModel") (T := F_Model) (N := 38) (ci := 7) (K := 13) (j := 13) (i := 0) (v := .int ((os_g σ 13 13 0) + 1)) hx hb hts i_Model hown hK hV rfl rfl (by decide) (hM.1.n 13 (by decide) (by decide)) (hts _ k_738) (os_fv_sgs (σ := σ) (ad := ad) (K := 13) (j := 13) (i := 0) (v := (os_g σ 13 13 0) + 1) rfl rfl) d_Model_come_28 ?_
      refine lv_istore (lv' := [(4, .int ((os_g σ 13 13 0) + 1)), (0, .ref (ad 13 0)), (1, .int x), (2, .int k), (3, .int (bz b))]) hx hb d_Model_come_31 hl (by decide) rfl (fun ls hl => ?_)
      rw [mdc.s hM.2.2.2.1] at hl
      refine lv_aload_n hx hb d_Model_come_33 rfl (lv_at hl 1 rfl) ?_
      refine os_get (C := "RobotFaultsModel") (T := F_Model) (N := 38) (ci := 7) (K := 13) (j := 14) (i := 0) (v := .ref (ad 23 0)) hx hb hts i_Model hown hK hV rfl rfl (by decide) (hM.1.n 13 (by decide) (by decide)) (hts _ k_739) (congrArg (fun z => va_rf (Option.map (ad 23) z)) (hM.1.2.1 14 (by decide) (by decide))) d_Model_come_34 ?_
      refine lv_iload hx hb d_Model_come_37 (lv_at hl 0 rfl) ?_
      refine lv_iload_n hx hb d_Model_come_39 rfl (lv_at hl 2 rfl) ?_
      refine os_iastN (K := 23) (i := 0) (t0 := 0) (n := (iN (os_g σ 13 13 0) + 1)) hx hb hK hV rfl rfl rfl (hM.1.n 23 (by decide) (by decide)) rfl (by rw [show os_l (os_sg σ 13 13 0 ((os_g σ 13 13 0) + 1)) 23 0 = 41 from hM.1.2.2 23 (by decide) (by decide)]; have h9 := (show iN (os_g σ 13 13 0) + 1 < 41 from by omega); omega) (by rw [show os_l (os_sg σ 13 13 0 ((os_g σ 13 13 0) + 1)) 23 0 = 41 from hM.1.2.2 23 (by decide) (by decide)]; decide) d_Model_come_40 (fun H locs hV => ?_)
      refine lv_aload_n hx hb d_Model_come_41 rfl (lv_at hl 1 rfl) ?_
      refine os_get (C := "RobotFaultsModel") (T := F_Model) (N := 38) (ci := 7) (K := 13) (j := 15) (i := 0) (v := .ref (ad 24 0)) hx hb hts i_Model hown hK hV rfl rfl (by decide) (hM.1.n 13 (by decide) (by decide)) (hts _ k_740) (congrArg (fun z => va_rf (Option.map (ad 24) z)) (hM.1.2.1 15 (by decide) (by decide))) d_Model_come_42 ?_
      refine lv_iload hx hb d_Model_come_45 (lv_at hl 0 rfl) ?_
      refine lv_iload_n hx hb d_Model_come_47 rfl (lv_at hl 3 rfl) ?_
      refine os_iastN (K := 24) (i := 0) (t0 := 0) (n := (iN (os_g σ 13 13 0) + 1)) hx hb hK hV rfl rfl rfl (hM.1.n 24 (by decide) (by decide)) rfl (by rw [show os_l (os_sg (os_sg σ 13 13 0 ((os_g σ 13 13 0) + 1)) 23 (iN (os_g σ 13 13 0) + 1) 0 x) 24 0 = 41 from hM.1.2.2 24 (by decide) (by decide)]; have h9 := (show iN (os_g σ 13 13 0) + 1 < 41 from by omega); omega) (by rw [show os_l (os_sg (os_sg σ 13 13 0 ((os_g σ 13 13 0) + 1)) 23 (iN (os_g σ 13 13 0) + 1) 0 x) 24 0 = 41 from hM.1.2.2 24 (by decide) (by decide)]; decide) d_Model_come_48 (fun H locs hV => ?_)
      refine lv_aload_n hx hb d_Model_come_49 rfl (lv_at hl 1 rfl) ?_
      refine os_get (C := "RobotFaultsModel") (T := F_Model) (N := 38) (ci := 7) (K := 13) (j := 16) (i := 0) (v := .ref (ad 25 0)) hx hb hts i_Model hown hK hV rfl rfl (by decide) (hM.1.n 13 (by decide) (by decide)) (hts _ k_741) (congrArg (fun z => va_rf (Option.map (ad 25) z)) (hM.1.2.1 16 (by decide) (by decide))) d_Model_come_50 ?_
      refine lv_iload hx hb d_Model_come_53 (lv_at hl 0 rfl) ?_
      refine lv_aload_n hx hb d_Model_come_55 rfl (lv_at hl 1 rfl) ?_
      refine os_get (C := "RobotFaultsModel") (T := F_Model) (N := 38) (ci := 7) (K := 13) (j := 1) (i := 0) (v := .int (os_g σ 13 1 0)) hx hb hts i_Model hown hK hV rfl rfl (by decide) (hM.1.n 13 (by decide) (by decide)) (hts _ k_726) rfl d_Model_come_56 ?_
      refine os_iastN (K := 25) (i := 0) (t0 := 0) (n := (iN (os_g σ 13 13 0) + 1)) hx hb hK hV rfl rfl rfl (hM.1.n 25 (by decide) (by decide)) rfl (by rw [show os_l (os_sg (os_sg (os_sg σ 13 13 0 ((os_g σ 13 13 0) + 1)) 23 (iN (os_g σ 13 13 0) + 1) 0 x) 24 (iN (os_g σ 13 13 0) + 1) 0 k) 25 0 = 41 from hM.1.2.2 25 (by decide) (by decide)]; have h9 := (show iN (os_g σ 13 13 0) + 1 < 41 from by omega); omega) (by rw [show os_l (os_sg (os_sg (os_sg σ 13 13 0 ((os_g σ 13 13 0) + 1)) 23 (iN (os_g σ 13 13 0) + 1) 0 x) 24 (iN (os_g σ 13 13 0) + 1) 0 k) 25 0 = 41 from hM.1.2.2 25 (by decide) (by decide)]; decide) d_Model_come_59 (fun H locs hV => ?_)
      refine lv_aload_n hx hb d_Model_come_60 rfl (lv_at hl 1 rfl) ?_
      refine os_get (C := "RobotFaultsModel") (T := F_Model) (N := 38) (ci := 7) (K := 13) (j := 17) (i := 0) (v := .ref (ad 26 0)) hx hb hts i_Model hown hK hV rfl rfl (by decide) (hM.1.n 13 (by decide) (by decide)) (hts _ k_742) (congrArg (fun z => va_rf (Option.map (ad 26) z)) (hM.1.2.1 17 (by decide) (by decide))) d_Model_come_61 ?_
      refine lv_iload hx hb d_Model_come_64 (lv_at hl 0 rfl) ?_
      refine lv_iconst (v := (-1)) hx hb d_Model_come_66 (by decide) ?_
      refine os_iastN (K := 26) (i := 0) (t0 := 0) (n := (iN (os_g σ 13 13 0) + 1)) hx hb hK hV rfl rfl rfl (hM.1.n 26 (by decide) (by decide)) rfl (by rw [show os_l (os_sg (os_sg (os_sg (os_sg σ 13 13 0 ((os_g σ 13 13 0) + 1)) 23 (iN (os_g σ 13 13 0) + 1) 0 x) 24 (iN (os_g σ 13 13 0) + 1) 0 k) 25 (iN (os_g σ 13 13 0) + 1) 0 (os_g σ 13 1 0)) 26 0 = 41 from hM.1.2.2 26 (by decide) (by decide)]; have h9 := (show iN (os_g σ 13 13 0) + 1 < 41 from by omega); omega) (by rw [show os_l (os_sg (os_sg (os_sg (os_sg σ 13 13 0 ((os_g σ 13 13 0) + 1)) 23 (iN (os_g σ 13 13 0) + 1) 0 x) 24 (iN (os_g σ 13 13 0) + 1) 0 k) 25 (iN (os_g σ 13 13 0) + 1) 0 (os_g σ 13 1 0)) 26 0 = 41 from hM.1.2.2 26 (by decide) (by decide)]; decide) d_Model_come_67 (fun H locs hV => ?_)
      refine lv_aload_n hx hb d_Model_come_68 rfl (lv_at hl 1 rfl) ?_
      refine os_get (C := "RobotFaultsModel") (T := F_Model) (N := 38) (ci := 7) (K := 13) (j := 19) (i := 0) (v := .ref (ad 28 0)) hx hb hts i_Model hown hK hV rfl rfl (by decide) (hM.1.n 13 (by decide) (by decide)) (hts _ k_744) (congrArg (fun z => va_rf (Option.map (ad 28) z)) (hM.1.2.1 19 (by decide) (by decide))) d_Model_come_69 ?_
      refine lv_iload hx hb d_Model_come_72 (lv_at hl 0 rfl) ?_
      refine lv_iconst (v := 0) hx hb d_Model_come_74 (by decide) ?_
      refine os_iastN (K := 28) (i := 0) (t0 := 0) (n := (iN (os_g σ 13 13 0) + 1)) hx hb hK hV rfl rfl rfl (hM.1.n 28 (by decide) (by decide)) rfl (by rw [show os_l (os_sg (os_sg (os_sg (os_sg (os_sg σ 13 13 0 ((os_g σ 13 13 0) + 1)) 23 (iN (os_g σ 13 13 0) + 1) 0 x) 24 (iN (os_g σ 13 13 0) + 1) 0 k) 25 (iN (os_g σ 13 13 0) + 1) 0 (os_g σ 13 1 0)) 26 (iN (os_g σ 13 13 0) + 1) 0 (-1)) 28 0 = 41 from hM.1.2.2 28 (by decide) (by decide)]; have h9 := (show iN (os_g σ 13 13 0) + 1 < 41 from by omega); omega) (by rw [show os_l (os_sg (os_sg (os_sg (os_sg (os_sg σ 13 13 0 ((os_g σ 13 13 0) + 1)) 23 (iN (os_g σ 13 13 0) + 1) 0 x) 24 (iN (os_g σ 13 13 0) + 1) 0 k) 25 (iN (os_g σ 13 13 0) + 1) 0 (os_g σ 13 1 0)) 26 (iN (os_g σ 13 13 0) + 1) 0 (-1)) 28 0 = 41 from hM.1.2.2 28 (by decide) (by decide)]; decide) d_Model_come_75 (fun H locs hV => ?_)
      refine lv_aload_n hx hb d_Model_come_76 rfl (lv_at hl 1 rfl) ?_
      refine os_get (C := "RobotFaultsModel") (T := F_Model) (N := 38) (ci := 7) (K := 13) (j := 20) (i := 0) (v := .ref (ad 29 0)) hx hb hts i_Model hown hK hV rfl rfl (by decide) (hM.1.n 13 (by decide) (by decide)) (hts _ k_745) (congrArg (fun z => va_rf (Option.map (ad 29) z)) (hM.1.2.1 20 (by decide) (by decide))) d_Model_come_77 ?_
      refine lv_iload hx hb d_Model_come_80 (lv_at hl 0 rfl) ?_
      refine lv_aload_n hx hb d_Model_come_82 rfl (lv_at hl 1 rfl) ?_
      refine os_get (C := "RobotFaultsModel") (T := F_Model) (N := 38) (ci := 7) (K := 13) (j := 10) (i := 0) (v := .ref (ad 20 0)) hx hb hts i_Model hown hK hV rfl rfl (by decide) (hM.1.n 13 (by decide) (by decide)) (hts _ k_735) (congrArg (fun z => va_rf (Option.map (ad 20) z)) (hM.1.2.1 10 (by decide) (by decide))) d_Model_come_83 ?_
      refine lv_iload_n hx hb d_Model_come_86 rfl (lv_at hl 3 rfl) ?_
      refine os_ialdN (K := 20) (i := 0) (t0 := 0) (n := (iN k)) hx hb hK hV rfl rfl rfl (hM.1.n 20 (by decide) (by decide)) hk9.1 (by rw [show os_l (os_sg (os_sg (os_sg (os_sg (os_sg (os_sg σ 13 13 0 ((os_g σ 13 13 0) + 1)) 23 (iN (os_g σ 13 13 0) + 1) 0 x) 24 (iN (os_g σ 13 13 0) + 1) 0 k) 25 (iN (os_g σ 13 13 0) + 1) 0 (os_g σ 13 1 0)) 26 (iN (os_g σ 13 13 0) + 1) 0 (-1)) 28 (iN (os_g σ 13 13 0) + 1) 0 0) 20 0 = 8 from hM.1.2.2 20 (by decide) (by decide)]; have h9 := hk9.2; omega) (by rw [show os_l (os_sg (os_sg (os_sg (os_sg (os_sg (os_sg σ 13 13 0 ((os_g σ 13 13 0) + 1)) 23 (iN (os_g σ 13 13 0) + 1) 0 x) 24 (iN (os_g σ 13 13 0) + 1) 0 k) 25 (iN (os_g σ 13 13 0) + 1) 0 (os_g σ 13 1 0)) 26 (iN (os_g σ 13 13 0) + 1) 0 (-1)) 28 (iN (os_g σ 13 13 0) + 1) 0 0) 20 0 = 8 from hM.1.2.2 20 (by decide) (by decide)]; decide) d_Model_come_87 ?_
      refine W.eq (g2 := F0 m 88 ls [.int (os_g σ 20 (iN k) 0), .int (nI (iN (os_g σ 13 13 0) + 1)), .ref (ad 29 0)]) (congrArg (fun z => F0 m 88 ls (.int z :: [.int (nI (iN (os_g σ 13 13 0) + 1)), .ref (ad 29 0)])) (show os_g (os_sg (os_sg (os_sg (os_sg (os_sg (os_sg σ 13 13 0 ((os_g σ 13 13 0) + 1)) 23 (iN (os_g σ 13 13 0) + 1) 0 x) 24 (iN (os_g σ 13 13 0) + 1) 0 k) 25 (iN (os_g σ 13 13 0) + 1) 0 (os_g σ 13 1 0)) 26 (iN (os_g σ 13 13 0) + 1) 0 (-1)) 28 (iN (os_g σ 13 13 0) + 1) 0 0) 20 (iN k) 0 = os_g σ 20 (iN k) 0 from rfl)) ?_
      refine os_iastN (K := 29) (i := 0) (t0 := 0) (n := (iN (os_g σ 13 13 0) + 1)) hx hb hK hV rfl rfl rfl (hM.1.n 29 (by decide) (by decide)) rfl (by rw [show os_l (os_sg (os_sg (os_sg (os_sg (os_sg (os_sg σ 13 13 0 ((os_g σ 13 13 0) + 1)) 23 (iN (os_g σ 13 13 0) + 1) 0 x) 24 (iN (os_g σ 13 13 0) + 1) 0 k) 25 (iN (os_g σ 13 13 0) + 1) 0 (os_g σ 13 1 0)) 26 (iN (os_g σ 13 13 0) + 1) 0 (-1)) 28 (iN (os_g σ 13 13 0) + 1) 0 0) 29 0 = 41 from hM.1.2.2 29 (by decide) (by decide)]; have h9 := (show iN (os_g σ 13 13 0) + 1 < 41 from by omega); omega) (by rw [show os_l (os_sg (os_sg (os_sg (os_sg (os_sg (os_sg σ 13 13 0 ((os_g σ 13 13 0) + 1)) 23 (iN (os_g σ 13 13 0) + 1) 0 x) 24 (iN (os_g σ 13 13 0) + 1) 0 k) 25 (iN (os_g σ 13 13 0) + 1) 0 (os_g σ 13 1 0)) 26 (iN (os_g σ 13 13 0) + 1) 0 (-1)) 28 (iN (os_g σ 13 13 0) + 1) 0 0) 29 0 = 41 from hM.1.2.2 29 (by decide) (by decide)]; decide) d_Model_come_88 (fun H locs hV => ?_)
      refine lv_aload_n hx hb d_Model_come_89 rfl (lv_at hl 1 rfl) ?_
      refine os_get (C := "RobotFaultsModel") (T := F_Model) (N := 38) (ci := 7) (K := 13) (j := 21) (i := 0) (v := .ref (ad 30 0)) hx hb hts i_Model hown hK hV rfl rfl (by decide) (hM.1.n 13 (by decide) (by decide)) (hts _ k_746) (congrArg (fun z => va_rf (Option.map (ad 30) z)) (hM.1.2.1 21 (by decide) (by decide))) d_Model_come_90 ?_
      refine lv_iload hx hb d_Model_come_93 (lv_at hl 0 rfl) ?_
      refine lv_iload_n hx hb d_Model_come_95 rfl (lv_at hl 4 rfl) ?_
      refine os_zastN (K := 30) (i := 0) (t0 := 1) (n := (iN (os_g σ 13 13 0) + 1)) hx hb hK hV rfl rfl rfl (hM.1.n 30 (by decide) (by decide)) rfl (by rw [show os_l (os_sg (os_sg (os_sg (os_sg (os_sg (os_sg (os_sg σ 13 13 0 ((os_g σ 13 13 0) + 1)) 23 (iN (os_g σ 13 13 0) + 1) 0 x) 24 (iN (os_g σ 13 13 0) + 1) 0 k) 25 (iN (os_g σ 13 13 0) + 1) 0 (os_g σ 13 1 0)) 26 (iN (os_g σ 13 13 0) + 1) 0 (-1)) 28 (iN (os_g σ 13 13 0) + 1) 0 0) 29 (iN (os_g σ 13 13 0) + 1) 0 (os_g σ 20 (iN k) 0)) 30 0 = 41 from hM.1.2.2 30 (by decide) (by decide)]; have h9 := (show iN (os_g σ 13 13 0) + 1 < 41 from by omega); omega) (by rw [show os_l (os_sg (os_sg (os_sg (os_sg (os_sg (os_sg (os_sg σ 13 13 0 ((os_g σ 13 13 0) + 1)) 23 (iN (os_g σ 13 13 0) + 1) 0 x) 24 (iN (os_g σ 13 13 0) + 1) 0 k) 25 (iN (os_g σ 13 13 0) + 1) 0 (os_g σ 13 1 0)) 26 (iN (os_g σ 13 13 0) + 1) 0 (-1)) 28 (iN (os_g σ 13 13 0) + 1) 0 0) 29 (iN (os_g σ 13 13 0) + 1) 0 (os_g σ 20 (iN k) 0)) 30 0 = 41 from hM.1.2.2 30 (by decide) (by decide)]; decide) (bz_nar _) d_Model_come_96 (fun H locs hV => ?_)
      refine lv_aload_n hx hb d_Model_come_97 rfl (lv_at hl 1 rfl) ?_
      refine os_get (C := "RobotFaultsModel") (T := F_Model) (N := 38) (ci := 7) (K := 13) (j := 22) (i := 0) (v := .ref (ad 31 0)) hx hb hts i_Model hown hK hV rfl rfl (by decide) (hM.1.n 13 (by decide) (by decide)) (hts _ k_747) (congrArg (fun z => va_rf (Option.map (ad 31) z)) (hM.1.2.1 22 (by decide) (by decide))) d_Model_come_98 ?_
      refine lv_iload hx hb d_Model_come_101 (lv_at hl 0 rfl) ?_
      refine lv_aload_n hx hb d_Model_come_103 rfl (lv_at hl 1 rfl) ?_
      refine os_get (C := "RobotFaultsModel") (T := F_Model) (N := 38) (ci := 7) (K := 13) (j := 5) (i := 0) (v := .ref (ad 15 0)) hx hb hts i_Model hown hK hV rfl rfl (by decide) (hM.1.n 13 (by decide) (by decide)) (hts _ k_730) (congrArg (fun z => va_rf (Option.map (ad 15) z)) (hM.1.2.1 5 (by decide) (by decide))) d_Model_come_104 ?_
      refine lv_iload_n hx hb d_Model_come_107 rfl (lv_at hl 2 rfl) ?_
      refine os_ialdN (K := 15) (i := 0) (t0 := 0) (n := (iN x)) hx hb hK hV rfl rfl rfl (hM.1.n 15 (by decide) (by decide)) hx9.1 (by rw [show os_l (os_sg (os_sg (os_sg (os_sg (os_sg (os_sg (os_sg (os_sg σ 13 13 0 ((os_g σ 13 13 0) + 1)) 23 (iN (os_g σ 13 13 0) + 1) 0 x) 24 (iN (os_g σ 13 13 0) + 1) 0 k) 25 (iN (os_g σ 13 13 0) + 1) 0 (os_g σ 13 1 0)) 26 (iN (os_g σ 13 13 0) + 1) 0 (-1)) 28 (iN (os_g σ 13 13 0) + 1) 0 0) 29 (iN (os_g σ 13 13 0) + 1) 0 (os_g σ 20 (iN k) 0)) 30 (iN (os_g σ 13 13 0) + 1) 0 (bz b)) 15 0 = 8 from hM.1.2.2 15 (by decide) (by decide)]; have h9 := hx9.2; omega) (by rw [show os_l (os_sg (os_sg (os_sg (os_sg (os_sg (os_sg (os_sg (os_sg σ 13 13 0 ((os_g σ 13 13 0) + 1)) 23 (iN (os_g σ 13 13 0) + 1) 0 x) 24 (iN (os_g σ 13 13 0) + 1) 0 k) 25 (iN (os_g σ 13 13 0) + 1) 0 (os_g σ 13 1 0)) 26 (iN (os_g σ 13 13 0) + 1) 0 (-1)) 28 (iN (os_g σ 13 13 0) + 1) 0 0) 29 (iN (os_g σ 13 13 0) + 1) 0 (os_g σ 20 (iN k) 0)) 30 (iN (os_g σ 13 13 0) + 1) 0 (bz b)) 15 0 = 8 from hM.1.2.2 15 (by decide) (by decide)]; decide) d_Model_come_108 ?_
      refine W.eq (g2 := F0 m 109 ls [.int (os_g σ 15 (iN x) 0), .int (nI (iN (os_g σ 13 13 0) + 1)), .ref (ad 31 0)]) (congrArg (fun z => F0 m 109 ls (.int z :: [.int (nI (iN (os_g σ 13 13 0) + 1)), .ref (ad 31 0)])) (show os_g (os_sg (os_sg (os_sg (os_sg (os_sg (os_sg (os_sg (os_sg σ 13 13 0 ((os_g σ 13 13 0) + 1)) 23 (iN (os_g σ 13 13 0) + 1) 0 x) 24 (iN (os_g σ 13 13 0) + 1) 0 k) 25 (iN (os_g σ 13 13 0) + 1) 0 (os_g σ 13 1 0)) 26 (iN (os_g σ 13 13 0) + 1) 0 (-1)) 28 (iN (os_g σ 13 13 0) + 1) 0 0) 29 (iN (os_g σ 13 13 0) + 1) 0 (os_g σ 20 (iN k) 0)) 30 (iN (os_g σ 13 13 0) + 1) 0 (bz b)) 15 (iN x) 0 = os_g σ 15 (iN x) 0 from rfl)) ?_
      refine os_iastN (K := 31) (i := 0) (t0 := 0) (n := (iN (os_g σ 13 13 0) + 1)) hx hb hK hV rfl rfl rfl (hM.1.n 31 (by decide) (by decide)) rfl (by rw [show os_l (os_sg (os_sg (os_sg (os_sg (os_sg (os_sg (os_sg (os_sg σ 13 13 0 ((os_g σ 13 13 0) + 1)) 23 (iN (os_g σ 13 13 0) + 1) 0 x) 24 (iN (os_g σ 13 13 0) + 1) 0 k) 25 (iN (os_g σ 13 13 0) + 1) 0 (os_g σ 13 1 0)) 26 (iN (os_g σ 13 13 0) + 1) 0 (-1)) 28 (iN (os_g σ 13 13 0) + 1) 0 0) 29 (iN (os_g σ 13 13 0) + 1) 0 (os_g σ 20 (iN k) 0)) 30 (iN (os_g σ 13 13 0) + 1) 0 (bz b)) 31 0 = 41 from hM.1.2.2 31 (by decide) (by decide)]; have h9 := (show iN (os_g σ 13 13 0) + 1 < 41 from by omega); omega) (by rw [show os_l (os_sg (os_sg (os_sg (os_sg (os_sg (os_sg (os_sg (os_sg σ 13 13 0 ((os_g σ 13 13 0) + 1)) 23 (iN (os_g σ 13 13 0) + 1) 0 x) 24 (iN (os_g σ 13 13 0) + 1) 0 k) 25 (iN (os_g σ 13 13 0) + 1) 0 (os_g σ 13 1 0)) 26 (iN (os_g σ 13 13 0) + 1) 0 (-1)) 28 (iN (os_g σ 13 13 0) + 1) 0 0) 29 (iN (os_g σ 13 13 0) + 1) 0 (os_g σ 20 (iN k) 0)) 30 (iN (os_g σ 13 13 0) + 1) 0 (bz b)) 31 0 = 41 from hM.1.2.2 31 (by decide) (by decide)]; decide) d_Model_come_109 (fun H locs hV => ?_)
      obtain ⟨σ_2, hs_3⟩ : ∃ z, mc0 σ x k b = z := ⟨_, rfl⟩
      have hV : os_V D cA bs σ ad s σ_2 ad H locs := by rw [← hs_3]; exact hV
      have hr_4 : 0 < os_n σ_2 13 := by rw [← hs_3]; exact (hM.1.n 13 (by decide) (by decide))
      have hM : MI σ_2 := by rw [← hs_3]; exact (MI.k (K := 31) (j := iN (os_g σ 13 13 0) + 1) (i := 0) (v := os_g σ 15 (iN x) 0) (MI.k (K := 30) (j := iN (os_g σ 13 13 0) + 1) (i := 0) (v := bz b) (MI.k (K := 29) (j := iN (os_g σ 13 13 0) + 1) (i := 0) (v := os_g σ 20 (iN k) 0) (MI.k (K := 28) (j := iN (os_g σ 13 13 0) + 1) (i := 0) (v := 0) (MI.k (K := 26) (j := iN (os_g σ 13 13 0) + 1) (i := 0) (v := -1) (MI.k (K := 25) (j := iN (os_g σ 13 13 0) + 1) (i := 0) (v := os_g σ 13 1 0) (MI.k (K := 24) (j := iN (os_g σ 13 13 0) + 1) (i := 0) (v := k) (MI.k (K := 23) (j := iN (os_g σ 13 13 0) + 1) (i := 0) (v := x) (MI.f hM hf) (by decide)) (by decide)) (by decide)) (by decide)) (by decide)) (by decide)) (by decide)) (by decide))
      have hn : iN (os_g σ_2 13 24 0) < 40 := by rw [← hs_3]; exact hn
      have join : ∀ (ls : Array Slot) (H : Heap) (locs : List Loc), os_V D cA bs σ ad s (mcR σ_2 x k (iN (os_g σ 13 13 0) + 1)) ad H locs → lv_has ls 6 [(0, .ref (ad 13 0)), (1, .int x), (2, .int k), (3, .int (bz b)), (4, .int (nI (iN (os_g σ 13 13 0) + 1)))] → W p l e { frames := 1, cells := 0, slots := 0, locals := 26 } s m ([.ref (ad 13 0), .int x, .int k, .int (bz b)] : List Value).toArray below meth c H locs (0) (0) (os_End D cA bs below s σ ad { frames := 1, cells := 0, slots := 0, locals := 26 } (fun r σ' ad' => mcS σ x k b = σ' ∧ ad = ad' ∧ r = .inl (some (.int (mcV σ x k))))) (F0 m 201 ls []) := by
        intro ls H locs hV hl
        obtain ⟨σ_5, hs_6⟩ : ∃ z, mcR σ_2 x k (iN (os_g σ 13 13 0) + 1) = z := ⟨_, rfl⟩
        have hV : os_V D cA bs σ ad s σ_5 ad H locs := by rw [← hs_6]; exact hV
        have hr_7 : 0 < os_n σ_5 13 := by rw [← hs_6]; exact (MI.R hM).1.n 13 (by decide) (by decide)
        have hM : MI σ_5 := by rw [← hs_6]; exact MI.R hM
        have hn : iN (os_g σ_5 13 24 0) < 40 := by rw [← hs_6]; exact (by rw [mcR_al]; exact hn)
        refine lv_aload_n hx hb d_Model_come_201 rfl (lv_at hl 0 rfl) ?_
        refine lv_iload_n hx hb d_Model_come_202 rfl (lv_at hl 1 rfl) ?_
        refine lv_iload_n hx hb d_Model_come_203 rfl (lv_at hl 2 rfl) ?_
        refine os_call (c_Model_alarmFor l hlt D cA bs σ_5 ad x k hM hk9 hn) hE hV k_902 k_4 (os_inV (C := "RobotFaultsModel") (n := 2) (bytes := prog_9_method_17_code) (maxL := 4) (ret := (some .int)) hx hb hown (hts _ k_899) (hts _ k_901) (hts _ k_s26) (hts _ k_902) (by decide +kernel) rfl (os_recv hK hV rfl rfl hr_7) rfl d_Model_come_204) (hl.1.trans hml.symm) (Nat.le_of_ble_eq_true rfl) (Nat.le_of_ble_eq_true rfl) (Nat.le_of_ble_eq_true rfl) (Nat.le_of_ble_eq_true rfl) (Nat.le_of_ble_eq_true rfl) (fun v σ1 ad1 H locs hp hext hV => ?_) (fun E q ce σ1 ad1 H locs hp hext hV hce hcv hcl => ?_)
        · obtain ⟨zs_8, rfl, hp⟩ := hp
          cases hp
          obtain ⟨σ_9, rfl⟩ : ∃ z, z = σ1 := ⟨_, rfl⟩
          have he_10 := hext
          have hr_11 : 0 < os_n σ_9 13 := Nat.lt_of_lt_of_le hr_7 (he_10.1 13)
          have hMs : maS σ_5 x k = σ_9 := zs_8
          have hM : MI σ_9 := zs_8 ▸ MI.S hM hn
          have hal : mal σ_5 x k < 40 := mal_lt hn
          refine W.eq (g2 := F0 m 207 ls [.int (nI (mal σ_5 x k))]) rfl ?_
          refine lv_istore (lv' := [(5, .int (nI (mal σ_5 x k))), (0, .ref (ad 13 0)), (1, .int x), (2, .int k), (3, .int (bz b)), (4, .int (nI (iN (os_g σ 13 13 0) + 1)))]) hx hb d_Model_come_207 hl (by decide) rfl (fun ls hl => ?_)
          refine lv_aload_n hx hb d_Model_come_209 rfl (lv_at hl 1 rfl) ?_
          refine os_get (C := "RobotFaultsModel") (T := F_Model) (N := 38) (ci := 7) (K := 13) (j := 18) (i := 0) (v := .ref (ad 27 0)) hx hb hts i_Model hown hK hV rfl rfl (by decide) hr_11 (hts _ k_743) (congrArg (fun z => va_rf (Option.map (ad 27) z)) (hM.1.2.1 18 (by decide) (by decide))) d_Model_come_210 ?_
          refine lv_iload hx hb d_Model_come_213 (lv_at hl 5 rfl) ?_
          refine lv_iload hx hb d_Model_come_215 (lv_at hl 0 rfl) ?_
          refine os_iastN (K := 27) (i := 0) (t0 := 0) (n := (iN (os_g σ 13 13 0) + 1)) hx hb hK hV rfl rfl rfl (hM.1.n 27 (by decide) (by decide)) rfl (by rw [show os_l σ_9 27 0 = 41 from hM.1.2.2 27 (by decide) (by decide)]; have h9 := (show iN (os_g σ 13 13 0) + 1 < 41 from by omega); omega) (by rw [show os_l σ_9 27 0 = 41 from hM.1.2.2 27 (by decide) (by decide)]; decide) d_Model_come_217 (fun H locs hV => ?_)
          refine lv_aload_n hx hb d_Model_come_218 rfl (lv_at hl 1 rfl) ?_
          refine os_get (C := "RobotFaultsModel") (T := F_Model) (N := 38) (ci := 7) (K := 13) (j := 29) (i := 0) (v := .ref (ad 37 0)) hx hb hts i_Model hown hK hV rfl rfl (by decide) hr_11 (hts _ k_754) (congrArg (fun z => va_rf (Option.map (ad 37) z)) (hM.1.2.1 29 (by decide) (by decide))) d_Model_come_219 ?_
          refine lv_iload hx hb d_Model_come_222 (lv_at hl 0 rfl) ?_
          refine lv_dup2_11 hx hb d_Model_come_224 rfl rfl ?_
          refine os_ialdN (K := 37) (i := 0) (t0 := 0) (n := (mal σ_5 x k)) hx hb hK hV rfl rfl rfl (hM.1.n 37 (by decide) (by decide)) rfl (by rw [show os_l (os_sg σ_9 27 (iN (os_g σ 13 13 0) + 1) 0 (nI (mal σ_5 x k))) 37 0 = 40 from hM.1.2.2 37 (by decide) (by decide)]; have h9 := hal; omega) (by rw [show os_l (os_sg σ_9 27 (iN (os_g σ 13 13 0) + 1) 0 (nI (mal σ_5 x k))) 37 0 = 40 from hM.1.2.2 37 (by decide) (by decide)]; decide) d_Model_come_225 ?_
          refine W.eq (g2 := F0 m 226 ls [.int (os_g σ_9 37 (mal σ_5 x k) 0), .int (nI (mal σ_5 x k)), .ref (ad 37 0)]) (congrArg (fun z => F0 m 226 ls (.int z :: [.int (nI (mal σ_5 x k)), .ref (ad 37 0)])) (show os_g (os_sg σ_9 27 (iN (os_g σ 13 13 0) + 1) 0 (nI (mal σ_5 x k))) 37 (mal σ_5 x k) 0 = os_g σ_9 37 (mal σ_5 x k) 0 from rfl)) ?_
          refine lv_iconst (v := 1) hx hb d_Model_come_226 (by decide) ?_
          refine lv_iadd hx hb d_Model_come_227 ?_
          refine os_iastN (K := 37) (i := 0) (t0 := 0) (n := (mal σ_5 x k)) hx hb hK hV rfl rfl rfl (hM.1.n 37 (by decide) (by decide)) rfl (by rw [show os_l (os_sg σ_9 27 (iN (os_g σ 13 13 0) + 1) 0 (nI (mal σ_5 x k))) 37 0 = 40 from hM.1.2.2 37 (by decide) (by decide)]; have h9 := hal; omega) (by rw [show os_l (os_sg σ_9 27 (iN (os_g σ 13 13 0) + 1) 0 (nI (mal σ_5 x k))) 37 0 = 40 from hM.1.2.2 37 (by decide) (by decide)]; decide) d_Model_come_228 (fun H locs hV => ?_)
          refine lv_aload_n hx hb d_Model_come_229 rfl (lv_at hl 1 rfl) ?_
          refine os_get (C := "RobotFaultsModel") (T := F_Model) (N := 38) (ci := 7) (K := 13) (j := 30) (i := 0) (v := .ref (ad 38 0)) hx hb hts i_Model hown hK hV rfl rfl (by decide) hr_11 (hts _ k_755) (congrArg (fun z => va_rf (Option.map (ad 38) z)) (hM.1.2.1 30 (by decide) (by decide))) d_Model_come_230 ?_
          refine lv_iload hx hb d_Model_come_233 (lv_at hl 0 rfl) ?_
          refine lv_iconst (v := (-1)) hx hb d_Model_come_235 (by decide) ?_
          refine os_iastN (K := 38) (i := 0) (t0 := 0) (n := (mal σ_5 x k)) hx hb hK hV rfl rfl rfl (hM.1.n 38 (by decide) (by decide)) rfl (by rw [show os_l (os_sg (os_sg σ_9 27 (iN (os_g σ 13 13 0) + 1) 0 (nI (mal σ_5 x k))) 37 (mal σ_5 x k) 0 ((os_g σ_9 37 (mal σ_5 x k) 0) + 1)) 38 0 = 40 from hM.1.2.2 38 (by decide) (by decide)]; have h9 := hal; omega) (by rw [show os_l (os_sg (os_sg σ_9 27 (iN (os_g σ 13 13 0) + 1) 0 (nI (mal σ_5 x k))) 37 (mal σ_5 x k) 0 ((os_g σ_9 37 (mal σ_5 x k) 0) + 1)) 38 0 = 40 from hM.1.2.2 38 (by decide) (by decide)]; decide) d_Model_come_236 (fun H locs hV => ?_)
          refine lv_aload_n hx hb d_Model_come_237 rfl (lv_at hl 1 rfl) ?_
          refine os_get (C := "RobotFaultsModel") (T := F_Model) (N := 38) (ci := 7) (K := 13) (j := 31) (i := 0) (v := .ref (ad 39 0)) hx hb hts i_Model hown hK hV rfl rfl (by decide) hr_11 (hts _ k_756) (congrArg (fun z => va_rf (Option.map (ad 39) z)) (hM.1.2.1 31 (by decide) (by decide))) d_Model_come_238 ?_
          refine lv_iload hx hb d_Model_come_241 (lv_at hl 0 rfl) ?_
          refine lv_aload_n hx hb d_Model_come_243 rfl (lv_at hl 1 rfl) ?_
          refine os_get (C := "RobotFaultsModel") (T := F_Model) (N := 38) (ci := 7) (K := 13) (j := 1) (i := 0) (v := .int (os_g σ_9 13 1 0)) hx hb hts i_Model hown hK hV rfl rfl (by decide) hr_11 (hts _ k_726) rfl d_Model_come_244 ?_
          refine os_iastN (K := 39) (i := 0) (t0 := 0) (n := (mal σ_5 x k)) hx hb hK hV rfl rfl rfl (hM.1.n 39 (by decide) (by decide)) rfl (by rw [show os_l (os_sg (os_sg (os_sg σ_9 27 (iN (os_g σ 13 13 0) + 1) 0 (nI (mal σ_5 x k))) 37 (mal σ_5 x k) 0 ((os_g σ_9 37 (mal σ_5 x k) 0) + 1)) 38 (mal σ_5 x k) 0 (-1)) 39 0 = 40 from hM.1.2.2 39 (by decide) (by decide)]; have h9 := hal; omega) (by rw [show os_l (os_sg (os_sg (os_sg σ_9 27 (iN (os_g σ 13 13 0) + 1) 0 (nI (mal σ_5 x k))) 37 (mal σ_5 x k) 0 ((os_g σ_9 37 (mal σ_5 x k) 0) + 1)) 38 (mal σ_5 x k) 0 (-1)) 39 0 = 40 from hM.1.2.2 39 (by decide) (by decide)]; decide) d_Model_come_247 (fun H locs hV => ?_)
          refine lv_aload_n hx hb d_Model_come_248 rfl (lv_at hl 1 rfl) ?_
          refine os_get (C := "RobotFaultsModel") (T := F_Model) (N := 38) (ci := 7) (K := 13) (j := 32) (i := 0) (v := .ref (ad 40 0)) hx hb hts i_Model hown hK hV rfl rfl (by decide) hr_11 (hts _ k_757) (congrArg (fun z => va_rf (Option.map (ad 40) z)) (hM.1.2.1 32 (by decide) (by decide))) d_Model_come_249 ?_
          refine lv_iload hx hb d_Model_come_252 (lv_at hl 0 rfl) ?_
          refine lv_iload hx hb d_Model_come_254 (lv_at hl 5 rfl) ?_
          refine os_iastN (K := 40) (i := 0) (t0 := 0) (n := (mal σ_5 x k)) hx hb hK hV rfl rfl rfl (hM.1.n 40 (by decide) (by decide)) rfl (by rw [show os_l (os_sg (os_sg (os_sg (os_sg σ_9 27 (iN (os_g σ 13 13 0) + 1) 0 (nI (mal σ_5 x k))) 37 (mal σ_5 x k) 0 ((os_g σ_9 37 (mal σ_5 x k) 0) + 1)) 38 (mal σ_5 x k) 0 (-1)) 39 (mal σ_5 x k) 0 (os_g σ_9 13 1 0)) 40 0 = 40 from hM.1.2.2 40 (by decide) (by decide)]; have h9 := hal; omega) (by rw [show os_l (os_sg (os_sg (os_sg (os_sg σ_9 27 (iN (os_g σ 13 13 0) + 1) 0 (nI (mal σ_5 x k))) 37 (mal σ_5 x k) 0 ((os_g σ_9 37 (mal σ_5 x k) 0) + 1)) 38 (mal σ_5 x k) 0 (-1)) 39 (mal σ_5 x k) 0 (os_g σ_9 13 1 0)) 40 0 = 40 from hM.1.2.2 40 (by decide) (by decide)]; decide) d_Model_come_256 (fun H locs hV => ?_)
          refine lv_iload hx hb d_Model_come_257 (lv_at hl 5 rfl) ?_
          refine os_iret hx hb hr hlocks hV (Nat.le_of_ble_eq_true rfl) (Nat.le_of_ble_eq_true rfl) d_Model_come_259 ?_
          subst zs_8
          subst hs_6
          subst hs_3
          exact ⟨if_pos c_1, rfl, by unfold mcV; rw [if_pos c_1]⟩
        · exact absurd hp.2.2 (fun h => by cases h)
      refine lv_aload_n hx hb d_Model_come_110 rfl (lv_at hl 1 rfl) ?_
      refine os_get (C := "RobotFaultsModel") (T := F_Model) (N := 38) (ci := 7) (K := 13) (j := 23) (i := 0) (v := .ref (ad 32 0)) hx hb hts i_Model hown hK hV rfl rfl (by decide) hr_4 (hts _ k_748) (congrArg (fun z => va_rf (Option.map (ad 32) z)) (hM.1.2.1 23 (by decide) (by decide))) d_Model_come_111 ?_
      refine lv_iload hx hb d_Model_come_114 (lv_at hl 0 rfl) ?_
      refine lv_iload_n hx hb d_Model_come_116 rfl (lv_at hl 3 rfl) ?_
      refine lv_iconst (v := 2) hx hb d_Model_come_117 (by decide) ?_
      refine lv_icmp_ne (tgt := 130) hx hb d_Model_come_118 (by decide) (fun c_12 => ?_) (fun c_12 => ?_)
      · skip
        refine lv_iconst (v := (-1)) hx hb d_Model_come_130 (by decide) ?_
        refine os_iastN (K := 32) (i := 0) (t0 := 0) (n := (iN (os_g σ 13 13 0) + 1)) hx hb hK hV rfl rfl rfl (hM.1.n 32 (by decide) (by decide)) rfl (by rw [show os_l σ_2 32 0 = 41 from hM.1.2.2 32 (by decide) (by decide)]; have h9 := (show iN (os_g σ 13 13 0) + 1 < 41 from by omega); omega) (by rw [show os_l σ_2 32 0 = 41 from hM.1.2.2 32 (by decide) (by decide)]; decide) d_Model_come_131 (fun H locs hV => ?_)
        refine lv_iload_n hx hb d_Model_come_132 rfl (lv_at hl 3 rfl) ?_
        refine lv_iconst (v := 2) hx hb d_Model_come_133 (by decide) ?_
        refine lv_icmp_ne (tgt := 144) hx hb d_Model_come_134 (by decide) (fun c_13 => ?_) (fun c_13 => ?_)
        · skip
          refine lv_aload_n hx hb d_Model_come_144 rfl (lv_at hl 1 rfl) ?_
          refine os_get (C := "RobotFaultsModel") (T := F_Model) (N := 38) (ci := 7) (K := 13) (j := 11) (i := 0) (v := .ref (ad 21 0)) hx hb hts i_Model hown hK hV rfl rfl (by decide) hr_4 (hts _ k_736) (congrArg (fun z => va_rf (Option.map (ad 21) z)) (hM.1.2.1 11 (by decide) (by decide))) d_Model_come_145 ?_
          refine lv_iload_n hx hb d_Model_come_148 rfl (lv_at hl 3 rfl) ?_
          refine os_zaldN (K := 21) (i := 0) (t0 := 1) (n := (iN k)) hx hb hK hV rfl rfl rfl (hM.1.n 21 (by decide) (by decide)) hk9.1 (by rw [show os_l (os_sg σ_2 32 (iN (os_g σ 13 13 0) + 1) 0 (-1)) 21 0 = 8 from hM.1.2.2 21 (by decide) (by decide)]; have h9 := hk9.2; omega) (by rw [show os_l (os_sg σ_2 32 (iN (os_g σ 13 13 0) + 1) 0 (-1)) 21 0 = 8 from hM.1.2.2 21 (by decide) (by decide)]; decide) d_Model_come_149 ?_
          refine W.eq (g2 := F0 m 150 ls [.int (os_g σ_2 21 (iN k) 0)]) (congrArg (fun z => F0 m 150 ls (.int z :: [])) (show os_g (os_sg σ_2 32 (iN (os_g σ 13 13 0) + 1) 0 (-1)) 21 (iN k) 0 = os_g σ_2 21 (iN k) 0 from rfl)) ?_
          refine lv_if_eq (tgt := 160) hx hb d_Model_come_150 (by decide) (fun c_14 => ?_) (fun c_14 => ?_)
          · skip
            refine lv_iload_n hx hb d_Model_come_160 rfl (lv_at hl 3 rfl) ?_
            refine lv_iconst (v := 1) hx hb d_Model_come_161 (by decide) ?_
            refine lv_icmp_ne (tgt := 185) hx hb d_Model_come_162 (by decide) (fun c_15 => ?_) (fun c_15 => ?_)
            · skip
              refine lv_aload_n hx hb d_Model_come_185 rfl (lv_at hl 1 rfl) ?_
              refine os_get (C := "RobotFaultsModel") (T := F_Model) (N := 38) (ci := 7) (K := 13) (j := 7) (i := 0) (v := .ref (ad 17 0)) hx hb hts i_Model hown hK hV rfl rfl (by decide) hr_4 (hts _ k_732) (congrArg (fun z => va_rf (Option.map (ad 17) z)) (hM.1.2.1 7 (by decide) (by decide))) d_Model_come_186 ?_
              refine lv_iload_n hx hb d_Model_come_189 rfl (lv_at hl 2 rfl) ?_
              refine os_ialdN (K := 17) (i := 0) (t0 := 0) (n := (iN x)) hx hb hK hV rfl rfl rfl (hM.1.n 17 (by decide) (by decide)) hx9.1 (by rw [show os_l (os_sg σ_2 32 (iN (os_g σ 13 13 0) + 1) 0 (-1)) 17 0 = 8 from hM.1.2.2 17 (by decide) (by decide)]; have h9 := hx9.2; omega) (by rw [show os_l (os_sg σ_2 32 (iN (os_g σ 13 13 0) + 1) 0 (-1)) 17 0 = 8 from hM.1.2.2 17 (by decide) (by decide)]; decide) d_Model_come_190 ?_
              refine W.eq (g2 := F0 m 191 ls [.int (os_g σ_2 17 (iN x) 0)]) (congrArg (fun z => F0 m 191 ls (.int z :: [])) (show os_g (os_sg σ_2 32 (iN (os_g σ 13 13 0) + 1) 0 (-1)) 17 (iN x) 0 = os_g σ_2 17 (iN x) 0 from rfl)) ?_
              refine lv_if_ne (tgt := 201) hx hb d_Model_come_191 (by decide) (fun c_16 => ?_) (fun c_16 => ?_)
              · skip
                have ej : mcR σ_2 x k (iN (os_g σ 13 13 0) + 1) = os_sg σ_2 32 (iN (os_g σ 13 13 0) + 1) 0 (-1) := by simp only [mcR, eq_false c_12, eq_true c_14, eq_false c_15, eq_false c_16, if_true, if_false]
                exact join ls H locs (by rw [ej]; exact hV) (lv_sub hl [1, 2, 3, 4, 0] rfl)
              · skip
                refine lv_aload_n hx hb d_Model_come_194 rfl (lv_at hl 1 rfl) ?_
                refine os_get (C := "RobotFaultsModel") (T := F_Model) (N := 38) (ci := 7) (K := 13) (j := 7) (i := 0) (v := .ref (ad 17 0)) hx hb hts i_Model hown hK hV rfl rfl (by decide) hr_4 (hts _ k_732) (congrArg (fun z => va_rf (Option.map (ad 17) z)) (hM.1.2.1 7 (by decide) (by decide))) d_Model_come_195 ?_
                refine lv_iload_n hx hb d_Model_come_198 rfl (lv_at hl 2 rfl) ?_
                refine lv_iconst (v := 1) hx hb d_Model_come_199 (by decide) ?_
                refine os_iastN (K := 17) (i := 0) (t0 := 0) (n := (iN x)) hx hb hK hV rfl rfl rfl (hM.1.n 17 (by decide) (by decide)) hx9.1 (by rw [show os_l (os_sg σ_2 32 (iN (os_g σ 13 13 0) + 1) 0 (-1)) 17 0 = 8 from hM.1.2.2 17 (by decide) (by decide)]; have h9 := hx9.2; omega) (by rw [show os_l (os_sg σ_2 32 (iN (os_g σ 13 13 0) + 1) 0 (-1)) 17 0 = 8 from hM.1.2.2 17 (by decide) (by decide)]; decide) d_Model_come_200 (fun H locs hV => ?_)
                have ej : mcR σ_2 x k (iN (os_g σ 13 13 0) + 1) = os_sg (os_sg σ_2 32 (iN (os_g σ 13 13 0) + 1) 0 (-1)) 17 (iN x) 0 1 := by simp only [mcR, eq_false c_12, eq_true c_14, eq_false c_15, eq_true c_16, if_true, if_false]
                exact join ls H locs (by rw [ej]; exact hV) (lv_sub hl [1, 2, 3, 4, 0] rfl)
            · skip
              refine lv_aload_n hx hb d_Model_come_165 rfl (lv_at hl 1 rfl) ?_
              refine os_get (C := "RobotFaultsModel") (T := F_Model) (N := 38) (ci := 7) (K := 13) (j := 7) (i := 0) (v := .ref (ad 17 0)) hx hb hts i_Model hown hK hV rfl rfl (by decide) hr_4 (hts _ k_732) (congrArg (fun z => va_rf (Option.map (ad 17) z)) (hM.1.2.1 7 (by decide) (by decide))) d_Model_come_166 ?_
              refine lv_iload_n hx hb d_Model_come_169 rfl (lv_at hl 2 rfl) ?_
              refine lv_iconst (v := 2) hx hb d_Model_come_170 (by decide) ?_
              refine os_iastN (K := 17) (i := 0) (t0 := 0) (n := (iN x)) hx hb hK hV rfl rfl rfl (hM.1.n 17 (by decide) (by decide)) hx9.1 (by rw [show os_l (os_sg σ_2 32 (iN (os_g σ 13 13 0) + 1) 0 (-1)) 17 0 = 8 from hM.1.2.2 17 (by decide) (by decide)]; have h9 := hx9.2; omega) (by rw [show os_l (os_sg σ_2 32 (iN (os_g σ 13 13 0) + 1) 0 (-1)) 17 0 = 8 from hM.1.2.2 17 (by decide) (by decide)]; decide) d_Model_come_171 (fun H locs hV => ?_)
              refine lv_aload_n hx hb d_Model_come_172 rfl (lv_at hl 1 rfl) ?_
              refine os_get (C := "RobotFaultsModel") (T := F_Model) (N := 38) (ci := 7) (K := 13) (j := 9) (i := 0) (v := .ref (ad 19 0)) hx hb hts i_Model hown hK hV rfl rfl (by decide) hr_4 (hts _ k_734) (congrArg (fun z => va_rf (Option.map (ad 19) z)) (hM.1.2.1 9 (by decide) (by decide))) d_Model_come_173 ?_
              refine lv_iload_n hx hb d_Model_come_176 rfl (lv_at hl 2 rfl) ?_
              refine lv_aload_n hx hb d_Model_come_177 rfl (lv_at hl 1 rfl) ?_
              refine os_get (C := "RobotFaultsModel") (T := F_Model) (N := 38) (ci := 7) (K := 13) (j := 1) (i := 0) (v := .int (os_g σ_2 13 1 0)) hx hb hts i_Model hown hK hV rfl rfl (by decide) hr_4 (hts _ k_726) rfl d_Model_come_178 ?_
              refine os_iastN (K := 19) (i := 0) (t0 := 0) (n := (iN x)) hx hb hK hV rfl rfl rfl (hM.1.n 19 (by decide) (by decide)) hx9.1 (by rw [show os_l (os_sg (os_sg σ_2 32 (iN (os_g σ 13 13 0) + 1) 0 (-1)) 17 (iN x) 0 2) 19 0 = 8 from hM.1.2.2 19 (by decide) (by decide)]; have h9 := hx9.2; omega) (by rw [show os_l (os_sg (os_sg σ_2 32 (iN (os_g σ 13 13 0) + 1) 0 (-1)) 17 (iN x) 0 2) 19 0 = 8 from hM.1.2.2 19 (by decide) (by decide)]; decide) d_Model_come_181 (fun H locs hV => ?_)
              refine lv_goto (tgt := 201) hx hb d_Model_come_182 (by decide) ?_
              have ej : mcR σ_2 x k (iN (os_g σ 13 13 0) + 1) = os_sg (os_sg (os_sg σ_2 32 (iN (os_g σ 13 13 0) + 1) 0 (-1)) 17 (iN x) 0 2) 19 (iN x) 0 (os_g σ_2 13 1 0) := by simp only [mcR, eq_false c_12, eq_true c_14, eq_true c_15, if_true, if_false]
              exact join ls H locs (by rw [ej]; exact hV) (lv_sub hl [1, 2, 3, 4, 0] rfl)
          · skip
            refine lv_aload_n hx hb d_Model_come_153 rfl (lv_at hl 1 rfl) ?_
            refine os_get (C := "RobotFaultsModel") (T := F_Model) (N := 38) (ci := 7) (K := 13) (j := 8) (i := 0) (v := .ref (ad 18 0)) hx hb hts i_Model hown hK hV rfl rfl (by decide) hr_4 (hts _ k_733) (congrArg (fun z => va_rf (Option.map (ad 18) z)) (hM.1.2.1 8 (by decide) (by decide))) d_Model_come_154 ?_
            refine lv_iload_n hx hb d_Model_come_157 rfl (lv_at hl 2 rfl) ?_
            refine lv_iconst (v := 1) hx hb d_Model_come_158 (by decide) ?_
            refine os_zastN (K := 18) (i := 0) (t0 := 1) (n := (iN x)) hx hb hK hV rfl rfl rfl (hM.1.n 18 (by decide) (by decide)) hx9.1 (by rw [show os_l (os_sg σ_2 32 (iN (os_g σ 13 13 0) + 1) 0 (-1)) 18 0 = 8 from hM.1.2.2 18 (by decide) (by decide)]; have h9 := hx9.2; omega) (by rw [show os_l (os_sg σ_2 32 (iN (os_g σ 13 13 0) + 1) 0 (-1)) 18 0 = 8 from hM.1.2.2 18 (by decide) (by decide)]; decide) rfl d_Model_come_159 (fun H locs hV => ?_)
            refine lv_iload_n hx hb d_Model_come_160 rfl (lv_at hl 3 rfl) ?_
            refine lv_iconst (v := 1) hx hb d_Model_come_161 (by decide) ?_
            refine lv_icmp_ne (tgt := 185) hx hb d_Model_come_162 (by decide) (fun c_17 => ?_) (fun c_17 => ?_)
            · skip
              refine lv_aload_n hx hb d_Model_come_185 rfl (lv_at hl 1 rfl) ?_
              refine os_get (C := "RobotFaultsModel") (T := F_Model) (N := 38) (ci := 7) (K := 13) (j := 7) (i := 0) (v := .ref (ad 17 0)) hx hb hts i_Model hown hK hV rfl rfl (by decide) hr_4 (hts _ k_732) (congrArg (fun z => va_rf (Option.map (ad 17) z)) (hM.1.2.1 7 (by decide) (by decide))) d_Model_come_186 ?_
              refine lv_iload_n hx hb d_Model_come_189 rfl (lv_at hl 2 rfl) ?_
              refine os_ialdN (K := 17) (i := 0) (t0 := 0) (n := (iN x)) hx hb hK hV rfl rfl rfl (hM.1.n 17 (by decide) (by decide)) hx9.1 (by rw [show os_l (os_sg (os_sg σ_2 32 (iN (os_g σ 13 13 0) + 1) 0 (-1)) 18 (iN x) 0 1) 17 0 = 8 from hM.1.2.2 17 (by decide) (by decide)]; have h9 := hx9.2; omega) (by rw [show os_l (os_sg (os_sg σ_2 32 (iN (os_g σ 13 13 0) + 1) 0 (-1)) 18 (iN x) 0 1) 17 0 = 8 from hM.1.2.2 17 (by decide) (by decide)]; decide) d_Model_come_190 ?_
              refine W.eq (g2 := F0 m 191 ls [.int (os_g σ_2 17 (iN x) 0)]) (congrArg (fun z => F0 m 191 ls (.int z :: [])) (show os_g (os_sg (os_sg σ_2 32 (iN (os_g σ 13 13 0) + 1) 0 (-1)) 18 (iN x) 0 1) 17 (iN x) 0 = os_g σ_2 17 (iN x) 0 from rfl)) ?_
              refine lv_if_ne (tgt := 201) hx hb d_Model_come_191 (by decide) (fun c_18 => ?_) (fun c_18 => ?_)
              · skip
                have ej : mcR σ_2 x k (iN (os_g σ 13 13 0) + 1) = os_sg (os_sg σ_2 32 (iN (os_g σ 13 13 0) + 1) 0 (-1)) 18 (iN x) 0 1 := by simp only [mcR, eq_false c_12, eq_false c_14, eq_false c_17, eq_false c_18, if_true, if_false]
                exact join ls H locs (by rw [ej]; exact hV) (lv_sub hl [1, 2, 3, 4, 0] rfl)
              · skip
                refine lv_aload_n hx hb d_Model_come_194 rfl (lv_at hl 1 rfl) ?_
                refine os_get (C := "RobotFaultsModel") (T := F_Model) (N := 38) (ci := 7) (K := 13) (j := 7) (i := 0) (v := .ref (ad 17 0)) hx hb hts i_Model hown hK hV rfl rfl (by decide) hr_4 (hts _ k_732) (congrArg (fun z => va_rf (Option.map (ad 17) z)) (hM.1.2.1 7 (by decide) (by decide))) d_Model_come_195 ?_
                refine lv_iload_n hx hb d_Model_come_198 rfl (lv_at hl 2 rfl) ?_
                refine lv_iconst (v := 1) hx hb d_Model_come_199 (by decide) ?_
                refine os_iastN (K := 17) (i := 0) (t0 := 0) (n := (iN x)) hx hb hK hV rfl rfl rfl (hM.1.n 17 (by decide) (by decide)) hx9.1 (by rw [show os_l (os_sg (os_sg σ_2 32 (iN (os_g σ 13 13 0) + 1) 0 (-1)) 18 (iN x) 0 1) 17 0 = 8 from hM.1.2.2 17 (by decide) (by decide)]; have h9 := hx9.2; omega) (by rw [show os_l (os_sg (os_sg σ_2 32 (iN (os_g σ 13 13 0) + 1) 0 (-1)) 18 (iN x) 0 1) 17 0 = 8 from hM.1.2.2 17 (by decide) (by decide)]; decide) d_Model_come_200 (fun H locs hV => ?_)
                have ej : mcR σ_2 x k (iN (os_g σ 13 13 0) + 1) = os_sg (os_sg (os_sg σ_2 32 (iN (os_g σ 13 13 0) + 1) 0 (-1)) 18 (iN x) 0 1) 17 (iN x) 0 1 := by simp only [mcR, eq_false c_12, eq_false c_14, eq_false c_17, eq_true c_18, if_true, if_false]
                exact join ls H locs (by rw [ej]; exact hV) (lv_sub hl [1, 2, 3, 4, 0] rfl)
            · skip
              refine lv_aload_n hx hb d_Model_come_165 rfl (lv_at hl 1 rfl) ?_
              refine os_get (C := "RobotFaultsModel") (T := F_Model) (N := 38) (ci := 7) (K := 13) (j := 7) (i := 0) (v := .ref (ad 17 0)) hx hb hts i_Model hown hK hV rfl rfl (by decide) hr_4 (hts _ k_732) (congrArg (fun z => va_rf (Option.map (ad 17) z)) (hM.1.2.1 7 (by decide) (by decide))) d_Model_come_166 ?_
              refine lv_iload_n hx hb d_Model_come_169 rfl (lv_at hl 2 rfl) ?_
              refine lv_iconst (v := 2) hx hb d_Model_come_170 (by decide) ?_
              refine os_iastN (K := 17) (i := 0) (t0 := 0) (n := (iN x)) hx hb hK hV rfl rfl rfl (hM.1.n 17 (by decide) (by decide)) hx9.1 (by rw [show os_l (os_sg (os_sg σ_2 32 (iN (os_g σ 13 13 0) + 1) 0 (-1)) 18 (iN x) 0 1) 17 0 = 8 from hM.1.2.2 17 (by decide) (by decide)]; have h9 := hx9.2; omega) (by rw [show os_l (os_sg (os_sg σ_2 32 (iN (os_g σ 13 13 0) + 1) 0 (-1)) 18 (iN x) 0 1) 17 0 = 8 from hM.1.2.2 17 (by decide) (by decide)]; decide) d_Model_come_171 (fun H locs hV => ?_)
              refine lv_aload_n hx hb d_Model_come_172 rfl (lv_at hl 1 rfl) ?_
              refine os_get (C := "RobotFaultsModel") (T := F_Model) (N := 38) (ci := 7) (K := 13) (j := 9) (i := 0) (v := .ref (ad 19 0)) hx hb hts i_Model hown hK hV rfl rfl (by decide) hr_4 (hts _ k_734) (congrArg (fun z => va_rf (Option.map (ad 19) z)) (hM.1.2.1 9 (by decide) (by decide))) d_Model_come_173 ?_
              refine lv_iload_n hx hb d_Model_come_176 rfl (lv_at hl 2 rfl) ?_
              refine lv_aload_n hx hb d_Model_come_177 rfl (lv_at hl 1 rfl) ?_
              refine os_get (C := "RobotFaultsModel") (T := F_Model) (N := 38) (ci := 7) (K := 13) (j := 1) (i := 0) (v := .int (os_g σ_2 13 1 0)) hx hb hts i_Model hown hK hV rfl rfl (by decide) hr_4 (hts _ k_726) rfl d_Model_come_178 ?_
              refine os_iastN (K := 19) (i := 0) (t0 := 0) (n := (iN x)) hx hb hK hV rfl rfl rfl (hM.1.n 19 (by decide) (by decide)) hx9.1 (by rw [show os_l (os_sg (os_sg (os_sg σ_2 32 (iN (os_g σ 13 13 0) + 1) 0 (-1)) 18 (iN x) 0 1) 17 (iN x) 0 2) 19 0 = 8 from hM.1.2.2 19 (by decide) (by decide)]; have h9 := hx9.2; omega) (by rw [show os_l (os_sg (os_sg (os_sg σ_2 32 (iN (os_g σ 13 13 0) + 1) 0 (-1)) 18 (iN x) 0 1) 17 (iN x) 0 2) 19 0 = 8 from hM.1.2.2 19 (by decide) (by decide)]; decide) d_Model_come_181 (fun H locs hV => ?_)
              refine lv_goto (tgt := 201) hx hb d_Model_come_182 (by decide) ?_
              have ej : mcR σ_2 x k (iN (os_g σ 13 13 0) + 1) = os_sg (os_sg (os_sg (os_sg σ_2 32 (iN (os_g σ 13 13 0) + 1) 0 (-1)) 18 (iN x) 0 1) 17 (iN x) 0 2) 19 (iN x) 0 (os_g σ_2 13 1 0) := by simp only [mcR, eq_false c_12, eq_false c_14, eq_true c_17, if_true, if_false]
              exact join ls H locs (by rw [ej]; exact hV) (lv_sub hl [1, 2, 3, 4, 0] rfl)
        · exact absurd c_13 c_12
      · skip
        refine lv_aload_n hx hb d_Model_come_121 rfl (lv_at hl 1 rfl) ?_
        refine os_get (C := "RobotFaultsModel") (T := F_Model) (N := 38) (ci := 7) (K := 13) (j := 6) (i := 0) (v := .ref (ad 16 0)) hx hb hts i_Model hown hK hV rfl rfl (by decide) hr_4 (hts _ k_731) (congrArg (fun z => va_rf (Option.map (ad 16) z)) (hM.1.2.1 6 (by decide) (by decide))) d_Model_come_122 ?_
        refine lv_iload_n hx hb d_Model_come_125 rfl (lv_at hl 2 rfl) ?_
        refine os_ialdN (K := 16) (i := 0) (t0 := 0) (n := (iN x)) hx hb hK hV rfl rfl rfl (hM.1.n 16 (by decide) (by decide)) hx9.1 (by rw [show os_l σ_2 16 0 = 8 from hM.1.2.2 16 (by decide) (by decide)]; have h9 := hx9.2; omega) (by rw [show os_l σ_2 16 0 = 8 from hM.1.2.2 16 (by decide) (by decide)]; decide) d_Model_come_126 ?_
        refine lv_goto (tgt := 131) hx hb d_Model_come_127 (by decide) ?_
        refine os_iastN (K := 32) (i := 0) (t0 := 0) (n := (iN (os_g σ 13 13 0) + 1)) hx hb hK hV rfl rfl rfl (hM.1.n 32 (by decide) (by decide)) rfl (by rw [show os_l σ_2 32 0 = 41 from hM.1.2.2 32 (by decide) (by decide)]; have h9 := (show iN (os_g σ 13 13 0) + 1 < 41 from by omega); omega) (by rw [show os_l σ_2 32 0 = 41 from hM.1.2.2 32 (by decide) (by decide)]; decide) d_Model_come_131 (fun H locs hV => ?_)
        refine lv_iload_n hx hb d_Model_come_132 rfl (lv_at hl 3 rfl) ?_
        refine lv_iconst (v := 2) hx hb d_Model_come_133 (by decide) ?_
        refine lv_icmp_ne (tgt := 144) hx hb d_Model_come_134 (by decide) (fun c_19 => ?_) (fun c_19 => ?_)
        · exact absurd c_12 c_19
        · skip
          refine lv_aload_n hx hb d_Model_come_137 rfl (lv_at hl 1 rfl) ?_
          refine os_get (C := "RobotFaultsModel") (T := F_Model) (N := 38) (ci := 7) (K := 13) (j := 6) (i := 0) (v := .ref (ad 16 0)) hx hb hts i_Model hown hK hV rfl rfl (by decide) hr_4 (hts _ k_731) (congrArg (fun z => va_rf (Option.map (ad 16) z)) (hM.1.2.1 6 (by decide) (by decide))) d_Model_come_138 ?_
          refine lv_iload_n hx hb d_Model_come_141 rfl (lv_at hl 2 rfl) ?_
          refine lv_iconst (v := (-1)) hx hb d_Model_come_142 (by decide) ?_
          refine os_iastN (K := 16) (i := 0) (t0 := 0) (n := (iN x)) hx hb hK hV rfl rfl rfl (hM.1.n 16 (by decide) (by decide)) hx9.1 (by rw [show os_l (os_sg σ_2 32 (iN (os_g σ 13 13 0) + 1) 0 (os_g σ_2 16 (iN x) 0)) 16 0 = 8 from hM.1.2.2 16 (by decide) (by decide)]; have h9 := hx9.2; omega) (by rw [show os_l (os_sg σ_2 32 (iN (os_g σ 13 13 0) + 1) 0 (os_g σ_2 16 (iN x) 0)) 16 0 = 8 from hM.1.2.2 16 (by decide) (by decide)]; decide) d_Model_come_143 (fun H locs hV => ?_)
          refine lv_aload_n hx hb d_Model_come_144 rfl (lv_at hl 1 rfl) ?_
          refine os_get (C := "RobotFaultsModel") (T := F_Model) (N := 38) (ci := 7) (K := 13) (j := 11) (i := 0) (v := .ref (ad 21 0)) hx hb hts i_Model hown hK hV rfl rfl (by decide) hr_4 (hts _ k_736) (congrArg (fun z => va_rf (Option.map (ad 21) z)) (hM.1.2.1 11 (by decide) (by decide))) d_Model_come_145 ?_
          refine lv_iload_n hx hb d_Model_come_148 rfl (lv_at hl 3 rfl) ?_
          refine os_zaldN (K := 21) (i := 0) (t0 := 1) (n := (iN k)) hx hb hK hV rfl rfl rfl (hM.1.n 21 (by decide) (by decide)) hk9.1 (by rw [show os_l (os_sg (os_sg σ_2 32 (iN (os_g σ 13 13 0) + 1) 0 (os_g σ_2 16 (iN x) 0)) 16 (iN x) 0 (-1)) 21 0 = 8 from hM.1.2.2 21 (by decide) (by decide)]; have h9 := hk9.2; omega) (by rw [show os_l (os_sg (os_sg σ_2 32 (iN (os_g σ 13 13 0) + 1) 0 (os_g σ_2 16 (iN x) 0)) 16 (iN x) 0 (-1)) 21 0 = 8 from hM.1.2.2 21 (by decide) (by decide)]; decide) d_Model_come_149 ?_
          refine W.eq (g2 := F0 m 150 ls [.int (os_g σ_2 21 (iN k) 0)]) (congrArg (fun z => F0 m 150 ls (.int z :: [])) (show os_g (os_sg (os_sg σ_2 32 (iN (os_g σ 13 13 0) + 1) 0 (os_g σ_2 16 (iN x) 0)) 16 (iN x) 0 (-1)) 21 (iN k) 0 = os_g σ_2 21 (iN k) 0 from rfl)) ?_
          refine lv_if_eq (tgt := 160) hx hb d_Model_come_150 (by decide) (fun c_20 => ?_) (fun c_20 => ?_)
          · skip
            refine lv_iload_n hx hb d_Model_come_160 rfl (lv_at hl 3 rfl) ?_
            refine lv_iconst (v := 1) hx hb d_Model_come_161 (by decide) ?_
            refine lv_icmp_ne (tgt := 185) hx hb d_Model_come_162 (by decide) (fun c_21 => ?_) (fun c_21 => ?_)
            · skip
              refine lv_aload_n hx hb d_Model_come_185 rfl (lv_at hl 1 rfl) ?_
              refine os_get (C := "RobotFaultsModel") (T := F_Model) (N := 38) (ci := 7) (K := 13) (j := 7) (i := 0) (v := .ref (ad 17 0)) hx hb hts i_Model hown hK hV rfl rfl (by decide) hr_4 (hts _ k_732) (congrArg (fun z => va_rf (Option.map (ad 17) z)) (hM.1.2.1 7 (by decide) (by decide))) d_Model_come_186 ?_
              refine lv_iload_n hx hb d_Model_come_189 rfl (lv_at hl 2 rfl) ?_
              refine os_ialdN (K := 17) (i := 0) (t0 := 0) (n := (iN x)) hx hb hK hV rfl rfl rfl (hM.1.n 17 (by decide) (by decide)) hx9.1 (by rw [show os_l (os_sg (os_sg σ_2 32 (iN (os_g σ 13 13 0) + 1) 0 (os_g σ_2 16 (iN x) 0)) 16 (iN x) 0 (-1)) 17 0 = 8 from hM.1.2.2 17 (by decide) (by decide)]; have h9 := hx9.2; omega) (by rw [show os_l (os_sg (os_sg σ_2 32 (iN (os_g σ 13 13 0) + 1) 0 (os_g σ_2 16 (iN x) 0)) 16 (iN x) 0 (-1)) 17 0 = 8 from hM.1.2.2 17 (by decide) (by decide)]; decide) d_Model_come_190 ?_
              refine W.eq (g2 := F0 m 191 ls [.int (os_g σ_2 17 (iN x) 0)]) (congrArg (fun z => F0 m 191 ls (.int z :: [])) (show os_g (os_sg (os_sg σ_2 32 (iN (os_g σ 13 13 0) + 1) 0 (os_g σ_2 16 (iN x) 0)) 16 (iN x) 0 (-1)) 17 (iN x) 0 = os_g σ_2 17 (iN x) 0 from rfl)) ?_
              refine lv_if_ne (tgt := 201) hx hb d_Model_come_191 (by decide) (fun c_22 => ?_) (fun c_22 => ?_)
              · skip
                have ej : mcR σ_2 x k (iN (os_g σ 13 13 0) + 1) = os_sg (os_sg σ_2 32 (iN (os_g σ 13 13 0) + 1) 0 (os_g σ_2 16 (iN x) 0)) 16 (iN x) 0 (-1) := by simp only [mcR, eq_true c_12, eq_true c_20, eq_false c_21, eq_false c_22, if_true, if_false]
                exact join ls H locs (by rw [ej]; exact hV) (lv_sub hl [1, 2, 3, 4, 0] rfl)
              · skip
                refine lv_aload_n hx hb d_Model_come_194 rfl (lv_at hl 1 rfl) ?_
                refine os_get (C := "RobotFaultsModel") (T := F_Model) (N := 38) (ci := 7) (K := 13) (j := 7) (i := 0) (v := .ref (ad 17 0)) hx hb hts i_Model hown hK hV rfl rfl (by decide) hr_4 (hts _ k_732) (congrArg (fun z => va_rf (Option.map (ad 17) z)) (hM.1.2.1 7 (by decide) (by decide))) d_Model_come_195 ?_
                refine lv_iload_n hx hb d_Model_come_198 rfl (lv_at hl 2 rfl) ?_
                refine lv_iconst (v := 1) hx hb d_Model_come_199 (by decide) ?_
                refine os_iastN (K := 17) (i := 0) (t0 := 0) (n := (iN x)) hx hb hK hV rfl rfl rfl (hM.1.n 17 (by decide) (by decide)) hx9.1 (by rw [show os_l (os_sg (os_sg σ_2 32 (iN (os_g σ 13 13 0) + 1) 0 (os_g σ_2 16 (iN x) 0)) 16 (iN x) 0 (-1)) 17 0 = 8 from hM.1.2.2 17 (by decide) (by decide)]; have h9 := hx9.2; omega) (by rw [show os_l (os_sg (os_sg σ_2 32 (iN (os_g σ 13 13 0) + 1) 0 (os_g σ_2 16 (iN x) 0)) 16 (iN x) 0 (-1)) 17 0 = 8 from hM.1.2.2 17 (by decide) (by decide)]; decide) d_Model_come_200 (fun H locs hV => ?_)
                have ej : mcR σ_2 x k (iN (os_g σ 13 13 0) + 1) = os_sg (os_sg (os_sg σ_2 32 (iN (os_g σ 13 13 0) + 1) 0 (os_g σ_2 16 (iN x) 0)) 16 (iN x) 0 (-1)) 17 (iN x) 0 1 := by simp only [mcR, eq_true c_12, eq_true c_20, eq_false c_21, eq_true c_22, if_true, if_false]
                exact join ls H locs (by rw [ej]; exact hV) (lv_sub hl [1, 2, 3, 4, 0] rfl)
            · skip
              refine lv_aload_n hx hb d_Model_come_165 rfl (lv_at hl 1 rfl) ?_
              refine os_get (C := "RobotFaultsModel") (T := F_Model) (N := 38) (ci := 7) (K := 13) (j := 7) (i := 0) (v := .ref (ad 17 0)) hx hb hts i_Model hown hK hV rfl rfl (by decide) hr_4 (hts _ k_732) (congrArg (fun z => va_rf (Option.map (ad 17) z)) (hM.1.2.1 7 (by decide) (by decide))) d_Model_come_166 ?_
              refine lv_iload_n hx hb d_Model_come_169 rfl (lv_at hl 2 rfl) ?_
              refine lv_iconst (v := 2) hx hb d_Model_come_170 (by decide) ?_
              refine os_iastN (K := 17) (i := 0) (t0 := 0) (n := (iN x)) hx hb hK hV rfl rfl rfl (hM.1.n 17 (by decide) (by decide)) hx9.1 (by rw [show os_l (os_sg (os_sg σ_2 32 (iN (os_g σ 13 13 0) + 1) 0 (os_g σ_2 16 (iN x) 0)) 16 (iN x) 0 (-1)) 17 0 = 8 from hM.1.2.2 17 (by decide) (by decide)]; have h9 := hx9.2; omega) (by rw [show os_l (os_sg (os_sg σ_2 32 (iN (os_g σ 13 13 0) + 1) 0 (os_g σ_2 16 (iN x) 0)) 16 (iN x) 0 (-1)) 17 0 = 8 from hM.1.2.2 17 (by decide) (by decide)]; decide) d_Model_come_171 (fun H locs hV => ?_)
              refine lv_aload_n hx hb d_Model_come_172 rfl (lv_at hl 1 rfl) ?_
              refine os_get (C := "RobotFaultsModel") (T := F_Model) (N := 38) (ci := 7) (K := 13) (j := 9) (i := 0) (v := .ref (ad 19 0)) hx hb hts i_Model hown hK hV rfl rfl (by decide) hr_4 (hts _ k_734) (congrArg (fun z => va_rf (Option.map (ad 19) z)) (hM.1.2.1 9 (by decide) (by decide))) d_Model_come_173 ?_
              refine lv_iload_n hx hb d_Model_come_176 rfl (lv_at hl 2 rfl) ?_
              refine lv_aload_n hx hb d_Model_come_177 rfl (lv_at hl 1 rfl) ?_
              refine os_get (C := "RobotFaultsModel") (T := F_Model) (N := 38) (ci := 7) (K := 13) (j := 1) (i := 0) (v := .int (os_g σ_2 13 1 0)) hx hb hts i_Model hown hK hV rfl rfl (by decide) hr_4 (hts _ k_726) rfl d_Model_come_178 ?_
              refine os_iastN (K := 19) (i := 0) (t0 := 0) (n := (iN x)) hx hb hK hV rfl rfl rfl (hM.1.n 19 (by decide) (by decide)) hx9.1 (by rw [show os_l (os_sg (os_sg (os_sg σ_2 32 (iN (os_g σ 13 13 0) + 1) 0 (os_g σ_2 16 (iN x) 0)) 16 (iN x) 0 (-1)) 17 (iN x) 0 2) 19 0 = 8 from hM.1.2.2 19 (by decide) (by decide)]; have h9 := hx9.2; omega) (by rw [show os_l (os_sg (os_sg (os_sg σ_2 32 (iN (os_g σ 13 13 0) + 1) 0 (os_g σ_2 16 (iN x) 0)) 16 (iN x) 0 (-1)) 17 (iN x) 0 2) 19 0 = 8 from hM.1.2.2 19 (by decide) (by decide)]; decide) d_Model_come_181 (fun H locs hV => ?_)
              refine lv_goto (tgt := 201) hx hb d_Model_come_182 (by decide) ?_
              have ej : mcR σ_2 x k (iN (os_g σ 13 13 0) + 1) = os_sg (os_sg (os_sg (os_sg σ_2 32 (iN (os_g σ 13 13 0) + 1) 0 (os_g σ_2 16 (iN x) 0)) 16 (iN x) 0 (-1)) 17 (iN x) 0 2) 19 (iN x) 0 (os_g σ_2 13 1 0) := by simp only [mcR, eq_true c_12, eq_true c_20, eq_true c_21, if_true, if_false]
              exact join ls H locs (by rw [ej]; exact hV) (lv_sub hl [1, 2, 3, 4, 0] rfl)
          · skip
            refine lv_aload_n hx hb d_Model_come_153 rfl (lv_at hl 1 rfl) ?_
            refine os_get (C := "RobotFaultsModel") (T := F_Model) (N := 38) (ci := 7) (K := 13) (j := 8) (i := 0) (v := .ref (ad 18 0)) hx hb hts i_Model hown hK hV rfl rfl (by decide) hr_4 (hts _ k_733) (congrArg (fun z => va_rf (Option.map (ad 18) z)) (hM.1.2.1 8 (by decide) (by decide))) d_Model_come_154 ?_
            refine lv_iload_n hx hb d_Model_come_157 rfl (lv_at hl 2 rfl) ?_
            refine lv_iconst (v := 1) hx hb d_Model_come_158 (by decide) ?_
            refine os_zastN (K := 18) (i := 0) (t0 := 1) (n := (iN x)) hx hb hK hV rfl rfl rfl (hM.1.n 18 (by decide) (by decide)) hx9.1 (by rw [show os_l (os_sg (os_sg σ_2 32 (iN (os_g σ 13 13 0) + 1) 0 (os_g σ_2 16 (iN x) 0)) 16 (iN x) 0 (-1)) 18 0 = 8 from hM.1.2.2 18 (by decide) (by decide)]; have h9 := hx9.2; omega) (by rw [show os_l (os_sg (os_sg σ_2 32 (iN (os_g σ 13 13 0) + 1) 0 (os_g σ_2 16 (iN x) 0)) 16 (iN x) 0 (-1)) 18 0 = 8 from hM.1.2.2 18 (by decide) (by decide)]; decide) rfl d_Model_come_159 (fun H locs hV => ?_)
            refine lv_iload_n hx hb d_Model_come_160 rfl (lv_at hl 3 rfl) ?_
            refine lv_iconst (v := 1) hx hb d_Model_come_161 (by decide) ?_
            refine lv_icmp_ne (tgt := 185) hx hb d_Model_come_162 (by decide) (fun c_23 => ?_) (fun c_23 => ?_)
            · skip
              refine lv_aload_n hx hb d_Model_come_185 rfl (lv_at hl 1 rfl) ?_
              refine os_get (C := "RobotFaultsModel") (T := F_Model) (N := 38) (ci := 7) (K := 13) (j := 7) (i := 0) (v := .ref (ad 17 0)) hx hb hts i_Model hown hK hV rfl rfl (by decide) hr_4 (hts _ k_732) (congrArg (fun z => va_rf (Option.map (ad 17) z)) (hM.1.2.1 7 (by decide) (by decide))) d_Model_come_186 ?_
              refine lv_iload_n hx hb d_Model_come_189 rfl (lv_at hl 2 rfl) ?_
              refine os_ialdN (K := 17) (i := 0) (t0 := 0) (n := (iN x)) hx hb hK hV rfl rfl rfl (hM.1.n 17 (by decide) (by decide)) hx9.1 (by rw [show os_l (os_sg (os_sg (os_sg σ_2 32 (iN (os_g σ 13 13 0) + 1) 0 (os_g σ_2 16 (iN x) 0)) 16 (iN x) 0 (-1)) 18 (iN x) 0 1) 17 0 = 8 from hM.1.2.2 17 (by decide) (by decide)]; have h9 := hx9.2; omega) (by rw [show os_l (os_sg (os_sg (os_sg σ_2 32 (iN (os_g σ 13 13 0) + 1) 0 (os_g σ_2 16 (iN x) 0)) 16 (iN x) 0 (-1)) 18 (iN x) 0 1) 17 0 = 8 from hM.1.2.2 17 (by decide) (by decide)]; decide) d_Model_come_190 ?_
              refine W.eq (g2 := F0 m 191 ls [.int (os_g σ_2 17 (iN x) 0)]) (congrArg (fun z => F0 m 191 ls (.int z :: [])) (show os_g (os_sg (os_sg (os_sg σ_2 32 (iN (os_g σ 13 13 0) + 1) 0 (os_g σ_2 16 (iN x) 0)) 16 (iN x) 0 (-1)) 18 (iN x) 0 1) 17 (iN x) 0 = os_g σ_2 17 (iN x) 0 from rfl)) ?_
              refine lv_if_ne (tgt := 201) hx hb d_Model_come_191 (by decide) (fun c_24 => ?_) (fun c_24 => ?_)
              · skip
                have ej : mcR σ_2 x k (iN (os_g σ 13 13 0) + 1) = os_sg (os_sg (os_sg σ_2 32 (iN (os_g σ 13 13 0) + 1) 0 (os_g σ_2 16 (iN x) 0)) 16 (iN x) 0 (-1)) 18 (iN x) 0 1 := by simp only [mcR, eq_true c_12, eq_false c_20, eq_false c_23, eq_false c_24, if_true, if_false]
                exact join ls H locs (by rw [ej]; exact hV) (lv_sub hl [1, 2, 3, 4, 0] rfl)
              · skip
                refine lv_aload_n hx hb d_Model_come_194 rfl (lv_at hl 1 rfl) ?_
                refine os_get (C := "RobotFaultsModel") (T := F_Model) (N := 38) (ci := 7) (K := 13) (j := 7) (i := 0) (v := .ref (ad 17 0)) hx hb hts i_Model hown hK hV rfl rfl (by decide) hr_4 (hts _ k_732) (congrArg (fun z => va_rf (Option.map (ad 17) z)) (hM.1.2.1 7 (by decide) (by decide))) d_Model_come_195 ?_
                refine lv_iload_n hx hb d_Model_come_198 rfl (lv_at hl 2 rfl) ?_
                refine lv_iconst (v := 1) hx hb d_Model_come_199 (by decide) ?_
                refine os_iastN (K := 17) (i := 0) (t0 := 0) (n := (iN x)) hx hb hK hV rfl rfl rfl (hM.1.n 17 (by decide) (by decide)) hx9.1 (by rw [show os_l (os_sg (os_sg (os_sg σ_2 32 (iN (os_g σ 13 13 0) + 1) 0 (os_g σ_2 16 (iN x) 0)) 16 (iN x) 0 (-1)) 18 (iN x) 0 1) 17 0 = 8 from hM.1.2.2 17 (by decide) (by decide)]; have h9 := hx9.2; omega) (by rw [show os_l (os_sg (os_sg (os_sg σ_2 32 (iN (os_g σ 13 13 0) + 1) 0 (os_g σ_2 16 (iN x) 0)) 16 (iN x) 0 (-1)) 18 (iN x) 0 1) 17 0 = 8 from hM.1.2.2 17 (by decide) (by decide)]; decide) d_Model_come_200 (fun H locs hV => ?_)
                have ej : mcR σ_2 x k (iN (os_g σ 13 13 0) + 1) = os_sg (os_sg (os_sg (os_sg σ_2 32 (iN (os_g σ 13 13 0) + 1) 0 (os_g σ_2 16 (iN x) 0)) 16 (iN x) 0 (-1)) 18 (iN x) 0 1) 17 (iN x) 0 1 := by simp only [mcR, eq_true c_12, eq_false c_20, eq_false c_23, eq_true c_24, if_true, if_false]
                exact join ls H locs (by rw [ej]; exact hV) (lv_sub hl [1, 2, 3, 4, 0] rfl)
            · skip
              refine lv_aload_n hx hb d_Model_come_165 rfl (lv_at hl 1 rfl) ?_
              refine os_get (C := "RobotFaultsModel") (T := F_Model) (N := 38) (ci := 7) (K := 13) (j := 7) (i := 0) (v := .ref (ad 17 0)) hx hb hts i_Model hown hK hV rfl rfl (by decide) hr_4 (hts _ k_732) (congrArg (fun z => va_rf (Option.map (ad 17) z)) (hM.1.2.1 7 (by decide) (by decide))) d_Model_come_166 ?_
              refine lv_iload_n hx hb d_Model_come_169 rfl (lv_at hl 2 rfl) ?_
              refine lv_iconst (v := 2) hx hb d_Model_come_170 (by decide) ?_
              refine os_iastN (K := 17) (i := 0) (t0 := 0) (n := (iN x)) hx hb hK hV rfl rfl rfl (hM.1.n 17 (by decide) (by decide)) hx9.1 (by rw [show os_l (os_sg (os_sg (os_sg σ_2 32 (iN (os_g σ 13 13 0) + 1) 0 (os_g σ_2 16 (iN x) 0)) 16 (iN x) 0 (-1)) 18 (iN x) 0 1) 17 0 = 8 from hM.1.2.2 17 (by decide) (by decide)]; have h9 := hx9.2; omega) (by rw [show os_l (os_sg (os_sg (os_sg σ_2 32 (iN (os_g σ 13 13 0) + 1) 0 (os_g σ_2 16 (iN x) 0)) 16 (iN x) 0 (-1)) 18 (iN x) 0 1) 17 0 = 8 from hM.1.2.2 17 (by decide) (by decide)]; decide) d_Model_come_171 (fun H locs hV => ?_)
              refine lv_aload_n hx hb d_Model_come_172 rfl (lv_at hl 1 rfl) ?_
              refine os_get (C := "RobotFaultsModel") (T := F_Model) (N := 38) (ci := 7) (K := 13) (j := 9) (i := 0) (v := .ref (ad 19 0)) hx hb hts i_Model hown hK hV rfl rfl (by decide) hr_4 (hts _ k_734) (congrArg (fun z => va_rf (Option.map (ad 19) z)) (hM.1.2.1 9 (by decide) (by decide))) d_Model_come_173 ?_
              refine lv_iload_n hx hb d_Model_come_176 rfl (lv_at hl 2 rfl) ?_
              refine lv_aload_n hx hb d_Model_come_177 rfl (lv_at hl 1 rfl) ?_
              refine os_get (C := "RobotFaultsModel") (T := F_Model) (N := 38) (ci := 7) (K := 13) (j := 1) (i := 0) (v := .int (os_g σ_2 13 1 0)) hx hb hts i_Model hown hK hV rfl rfl (by decide) hr_4 (hts _ k_726) rfl d_Model_come_178 ?_
              refine os_iastN (K := 19) (i := 0) (t0 := 0) (n := (iN x)) hx hb hK hV rfl rfl rfl (hM.1.n 19 (by decide) (by decide)) hx9.1 (by rw [show os_l (os_sg (os_sg (os_sg (os_sg σ_2 32 (iN (os_g σ 13 13 0) + 1) 0 (os_g σ_2 16 (iN x) 0)) 16 (iN x) 0 (-1)) 18 (iN x) 0 1) 17 (iN x) 0 2) 19 0 = 8 from hM.1.2.2 19 (by decide) (by decide)]; have h9 := hx9.2; omega) (by rw [show os_l (os_sg (os_sg (os_sg (os_sg σ_2 32 (iN (os_g σ 13 13 0) + 1) 0 (os_g σ_2 16 (iN x) 0)) 16 (iN x) 0 (-1)) 18 (iN x) 0 1) 17 (iN x) 0 2) 19 0 = 8 from hM.1.2.2 19 (by decide) (by decide)]; decide) d_Model_come_181 (fun H locs hV => ?_)
              refine lv_goto (tgt := 201) hx hb d_Model_come_182 (by decide) ?_
              have ej : mcR σ_2 x k (iN (os_g σ 13 13 0) + 1) = os_sg (os_sg (os_sg (os_sg (os_sg σ_2 32 (iN (os_g σ 13 13 0) + 1) 0 (os_g σ_2 16 (iN x) 0)) 16 (iN x) 0 (-1)) 18 (iN x) 0 1) 17 (iN x) 0 2) 19 (iN x) 0 (os_g σ_2 13 1 0) := by simp only [mcR, eq_true c_12, eq_false c_20, eq_true c_23, if_true, if_false]
              exact join ls H locs (by rw [ej]; exact hV) (lv_sub hl [1, 2, 3, 4, 0] rfl)
    · skip
      refine lv_aload_n hx hb d_Model_come_9 rfl (lv_at hl 0 rfl) ?_
      refine lv_iload_n hx hb d_Model_come_10 rfl (lv_at hl 1 rfl) ?_
      refine lv_iload_n hx hb d_Model_come_11 rfl (lv_at hl 2 rfl) ?_
      refine os_call (c_Model_openOf l hlt D cA bs σ ad x k hM) hE hV k_898 k_4 (os_inV (C := "RobotFaultsModel") (n := 2) (bytes := prog_9_method_15_code) (maxL := 4) (ret := (some .int)) hx hb hown (hts _ k_895) (hts _ k_897) (hts _ k_s25) (hts _ k_898) (by decide +kernel) rfl (os_recv hK hV rfl rfl (hM.1.n 13 (by decide) (by decide))) rfl d_Model_come_12) (hl.1.trans hml.symm) (Nat.le_of_ble_eq_true rfl) (Nat.le_of_ble_eq_true rfl) (Nat.le_of_ble_eq_true rfl) (Nat.le_of_ble_eq_true rfl) (Nat.le_of_ble_eq_true rfl) (fun v σ1 ad1 H locs hp hext hV => ?_) (fun E q ce σ1 ad1 H locs hp hext hV hce hcv hcl => ?_)
      · obtain ⟨rfl, rfl, hp⟩ := hp
        cases hp
        refine W.eq (g2 := F0 m 15 ls [.int (mof σ x k)]) rfl ?_
        refine lv_ineg hx hb d_Model_come_15 ?_
        refine os_iret hx hb hr hlocks hV (Nat.le_of_ble_eq_true rfl) (Nat.le_of_ble_eq_true rfl) d_Model_come_16 ?_
        exact ⟨if_neg c_1, rfl, by unfold mcV; rw [if_neg c_1]⟩
      · exact absurd hp.2.2 (fun h => by cases h)
  · exact absurd hp.2.2 (fun h => by cases h)
