/-! LOOPS THAT READ: faults and alarms -/
def fR (σ : os_S) (i : Nat) : Nat := (os_r σ 10 1 i).getD 0
def aR (σ : os_S) (i : Nat) : Nat := (os_r σ 11 1 i).getD 0
def aL (σ : os_S) (i : Nat) : Nat := (os_r σ 11 7 i).getD 0
def pR (σ : os_S) (i : Nat) : Nat := (os_r σ 12 0 i).getD 0
/-- faults, alarms: in their arrays; their references -/
def rfF (σ : os_S) : Prop := rfS σ 5 10 40 7 ∧ ∀ i, i < os_n σ 10 → os_r σ 10 1 i = some (fR σ i)
def rfL (σ : os_S) : Prop := rfS σ 6 11 40 8 ∧ (∀ i, i < os_n σ 11 → os_r σ 11 1 i = some (aR σ i)) ∧ ∀ i, i < os_n σ 11 → os_r σ 11 7 i = some (aL σ i)
theorem rfS.at {σ : os_S} {Ka K N cf j : Nat} (h : rfS σ Ka K N cf) (hj : j < N) (hn : j < os_n σ K) : os_r σ Ka j 0 = some j := by rw [h.2.2 j hj, if_pos hn]
theorem rfS.an {σ : os_S} {Ka K N cf j : Nat} (h : rfS σ Ka K N cf) (hj : j < N) (hn : ¬ j < os_n σ K) : os_r σ Ka j 0 = none := by rw [h.2.2 j hj, if_neg hn]
/-- a fault is open -/
def fop (σ : os_S) (i : Nat) : Bool := decide (os_g σ 10 10 i = -1)
/-- the kinds of the open faults of a robot, among the first -/
def okF (σ : os_S) (r : Nat) : Nat → Int32
  | 0 => 0
  | j + 1 => if j < os_n σ 10 ∧ fop σ j = true ∧ fR σ j = r then okF σ r j ||| ((1 : Int32) <<< (os_g σ 10 2 j &&& 31)) else okF σ r j
/-- how many faults are open, among the first -/
def ocF (σ : os_S) : Nat → Int32
  | 0 => 0
  | j + 1 => if j < os_n σ 10 ∧ fop σ j = true then ocF σ j + 1 else ocF σ j
/-- how many alarms nobody acknowledged, among the first -/
def ucF (σ : os_S) : Nat → Int32
  | 0 => 0
  | j + 1 => if j < os_n σ 11 ∧ os_g σ 11 6 j = -1 then ucF σ j + 1 else ucF σ j
/-- seconds that faults were open, among the first -/
def osF (σ : os_S) (t : Int32) : Nat → Int32
  | 0 => 0
  | j + 1 => if j < os_n σ 10 then osF σ t j + ((if fop σ j = true then t else os_g σ 10 10 j) - os_g σ 10 3 j) else osF σ t j
theorem lt_of_nle {j N : Nat} {M : Int32} (h : ¬ M ≤ nI j) (hj : j ≤ N) (hM : M = nI N := by rfl) (hN : N < 2 ^ 31 := by decide) : j < N := by
  subst hM
  rcases Nat.lt_or_ge j N with q | q
  · exact q
  · exact absurd (nI_le q (by omega)) h
theorem eq_of_le {j N : Nat} {M : Int32} (h : M ≤ nI j) (hj : j ≤ N) (hM : M = nI N := by rfl) (hN : N < 2 ^ 31 := by decide) : j = N := by
  subst hM
  have := (nI_leI hN (by omega)).mp h
  omega
theorem bz_t {b : Bool} (h : bz b = 0) (g : b = true) : False := by rw [g] at h; cases h
set_option maxHeartbeats 4000000 in
set_option maxRecDepth 100000 in
theorem c_RF_openKinds (l : Launch) (hlt : l.stackTraces = false) (D : va_G) (cA : Nat → ClassId) (bs : Nat) (σ : os_S) (ad : Nat → Nat → Nat) (i : Nat) (hA : rfA σ) (hF : rfF σ) (hi : i < os_n σ 9) : os_Met l y_RF_openKinds prog_1_method_38_code 7 (some .int) { frames := 1, cells := 0, slots := 0, locals := 20 } D cA bs [.ref (ad 0 0), .ref (ad 9 i)] σ ad (pv σ ad (some (.int (okF σ i 40)))) := by
  refine os_ofW (by decide) ?_
  intro p e s m below meth c hx hb hr hml hown hlocks hmn hout hE hV
  have hts := hE.hts (args := ([.ref (ad 0 0), .ref (ad 9 i)] : List Value).toArray)
  have hK := hE.2.1
  have hbs := hE.2.2.1
  have hown : s.vm.findClass "RobotFaults" = some m.cls := hown
  have hl := lv_entry ([.ref (ad 0 0), .ref (ad 9 i)]) (n := 7) (Nat.le_of_ble_eq_true rfl)
  rw [lg_entry_eq]
  generalize (lg_sl ([.ref (ad 0 0), .ref (ad 9 i)]) ++ List.replicate (7 - (lg_sl ([.ref (ad 0 0), .ref (ad 9 i)])).length) Slot.unset).toArray = ls at hl ⊢
  have hl : lv_has ls 7 [(0, .ref (ad 0 0)), (1, .ref (ad 9 i))] := hl
  refine lv_iconst (v := 0) hx hb d_RF_openKinds_0 (by decide) ?_
  refine lv_istore_n (lv' := [(2, .int 0), (0, .ref (ad 0 0)), (1, .ref (ad 9 i))]) hx hb d_RF_openKinds_1 rfl hl (by decide) rfl (fun ls hl => ?_)
  refine lv_aload_n hx hb d_RF_openKinds_2 rfl (lv_at hl 1 rfl) ?_
  refine os_get (C := "RobotFaults") (T := F_RF) (N := 11) (ci := 0) (K := 0) (j := 3) (i := 0) (v := .ref (ad 5 0)) hx hb hts i_RF hown hK hV rfl rfl (by decide) (hA.n 0 (by decide)) (hts _ k_71) (congrArg (fun z => va_rf (Option.map (ad 5) z)) (hA.r 3 (by decide))) d_RF_openKinds_3 ?_
  refine lv_astore_n (lv' := [(3, .ref (ad 5 0)), (2, .int 0), (0, .ref (ad 0 0)), (1, .ref (ad 9 i))]) hx hb d_RF_openKinds_6 rfl hl (by decide) rfl (fun ls hl => ?_)
  refine lv_aload_n hx hb d_RF_openKinds_7 rfl (lv_at hl 0 rfl) ?_
  refine os_alen (K := 5) (i := 0) (t0 := 5) (v := 40) hx hb hK hV rfl rfl (hA.n 5 (by decide)) (congrArg Int32.ofNat hA.l5) d_RF_openKinds_8 ?_
  refine lv_istore (lv' := [(4, .int 40), (3, .ref (ad 5 0)), (2, .int 0), (0, .ref (ad 0 0)), (1, .ref (ad 9 i))]) hx hb d_RF_openKinds_9 hl (by decide) rfl (fun ls hl => ?_)
  refine lv_iconst (v := 0) hx hb d_RF_openKinds_11 (by decide) ?_
  refine lv_istore (lv' := [(5, .int 0), (4, .int 40), (3, .ref (ad 5 0)), (2, .int 0), (0, .ref (ad 0 0)), (1, .ref (ad 9 i))]) hx hb d_RF_openKinds_12 hl (by decide) rfl (fun ls hl => ?_)
  have loop : ∀ (n j : Nat) (a : Int32) (ls : Array Slot) (H : Heap) (locs : List Loc), j ≤ 40 → 40 < j + n → a = okF σ i j → os_V D cA bs σ ad s σ ad H locs → lv_has ls 7 [(0, .ref (ad 0 0)), (1, .ref (ad 9 i)), (2, .int a), (3, .ref (ad 5 0)), (4, .int 40), (5, .int (nI j))] → W p l e { frames := 1, cells := 0, slots := 0, locals := 20 } s m ([.ref (ad 0 0), .ref (ad 9 i)] : List Value).toArray below meth c H locs (0) (0) (os_End D cA bs below s σ ad { frames := 1, cells := 0, slots := 0, locals := 20 } (pv σ ad (some (.int (okF σ i 40))))) (F0 m 14 ls []) := by
    intro n
    induction n with
    | zero => intro j a ls H locs h1 h2; exact absurd h2 (by omega)
    | succ n loop_ih =>
      intro j a ls H locs loop_j loop_n loop_i hV hl
      refine lv_iload hx hb d_RF_openKinds_14 (lv_at hl 5 rfl) ?_
      refine lv_iload hx hb d_RF_openKinds_16 (lv_at hl 4 rfl) ?_
      refine lv_icmp_ge (tgt := 65) hx hb d_RF_openKinds_18 (by decide) (fun c_1 => ?_) (fun c_1 => ?_)
      · skip
        refine lv_iload_n hx hb d_RF_openKinds_65 rfl (lv_at hl 2 rfl) ?_
        refine os_iret hx hb hr hlocks hV (Nat.le_of_ble_eq_true rfl) (Nat.le_of_ble_eq_true rfl) d_RF_openKinds_66 ?_
        have hj := eq_of_le c_1 loop_j
        subst hj
        exact ⟨rfl, rfl, by rw [loop_i]⟩
      · skip
        refine lv_aload_n hx hb d_RF_openKinds_21 rfl (lv_at hl 3 rfl) ?_
        refine lv_iload hx hb d_RF_openKinds_22 (lv_at hl 5 rfl) ?_
        refine os_aaldN (K := 5) (i := 0) (t0 := 5) (n := j) hx hb hK hV rfl rfl (hA.n 5 (by decide)) rfl (by rw [show os_l σ 5 0 = 40 from hA.l5]; exact (lt_of_nle c_1 loop_j)) (by rw [show os_l σ 5 0 = 40 from hA.l5]; decide) d_RF_openKinds_24 ?_
        by_cases u_2 : j < os_n σ 10
        · skip
          refine W.eq (g2 := F0 m 25 ls [.ref (ad 10 j)]) (by rw [hF.1.at (lt_of_nle c_1 loop_j) u_2]; rfl) ?_
          refine lv_astore (lv' := [(6, .ref (ad 10 j)), (0, .ref (ad 0 0)), (1, .ref (ad 9 i)), (2, .int a), (3, .ref (ad 5 0)), (4, .int 40), (5, .int (nI j))]) hx hb d_RF_openKinds_25 hl (by decide) rfl (fun ls hl => ?_)
          refine lv_aload hx hb d_RF_openKinds_27 (lv_at hl 0 rfl) ?_
          refine lv_ifnull hx hb d_RF_openKinds_29 ?_
          refine lv_aload hx hb d_RF_openKinds_32 (lv_at hl 0 rfl) ?_
          refine os_call (c_Fault_isOpen l hlt D cA bs σ ad j u_2) hE hV k_129 k_13 (os_inV (C := "RobotFaults$Fault") (n := 0) (bytes := prog_3_method_2_code) (maxL := 1) (ret := (some .boolean)) hx hb hown (hts _ k_126) (hts _ k_127) (hts _ k_128) (hts _ k_129) (by decide +kernel) rfl (os_recv hK hV rfl rfl u_2) rfl d_RF_openKinds_34) (hl.1.trans hml.symm) (Nat.le_of_ble_eq_true rfl) (Nat.le_of_ble_eq_true rfl) (Nat.le_of_ble_eq_true rfl) (Nat.le_of_ble_eq_true rfl) (Nat.le_of_ble_eq_true rfl) (fun v σ1 ad1 H locs hp hext hV => ?_) (fun E q ce σ1 ad1 H locs hp hext hV hce hcv hcl => ?_)
          · obtain ⟨rfl, rfl, hp⟩ := hp
            cases hp
            refine W.eq (g2 := F0 m 37 ls [.int (bz (decide (os_g σ 10 10 j = -1)))]) rfl ?_
            refine lv_if_eq (tgt := 59) hx hb d_RF_openKinds_37 (by decide) (fun c_3 => ?_) (fun c_3 => ?_)
            · skip
              refine lv_iinc (v := nI (j + 1)) (lv' := [(5, .int (nI (j + 1))), (6, .ref (ad 10 j)), (0, .ref (ad 0 0)), (1, .ref (ad 9 i)), (2, .int a), (3, .ref (ad 5 0)), (4, .int 40)]) hx hb d_RF_openKinds_59 hl (k := 6) rfl (nI_1 j) (by decide) rfl (fun ls hl => ?_)
              refine lv_goto (tgt := 14) hx hb d_RF_openKinds_62 (by decide) ?_
              exact loop_ih (j + 1) a ls H locs (Nat.succ_le_of_lt (lt_of_nle c_1 loop_j)) (by omega) (by rw [okF, if_neg (fun h => bz_t c_3 h.2.1), loop_i]) hV (lv_sub hl [2, 3, 4, 5, 6, 0] rfl)
            · skip
              refine lv_aload hx hb d_RF_openKinds_40 (lv_at hl 0 rfl) ?_
              refine os_getN (C := "RobotFaults$Fault") (T := F_Fault) (N := 11) (ci := 4) (K := 10) (j := 1) (i := j) (v := .ref (ad 9 (fR σ j))) hx hb hts i_Fault hown hK hV rfl rfl (by decide) u_2 (hts _ k_421) (congrArg (fun z => va_rf (Option.map (ad 9) z)) (hF.2 j u_2)) d_RF_openKinds_42 ?_
              refine lv_aload_n hx hb d_RF_openKinds_45 rfl (lv_at hl 2 rfl) ?_
              refine lv_acmp_ne (rx := some (ad 9 (fR σ j))) (ry := some (ad 9 i)) (tgt := 59) hx hb d_RF_openKinds_46 (by decide) (fun c_4 => ?_) (fun c_4 => ?_)
              · skip
                have e_5 : ¬ fR σ j = i := fun h => c_4 (by rw [h])
                refine lv_iinc (v := nI (j + 1)) (lv' := [(5, .int (nI (j + 1))), (6, .ref (ad 10 j)), (0, .ref (ad 0 0)), (1, .ref (ad 9 i)), (2, .int a), (3, .ref (ad 5 0)), (4, .int 40)]) hx hb d_RF_openKinds_59 hl (k := 6) rfl (nI_1 j) (by decide) rfl (fun ls hl => ?_)
                refine lv_goto (tgt := 14) hx hb d_RF_openKinds_62 (by decide) ?_
                exact loop_ih (j + 1) a ls H locs (Nat.succ_le_of_lt (lt_of_nle c_1 loop_j)) (by omega) (by rw [okF, if_neg (fun h => e_5 h.2.2), loop_i]) hV (lv_sub hl [2, 3, 4, 5, 6, 0] rfl)
              · skip
                have e_6 : fR σ j = i := (hV.1.2.1 9 (fR σ j) 9 i (hV.1.2.2.1 10 j u_2 1 9 _ rfl (hF.2 j u_2)) hi (Option.some.inj c_4)).2
                refine lv_iload_n hx hb d_RF_openKinds_49 rfl (lv_at hl 3 rfl) ?_
                refine lv_iconst (v := 1) hx hb d_RF_openKinds_50 (by decide) ?_
                refine lv_aload hx hb d_RF_openKinds_51 (lv_at hl 0 rfl) ?_
                refine os_getN (C := "RobotFaults$Fault") (T := F_Fault) (N := 11) (ci := 4) (K := 10) (j := 2) (i := j) (v := .int (os_g σ 10 2 j)) hx hb hts i_Fault hown hK hV rfl rfl (by decide) u_2 (hts _ k_424) rfl d_RF_openKinds_53 ?_
                refine lv_ishl hx hb d_RF_openKinds_56 ?_
                refine lv_ior hx hb d_RF_openKinds_57 ?_
                refine lv_istore_n (lv' := [(2, .int (a ||| (1 <<< ((os_g σ 10 2 j) &&& 31)))), (6, .ref (ad 10 j)), (0, .ref (ad 0 0)), (1, .ref (ad 9 i)), (3, .ref (ad 5 0)), (4, .int 40), (5, .int (nI j))]) hx hb d_RF_openKinds_58 rfl hl (by decide) rfl (fun ls hl => ?_)
                refine lv_iinc (v := nI (j + 1)) (lv' := [(5, .int (nI (j + 1))), (2, .int (a ||| (1 <<< ((os_g σ 10 2 j) &&& 31)))), (6, .ref (ad 10 j)), (0, .ref (ad 0 0)), (1, .ref (ad 9 i)), (3, .ref (ad 5 0)), (4, .int 40)]) hx hb d_RF_openKinds_59 hl (k := 6) rfl (nI_1 j) (by decide) rfl (fun ls hl => ?_)
                refine lv_goto (tgt := 14) hx hb d_RF_openKinds_62 (by decide) ?_
                exact loop_ih (j + 1) (a ||| (1 <<< ((os_g σ 10 2 j) &&& 31))) ls H locs (Nat.succ_le_of_lt (lt_of_nle c_1 loop_j)) (by omega) (by rw [okF, if_pos ⟨u_2, bz_1 c_3, e_6⟩, loop_i]) hV (lv_sub hl [3, 4, 1, 5, 6, 0] rfl)
          · exact absurd hp.2.2 (fun h => by cases h)
        · skip
          refine W.eq (g2 := F0 m 25 ls [.null]) (by rw [hF.1.an (lt_of_nle c_1 loop_j) u_2]; rfl) ?_
          refine lv_astoreN (lv' := [(6, .null), (0, .ref (ad 0 0)), (1, .ref (ad 9 i)), (2, .int a), (3, .ref (ad 5 0)), (4, .int 40), (5, .int (nI j))]) hx hb d_RF_openKinds_25 hl (by decide) rfl (fun ls hl => ?_)
          refine lv_aloadN hx hb d_RF_openKinds_27 (lv_at hl 0 rfl) ?_
          refine lv_ifnullN (tgt := 59) hx hb d_RF_openKinds_29 (by decide) ?_
          refine lv_iinc (v := nI (j + 1)) (lv' := [(5, .int (nI (j + 1))), (6, .null), (0, .ref (ad 0 0)), (1, .ref (ad 9 i)), (2, .int a), (3, .ref (ad 5 0)), (4, .int 40)]) hx hb d_RF_openKinds_59 hl (k := 6) rfl (nI_1 j) (by decide) rfl (fun ls hl => ?_)
          refine lv_goto (tgt := 14) hx hb d_RF_openKinds_62 (by decide) ?_
          exact loop_ih (j + 1) a ls H locs (Nat.succ_le_of_lt (lt_of_nle c_1 loop_j)) (by omega) (by rw [okF, if_neg (fun h => u_2 h.1), loop_i]) hV (lv_sub hl [2, 3, 4, 5, 6, 0] rfl)
  exact loop (40 + 1) 0 0 ls _ _ (by omega) (by omega) rfl hV (lv_sub hl [4, 5, 3, 2, 1, 0] rfl)
set_option maxHeartbeats 4000000 in
set_option maxRecDepth 100000 in
theorem c_RF_openFaultCount (l : Launch) (hlt : l.stackTraces = false) (D : va_G) (cA : Nat → ClassId) (bs : Nat) (σ : os_S) (ad : Nat → Nat → Nat) (hA : rfA σ) (hF : rfF σ) : os_Met l y_RF_openFaultCount prog_1_method_44_code 6 (some .int) { frames := 1, cells := 0, slots := 0, locals := 20 } D cA bs [.ref (ad 0 0)] σ ad (pv σ ad (some (.int (ocF σ 40)))) := by
  refine os_ofW (by decide) ?_
  intro p e s m below meth c hx hb hr hml hown hlocks hmn hout hE hV
  have hts := hE.hts (args := ([.ref (ad 0 0)] : List Value).toArray)
  have hK := hE.2.1
  have hbs := hE.2.2.1
  have hown : s.vm.findClass "RobotFaults" = some m.cls := hown
  have hl := lv_entry ([.ref (ad 0 0)]) (n := 6) (Nat.le_of_ble_eq_true rfl)
  rw [lg_entry_eq]
  generalize (lg_sl ([.ref (ad 0 0)]) ++ List.replicate (6 - (lg_sl ([.ref (ad 0 0)])).length) Slot.unset).toArray = ls at hl ⊢
  have hl : lv_has ls 6 [(0, .ref (ad 0 0))] := hl
  refine lv_iconst (v := 0) hx hb d_RF_openFaultCount_0 (by decide) ?_
  refine lv_istore_n (lv' := [(1, .int 0), (0, .ref (ad 0 0))]) hx hb d_RF_openFaultCount_1 rfl hl (by decide) rfl (fun ls hl => ?_)
  refine lv_aload_n hx hb d_RF_openFaultCount_2 rfl (lv_at hl 1 rfl) ?_
  refine os_get (C := "RobotFaults") (T := F_RF) (N := 11) (ci := 0) (K := 0) (j := 3) (i := 0) (v := .ref (ad 5 0)) hx hb hts i_RF hown hK hV rfl rfl (by decide) (hA.n 0 (by decide)) (hts _ k_71) (congrArg (fun z => va_rf (Option.map (ad 5) z)) (hA.r 3 (by decide))) d_RF_openFaultCount_3 ?_
  refine lv_astore_n (lv' := [(2, .ref (ad 5 0)), (1, .int 0), (0, .ref (ad 0 0))]) hx hb d_RF_openFaultCount_6 rfl hl (by decide) rfl (fun ls hl => ?_)
  refine lv_aload_n hx hb d_RF_openFaultCount_7 rfl (lv_at hl 0 rfl) ?_
  refine os_alen (K := 5) (i := 0) (t0 := 5) (v := 40) hx hb hK hV rfl rfl (hA.n 5 (by decide)) (congrArg Int32.ofNat hA.l5) d_RF_openFaultCount_8 ?_
  refine lv_istore_n (lv' := [(3, .int 40), (2, .ref (ad 5 0)), (1, .int 0), (0, .ref (ad 0 0))]) hx hb d_RF_openFaultCount_9 rfl hl (by decide) rfl (fun ls hl => ?_)
  refine lv_iconst (v := 0) hx hb d_RF_openFaultCount_10 (by decide) ?_
  refine lv_istore (lv' := [(4, .int 0), (3, .int 40), (2, .ref (ad 5 0)), (1, .int 0), (0, .ref (ad 0 0))]) hx hb d_RF_openFaultCount_11 hl (by decide) rfl (fun ls hl => ?_)
  have loop : ∀ (n j : Nat) (a : Int32) (ls : Array Slot) (H : Heap) (locs : List Loc), j ≤ 40 → 40 < j + n → a = ocF σ j → os_V D cA bs σ ad s σ ad H locs → lv_has ls 6 [(0, .ref (ad 0 0)), (1, .int a), (2, .ref (ad 5 0)), (3, .int 40), (4, .int (nI j))] → W p l e { frames := 1, cells := 0, slots := 0, locals := 20 } s m ([.ref (ad 0 0)] : List Value).toArray below meth c H locs (0) (0) (os_End D cA bs below s σ ad { frames := 1, cells := 0, slots := 0, locals := 20 } (pv σ ad (some (.int (ocF σ 40))))) (F0 m 13 ls []) := by
    intro n
    induction n with
    | zero => intro j a ls H locs h1 h2; exact absurd h2 (by omega)
    | succ n loop_ih =>
      intro j a ls H locs loop_j loop_n loop_i hV hl
      refine lv_iload hx hb d_RF_openFaultCount_13 (lv_at hl 4 rfl) ?_
      refine lv_iload_n hx hb d_RF_openFaultCount_15 rfl (lv_at hl 3 rfl) ?_
      refine lv_icmp_ge (tgt := 47) hx hb d_RF_openFaultCount_16 (by decide) (fun c_1 => ?_) (fun c_1 => ?_)
      · skip
        refine lv_iload_n hx hb d_RF_openFaultCount_47 rfl (lv_at hl 1 rfl) ?_
        refine os_iret hx hb hr hlocks hV (Nat.le_of_ble_eq_true rfl) (Nat.le_of_ble_eq_true rfl) d_RF_openFaultCount_48 ?_
        have hj := eq_of_le c_1 loop_j
        subst hj
        exact ⟨rfl, rfl, by rw [loop_i]⟩
      · skip
        refine lv_aload_n hx hb d_RF_openFaultCount_19 rfl (lv_at hl 2 rfl) ?_
        refine lv_iload hx hb d_RF_openFaultCount_20 (lv_at hl 4 rfl) ?_
        refine os_aaldN (K := 5) (i := 0) (t0 := 5) (n := j) hx hb hK hV rfl rfl (hA.n 5 (by decide)) rfl (by rw [show os_l σ 5 0 = 40 from hA.l5]; exact (lt_of_nle c_1 loop_j)) (by rw [show os_l σ 5 0 = 40 from hA.l5]; decide) d_RF_openFaultCount_22 ?_
        by_cases u_2 : j < os_n σ 10
        · skip
          refine W.eq (g2 := F0 m 23 ls [.ref (ad 10 j)]) (by rw [hF.1.at (lt_of_nle c_1 loop_j) u_2]; rfl) ?_
          refine lv_astore (lv' := [(5, .ref (ad 10 j)), (0, .ref (ad 0 0)), (1, .int a), (2, .ref (ad 5 0)), (3, .int 40), (4, .int (nI j))]) hx hb d_RF_openFaultCount_23 hl (by decide) rfl (fun ls hl => ?_)
          refine lv_aload hx hb d_RF_openFaultCount_25 (lv_at hl 0 rfl) ?_
          refine lv_ifnull hx hb d_RF_openFaultCount_27 ?_
          refine lv_aload hx hb d_RF_openFaultCount_30 (lv_at hl 0 rfl) ?_
          refine os_call (c_Fault_isOpen l hlt D cA bs σ ad j u_2) hE hV k_129 k_13 (os_inV (C := "RobotFaults$Fault") (n := 0) (bytes := prog_3_method_2_code) (maxL := 1) (ret := (some .boolean)) hx hb hown (hts _ k_126) (hts _ k_127) (hts _ k_128) (hts _ k_129) (by decide +kernel) rfl (os_recv hK hV rfl rfl u_2) rfl d_RF_openFaultCount_32) (hl.1.trans hml.symm) (Nat.le_of_ble_eq_true rfl) (Nat.le_of_ble_eq_true rfl) (Nat.le_of_ble_eq_true rfl) (Nat.le_of_ble_eq_true rfl) (Nat.le_of_ble_eq_true rfl) (fun v σ1 ad1 H locs hp hext hV => ?_) (fun E q ce σ1 ad1 H locs hp hext hV hce hcv hcl => ?_)
          · obtain ⟨rfl, rfl, hp⟩ := hp
            cases hp
            refine W.eq (g2 := F0 m 35 ls [.int (bz (decide (os_g σ 10 10 j = -1)))]) rfl ?_
            refine lv_if_eq (tgt := 41) hx hb d_RF_openFaultCount_35 (by decide) (fun c_3 => ?_) (fun c_3 => ?_)
            · skip
              refine lv_iinc (v := nI (j + 1)) (lv' := [(4, .int (nI (j + 1))), (5, .ref (ad 10 j)), (0, .ref (ad 0 0)), (1, .int a), (2, .ref (ad 5 0)), (3, .int 40)]) hx hb d_RF_openFaultCount_41 hl (k := 5) rfl (nI_1 j) (by decide) rfl (fun ls hl => ?_)
              refine lv_goto (tgt := 13) hx hb d_RF_openFaultCount_44 (by decide) ?_
              exact loop_ih (j + 1) a ls H locs (Nat.succ_le_of_lt (lt_of_nle c_1 loop_j)) (by omega) (by rw [ocF, if_neg (fun h => bz_t c_3 h.2), loop_i]) hV (lv_sub hl [2, 3, 4, 5, 0] rfl)
            · skip
              refine lv_iinc (v := a + 1) (lv' := [(1, .int (a + 1)), (5, .ref (ad 10 j)), (0, .ref (ad 0 0)), (2, .ref (ad 5 0)), (3, .int 40), (4, .int (nI j))]) hx hb d_RF_openFaultCount_38 hl (k := 2) rfl rfl (by decide) rfl (fun ls hl => ?_)
              refine lv_iinc (v := nI (j + 1)) (lv' := [(4, .int (nI (j + 1))), (1, .int (a + 1)), (5, .ref (ad 10 j)), (0, .ref (ad 0 0)), (2, .ref (ad 5 0)), (3, .int 40)]) hx hb d_RF_openFaultCount_41 hl (k := 5) rfl (nI_1 j) (by decide) rfl (fun ls hl => ?_)
              refine lv_goto (tgt := 13) hx hb d_RF_openFaultCount_44 (by decide) ?_
              exact loop_ih (j + 1) (a + 1) ls H locs (Nat.succ_le_of_lt (lt_of_nle c_1 loop_j)) (by omega) (by rw [ocF, if_pos ⟨u_2, bz_1 c_3⟩, loop_i]) hV (lv_sub hl [3, 1, 4, 5, 0] rfl)
          · exact absurd hp.2.2 (fun h => by cases h)
        · skip
          refine W.eq (g2 := F0 m 23 ls [.null]) (by rw [hF.1.an (lt_of_nle c_1 loop_j) u_2]; rfl) ?_
          refine lv_astoreN (lv' := [(5, .null), (0, .ref (ad 0 0)), (1, .int a), (2, .ref (ad 5 0)), (3, .int 40), (4, .int (nI j))]) hx hb d_RF_openFaultCount_23 hl (by decide) rfl (fun ls hl => ?_)
          refine lv_aloadN hx hb d_RF_openFaultCount_25 (lv_at hl 0 rfl) ?_
          refine lv_ifnullN (tgt := 41) hx hb d_RF_openFaultCount_27 (by decide) ?_
          refine lv_iinc (v := nI (j + 1)) (lv' := [(4, .int (nI (j + 1))), (5, .null), (0, .ref (ad 0 0)), (1, .int a), (2, .ref (ad 5 0)), (3, .int 40)]) hx hb d_RF_openFaultCount_41 hl (k := 5) rfl (nI_1 j) (by decide) rfl (fun ls hl => ?_)
          refine lv_goto (tgt := 13) hx hb d_RF_openFaultCount_44 (by decide) ?_
          exact loop_ih (j + 1) a ls H locs (Nat.succ_le_of_lt (lt_of_nle c_1 loop_j)) (by omega) (by rw [ocF, if_neg (fun h => u_2 h.1), loop_i]) hV (lv_sub hl [2, 3, 4, 5, 0] rfl)
  exact loop (40 + 1) 0 0 ls _ _ (by omega) (by omega) rfl hV (lv_sub hl [4, 3, 2, 1, 0] rfl)
set_option maxHeartbeats 4000000 in
set_option maxRecDepth 100000 in
theorem c_RF_unheardAlarmCount (l : Launch) (hlt : l.stackTraces = false) (D : va_G) (cA : Nat → ClassId) (bs : Nat) (σ : os_S) (ad : Nat → Nat → Nat) (hA : rfA σ) (hL : rfL σ) : os_Met l y_RF_unheardAlarmCount prog_1_method_45_code 6 (some .int) { frames := 1, cells := 0, slots := 0, locals := 20 } D cA bs [.ref (ad 0 0)] σ ad (pv σ ad (some (.int (ucF σ 40)))) := by
  refine os_ofW (by decide) ?_
  intro p e s m below meth c hx hb hr hml hown hlocks hmn hout hE hV
  have hts := hE.hts (args := ([.ref (ad 0 0)] : List Value).toArray)
  have hK := hE.2.1
  have hbs := hE.2.2.1
  have hown : s.vm.findClass "RobotFaults" = some m.cls := hown
  have hl := lv_entry ([.ref (ad 0 0)]) (n := 6) (Nat.le_of_ble_eq_true rfl)
  rw [lg_entry_eq]
  generalize (lg_sl ([.ref (ad 0 0)]) ++ List.replicate (6 - (lg_sl ([.ref (ad 0 0)])).length) Slot.unset).toArray = ls at hl ⊢
  have hl : lv_has ls 6 [(0, .ref (ad 0 0))] := hl
  refine lv_iconst (v := 0) hx hb d_RF_unheardAlarmCount_0 (by decide) ?_
  refine lv_istore_n (lv' := [(1, .int 0), (0, .ref (ad 0 0))]) hx hb d_RF_unheardAlarmCount_1 rfl hl (by decide) rfl (fun ls hl => ?_)
  refine lv_aload_n hx hb d_RF_unheardAlarmCount_2 rfl (lv_at hl 1 rfl) ?_
  refine os_get (C := "RobotFaults") (T := F_RF) (N := 11) (ci := 0) (K := 0) (j := 4) (i := 0) (v := .ref (ad 6 0)) hx hb hts i_RF hown hK hV rfl rfl (by decide) (hA.n 0 (by decide)) (hts _ k_72) (congrArg (fun z => va_rf (Option.map (ad 6) z)) (hA.r 4 (by decide))) d_RF_unheardAlarmCount_3 ?_
  refine lv_astore_n (lv' := [(2, .ref (ad 6 0)), (1, .int 0), (0, .ref (ad 0 0))]) hx hb d_RF_unheardAlarmCount_6 rfl hl (by decide) rfl (fun ls hl => ?_)
  refine lv_aload_n hx hb d_RF_unheardAlarmCount_7 rfl (lv_at hl 0 rfl) ?_
  refine os_alen (K := 6) (i := 0) (t0 := 6) (v := 40) hx hb hK hV rfl rfl (hA.n 6 (by decide)) (congrArg Int32.ofNat hA.l6) d_RF_unheardAlarmCount_8 ?_
  refine lv_istore_n (lv' := [(3, .int 40), (2, .ref (ad 6 0)), (1, .int 0), (0, .ref (ad 0 0))]) hx hb d_RF_unheardAlarmCount_9 rfl hl (by decide) rfl (fun ls hl => ?_)
  refine lv_iconst (v := 0) hx hb d_RF_unheardAlarmCount_10 (by decide) ?_
  refine lv_istore (lv' := [(4, .int 0), (3, .int 40), (2, .ref (ad 6 0)), (1, .int 0), (0, .ref (ad 0 0))]) hx hb d_RF_unheardAlarmCount_11 hl (by decide) rfl (fun ls hl => ?_)
  have loop : ∀ (n j : Nat) (a : Int32) (ls : Array Slot) (H : Heap) (locs : List Loc), j ≤ 40 → 40 < j + n → a = ucF σ j → os_V D cA bs σ ad s σ ad H locs → lv_has ls 6 [(0, .ref (ad 0 0)), (1, .int a), (2, .ref (ad 6 0)), (3, .int 40), (4, .int (nI j))] → W p l e { frames := 1, cells := 0, slots := 0, locals := 20 } s m ([.ref (ad 0 0)] : List Value).toArray below meth c H locs (0) (0) (os_End D cA bs below s σ ad { frames := 1, cells := 0, slots := 0, locals := 20 } (pv σ ad (some (.int (ucF σ 40))))) (F0 m 13 ls []) := by
    intro n
    induction n with
    | zero => intro j a ls H locs h1 h2; exact absurd h2 (by omega)
    | succ n loop_ih =>
      intro j a ls H locs loop_j loop_n loop_i hV hl
      refine lv_iload hx hb d_RF_unheardAlarmCount_13 (lv_at hl 4 rfl) ?_
      refine lv_iload_n hx hb d_RF_unheardAlarmCount_15 rfl (lv_at hl 3 rfl) ?_
      refine lv_icmp_ge (tgt := 47) hx hb d_RF_unheardAlarmCount_16 (by decide) (fun c_1 => ?_) (fun c_1 => ?_)
      · skip
        refine lv_iload_n hx hb d_RF_unheardAlarmCount_47 rfl (lv_at hl 1 rfl) ?_
        refine os_iret hx hb hr hlocks hV (Nat.le_of_ble_eq_true rfl) (Nat.le_of_ble_eq_true rfl) d_RF_unheardAlarmCount_48 ?_
        have hj := eq_of_le c_1 loop_j
        subst hj
        exact ⟨rfl, rfl, by rw [loop_i]⟩
      · skip
        refine lv_aload_n hx hb d_RF_unheardAlarmCount_19 rfl (lv_at hl 2 rfl) ?_
        refine lv_iload hx hb d_RF_unheardAlarmCount_20 (lv_at hl 4 rfl) ?_
        refine os_aaldN (K := 6) (i := 0) (t0 := 6) (n := j) hx hb hK hV rfl rfl (hA.n 6 (by decide)) rfl (by rw [show os_l σ 6 0 = 40 from hA.l6]; exact (lt_of_nle c_1 loop_j)) (by rw [show os_l σ 6 0 = 40 from hA.l6]; decide) d_RF_unheardAlarmCount_22 ?_
        by_cases u_2 : j < os_n σ 11
        · skip
          refine W.eq (g2 := F0 m 23 ls [.ref (ad 11 j)]) (by rw [hL.1.at (lt_of_nle c_1 loop_j) u_2]; rfl) ?_
          refine lv_astore (lv' := [(5, .ref (ad 11 j)), (0, .ref (ad 0 0)), (1, .int a), (2, .ref (ad 6 0)), (3, .int 40), (4, .int (nI j))]) hx hb d_RF_unheardAlarmCount_23 hl (by decide) rfl (fun ls hl => ?_)
          refine lv_aload hx hb d_RF_unheardAlarmCount_25 (lv_at hl 0 rfl) ?_
          refine lv_ifnull hx hb d_RF_unheardAlarmCount_27 ?_
          refine lv_aload hx hb d_RF_unheardAlarmCount_30 (lv_at hl 0 rfl) ?_
          refine os_call (c_Alarm_isAcknowledged l hlt D cA bs σ ad j u_2) hE hV k_109 k_14 (os_inV (C := "RobotFaults$Alarm") (n := 0) (bytes := prog_2_method_2_code) (maxL := 1) (ret := (some .boolean)) hx hb hown (hts _ k_106) (hts _ k_107) (hts _ k_108) (hts _ k_109) (by decide +kernel) rfl (os_recv hK hV rfl rfl u_2) rfl d_RF_unheardAlarmCount_32) (hl.1.trans hml.symm) (Nat.le_of_ble_eq_true rfl) (Nat.le_of_ble_eq_true rfl) (Nat.le_of_ble_eq_true rfl) (Nat.le_of_ble_eq_true rfl) (Nat.le_of_ble_eq_true rfl) (fun v σ1 ad1 H locs hp hext hV => ?_) (fun E q ce σ1 ad1 H locs hp hext hV hce hcv hcl => ?_)
          · obtain ⟨rfl, rfl, hp⟩ := hp
            cases hp
            refine W.eq (g2 := F0 m 35 ls [.int (bz (decide (¬ os_g σ 11 6 j = -1)))]) rfl ?_
            refine lv_if_ne (tgt := 41) hx hb d_RF_unheardAlarmCount_35 (by decide) (fun c_3 => ?_) (fun c_3 => ?_)
            · skip
              refine lv_iinc (v := nI (j + 1)) (lv' := [(4, .int (nI (j + 1))), (5, .ref (ad 11 j)), (0, .ref (ad 0 0)), (1, .int a), (2, .ref (ad 6 0)), (3, .int 40)]) hx hb d_RF_unheardAlarmCount_41 hl (k := 5) rfl (nI_1 j) (by decide) rfl (fun ls hl => ?_)
              refine lv_goto (tgt := 13) hx hb d_RF_unheardAlarmCount_44 (by decide) ?_
              exact loop_ih (j + 1) a ls H locs (Nat.succ_le_of_lt (lt_of_nle c_1 loop_j)) (by omega) (by rw [ucF, if_neg (fun h => (of_decide_eq_true (bz_1 c_3)) h.2), loop_i]) hV (lv_sub hl [2, 3, 4, 5, 0] rfl)
            · skip
              refine lv_iinc (v := a + 1) (lv' := [(1, .int (a + 1)), (5, .ref (ad 11 j)), (0, .ref (ad 0 0)), (2, .ref (ad 6 0)), (3, .int 40), (4, .int (nI j))]) hx hb d_RF_unheardAlarmCount_38 hl (k := 2) rfl rfl (by decide) rfl (fun ls hl => ?_)
              refine lv_iinc (v := nI (j + 1)) (lv' := [(4, .int (nI (j + 1))), (1, .int (a + 1)), (5, .ref (ad 11 j)), (0, .ref (ad 0 0)), (2, .ref (ad 6 0)), (3, .int 40)]) hx hb d_RF_unheardAlarmCount_41 hl (k := 5) rfl (nI_1 j) (by decide) rfl (fun ls hl => ?_)
              refine lv_goto (tgt := 13) hx hb d_RF_unheardAlarmCount_44 (by decide) ?_
              exact loop_ih (j + 1) (a + 1) ls H locs (Nat.succ_le_of_lt (lt_of_nle c_1 loop_j)) (by omega) (by rw [ucF, if_pos ⟨u_2, (Decidable.not_not.mp (of_decide_eq_false (bz_0 c_3)))⟩, loop_i]) hV (lv_sub hl [3, 1, 4, 5, 0] rfl)
          · exact absurd hp.2.2 (fun h => by cases h)
        · skip
          refine W.eq (g2 := F0 m 23 ls [.null]) (by rw [hL.1.an (lt_of_nle c_1 loop_j) u_2]; rfl) ?_
          refine lv_astoreN (lv' := [(5, .null), (0, .ref (ad 0 0)), (1, .int a), (2, .ref (ad 6 0)), (3, .int 40), (4, .int (nI j))]) hx hb d_RF_unheardAlarmCount_23 hl (by decide) rfl (fun ls hl => ?_)
          refine lv_aloadN hx hb d_RF_unheardAlarmCount_25 (lv_at hl 0 rfl) ?_
          refine lv_ifnullN (tgt := 41) hx hb d_RF_unheardAlarmCount_27 (by decide) ?_
          refine lv_iinc (v := nI (j + 1)) (lv' := [(4, .int (nI (j + 1))), (5, .null), (0, .ref (ad 0 0)), (1, .int a), (2, .ref (ad 6 0)), (3, .int 40)]) hx hb d_RF_unheardAlarmCount_41 hl (k := 5) rfl (nI_1 j) (by decide) rfl (fun ls hl => ?_)
          refine lv_goto (tgt := 13) hx hb d_RF_unheardAlarmCount_44 (by decide) ?_
          exact loop_ih (j + 1) a ls H locs (Nat.succ_le_of_lt (lt_of_nle c_1 loop_j)) (by omega) (by rw [ucF, if_neg (fun h => u_2 h.1), loop_i]) hV (lv_sub hl [2, 3, 4, 5, 0] rfl)
  exact loop (40 + 1) 0 0 ls _ _ (by omega) (by omega) rfl hV (lv_sub hl [4, 3, 2, 1, 0] rfl)
set_option maxHeartbeats 4000000 in
set_option maxRecDepth 100000 in
theorem c_Fault_openSecondsUntil (l : Launch) (hlt : l.stackTraces = false) (D : va_G) (cA : Nat → ClassId) (bs : Nat) (σ : os_S) (ad : Nat → Nat → Nat) (i : Nat) (t : Int32) (hi : i < os_n σ 10) : os_Met l y_Fault_openSecondsUntil prog_3_method_4_code 2 (some .int) { frames := 1, cells := 0, slots := 0, locals := 20 } D cA bs [.ref (ad 10 i), .int t] σ ad (pv σ ad (some (.int ((if fop σ i = true then t else os_g σ 10 10 i) - os_g σ 10 3 i)))) := by
  refine os_ofW (by decide) ?_
  intro p e s m below meth c hx hb hr hml hown hlocks hmn hout hE hV
  have hts := hE.hts (args := ([.ref (ad 10 i), .int t] : List Value).toArray)
  have hK := hE.2.1
  have hbs := hE.2.2.1
  have hown : s.vm.findClass "RobotFaults$Fault" = some m.cls := hown
  have hl := lv_entry ([.ref (ad 10 i), .int t]) (n := 2) (Nat.le_of_ble_eq_true rfl)
  rw [lg_entry_eq]
  generalize (lg_sl ([.ref (ad 10 i), .int t]) ++ List.replicate (2 - (lg_sl ([.ref (ad 10 i), .int t])).length) Slot.unset).toArray = ls at hl ⊢
  have hl : lv_has ls 2 [(0, .ref (ad 10 i)), (1, .int t)] := hl
  refine lv_aload_n hx hb d_Fault_openSecondsUntil_0 rfl (lv_at hl 0 rfl) ?_
  refine os_call (c_Fault_isOpen l hlt D cA bs σ ad i hi) hE hV k_129 k_13 (os_inV (C := "RobotFaults$Fault") (n := 0) (bytes := prog_3_method_2_code) (maxL := 1) (ret := (some .boolean)) hx hb hown (hts _ k_142) (hts _ k_127) (hts _ k_128) (hts _ k_129) (by decide +kernel) rfl (os_recv hK hV rfl rfl hi) rfl d_Fault_openSecondsUntil_1) (hl.1.trans hml.symm) (Nat.le_of_ble_eq_true rfl) (Nat.le_of_ble_eq_true rfl) (Nat.le_of_ble_eq_true rfl) (Nat.le_of_ble_eq_true rfl) (Nat.le_of_ble_eq_true rfl) (fun v σ1 ad1 H locs hp hext hV => ?_) (fun E q ce σ1 ad1 H locs hp hext hV hce hcv hcl => ?_)
  · obtain ⟨rfl, rfl, hp⟩ := hp
    cases hp
    refine W.eq (g2 := F0 m 4 ls [.int (bz (decide (os_g σ 10 10 i = -1)))]) rfl ?_
    refine lv_if_eq (tgt := 11) hx hb d_Fault_openSecondsUntil_4 (by decide) (fun c_1 => ?_) (fun c_1 => ?_)
    · skip
      refine lv_aload_n hx hb d_Fault_openSecondsUntil_11 rfl (lv_at hl 0 rfl) ?_
      refine os_get (C := "RobotFaults$Fault") (T := F_Fault) (N := 11) (ci := 4) (K := 10) (j := 10) (i := i) (v := .int (os_g σ 10 10 i)) hx hb hts i_Fault hown hK hV rfl rfl (by decide) hi (hts _ k_439) rfl d_Fault_openSecondsUntil_12 ?_
      refine lv_aload_n hx hb d_Fault_openSecondsUntil_15 rfl (lv_at hl 0 rfl) ?_
      refine os_get (C := "RobotFaults$Fault") (T := F_Fault) (N := 11) (ci := 4) (K := 10) (j := 3) (i := i) (v := .int (os_g σ 10 3 i)) hx hb hts i_Fault hown hK hV rfl rfl (by decide) hi (hts _ k_425) rfl d_Fault_openSecondsUntil_16 ?_
      refine lv_isub hx hb d_Fault_openSecondsUntil_19 ?_
      refine os_iret hx hb hr hlocks hV (Nat.le_of_ble_eq_true rfl) (Nat.le_of_ble_eq_true rfl) d_Fault_openSecondsUntil_20 ?_
      exact ⟨rfl, rfl, by rw [if_neg (show ¬ fop σ i = true from bz_t c_1)]⟩
    · skip
      refine lv_iload_n hx hb d_Fault_openSecondsUntil_7 rfl (lv_at hl 1 rfl) ?_
      refine lv_goto (tgt := 15) hx hb d_Fault_openSecondsUntil_8 (by decide) ?_
      refine lv_aload_n hx hb d_Fault_openSecondsUntil_15 rfl (lv_at hl 0 rfl) ?_
      refine os_get (C := "RobotFaults$Fault") (T := F_Fault) (N := 11) (ci := 4) (K := 10) (j := 3) (i := i) (v := .int (os_g σ 10 3 i)) hx hb hts i_Fault hown hK hV rfl rfl (by decide) hi (hts _ k_425) rfl d_Fault_openSecondsUntil_16 ?_
      refine lv_isub hx hb d_Fault_openSecondsUntil_19 ?_
      refine os_iret hx hb hr hlocks hV (Nat.le_of_ble_eq_true rfl) (Nat.le_of_ble_eq_true rfl) d_Fault_openSecondsUntil_20 ?_
      exact ⟨rfl, rfl, by rw [if_pos (show fop σ i = true from bz_1 c_1)]⟩
  · exact absurd hp.2.2 (fun h => by cases h)
set_option maxHeartbeats 4000000 in
set_option maxRecDepth 100000 in
theorem c_RF_openSeconds (l : Launch) (hlt : l.stackTraces = false) (D : va_G) (cA : Nat → ClassId) (bs : Nat) (σ : os_S) (ad : Nat → Nat → Nat) (hA : rfA σ) (hF : rfF σ) : os_Met l y_RF_openSeconds prog_1_method_46_code 6 (some .int) { frames := 2, cells := 0, slots := 0, locals := 41 } D cA bs [.ref (ad 0 0)] σ ad (pv σ ad (some (.int (osF σ (os_g σ 0 10 0) 40)))) := by
  refine os_ofW (by decide) ?_
  intro p e s m below meth c hx hb hr hml hown hlocks hmn hout hE hV
  have hts := hE.hts (args := ([.ref (ad 0 0)] : List Value).toArray)
  have hK := hE.2.1
  have hbs := hE.2.2.1
  have hown : s.vm.findClass "RobotFaults" = some m.cls := hown
  have hl := lv_entry ([.ref (ad 0 0)]) (n := 6) (Nat.le_of_ble_eq_true rfl)
  rw [lg_entry_eq]
  generalize (lg_sl ([.ref (ad 0 0)]) ++ List.replicate (6 - (lg_sl ([.ref (ad 0 0)])).length) Slot.unset).toArray = ls at hl ⊢
  have hl : lv_has ls 6 [(0, .ref (ad 0 0))] := hl
  refine lv_iconst (v := 0) hx hb d_RF_openSeconds_0 (by decide) ?_
  refine lv_istore_n (lv' := [(1, .int 0), (0, .ref (ad 0 0))]) hx hb d_RF_openSeconds_1 rfl hl (by decide) rfl (fun ls hl => ?_)
  refine lv_aload_n hx hb d_RF_openSeconds_2 rfl (lv_at hl 1 rfl) ?_
  refine os_get (C := "RobotFaults") (T := F_RF) (N := 11) (ci := 0) (K := 0) (j := 3) (i := 0) (v := .ref (ad 5 0)) hx hb hts i_RF hown hK hV rfl rfl (by decide) (hA.n 0 (by decide)) (hts _ k_71) (congrArg (fun z => va_rf (Option.map (ad 5) z)) (hA.r 3 (by decide))) d_RF_openSeconds_3 ?_
  refine lv_astore_n (lv' := [(2, .ref (ad 5 0)), (1, .int 0), (0, .ref (ad 0 0))]) hx hb d_RF_openSeconds_6 rfl hl (by decide) rfl (fun ls hl => ?_)
  refine lv_aload_n hx hb d_RF_openSeconds_7 rfl (lv_at hl 0 rfl) ?_
  refine os_alen (K := 5) (i := 0) (t0 := 5) (v := 40) hx hb hK hV rfl rfl (hA.n 5 (by decide)) (congrArg Int32.ofNat hA.l5) d_RF_openSeconds_8 ?_
  refine lv_istore_n (lv' := [(3, .int 40), (2, .ref (ad 5 0)), (1, .int 0), (0, .ref (ad 0 0))]) hx hb d_RF_openSeconds_9 rfl hl (by decide) rfl (fun ls hl => ?_)
  refine lv_iconst (v := 0) hx hb d_RF_openSeconds_10 (by decide) ?_
  refine lv_istore (lv' := [(4, .int 0), (3, .int 40), (2, .ref (ad 5 0)), (1, .int 0), (0, .ref (ad 0 0))]) hx hb d_RF_openSeconds_11 hl (by decide) rfl (fun ls hl => ?_)
  have loop : ∀ (n j : Nat) (a : Int32) (ls : Array Slot) (H : Heap) (locs : List Loc), j ≤ 40 → 40 < j + n → a = osF σ (os_g σ 0 10 0) j → os_V D cA bs σ ad s σ ad H locs → lv_has ls 6 [(0, .ref (ad 0 0)), (1, .int a), (2, .ref (ad 5 0)), (3, .int 40), (4, .int (nI j))] → W p l e { frames := 2, cells := 0, slots := 0, locals := 41 } s m ([.ref (ad 0 0)] : List Value).toArray below meth c H locs (0) (0) (os_End D cA bs below s σ ad { frames := 2, cells := 0, slots := 0, locals := 41 } (pv σ ad (some (.int (osF σ (os_g σ 0 10 0) 40))))) (F0 m 13 ls []) := by
    intro n
    induction n with
    | zero => intro j a ls H locs h1 h2; exact absurd h2 (by omega)
    | succ n loop_ih =>
      intro j a ls H locs loop_j loop_n loop_i hV hl
      refine lv_iload hx hb d_RF_openSeconds_13 (lv_at hl 4 rfl) ?_
      refine lv_iload_n hx hb d_RF_openSeconds_15 rfl (lv_at hl 3 rfl) ?_
      refine lv_icmp_ge (tgt := 48) hx hb d_RF_openSeconds_16 (by decide) (fun c_1 => ?_) (fun c_1 => ?_)
      · skip
        refine lv_iload_n hx hb d_RF_openSeconds_48 rfl (lv_at hl 1 rfl) ?_
        refine os_iret hx hb hr hlocks hV (Nat.le_of_ble_eq_true rfl) (Nat.le_of_ble_eq_true rfl) d_RF_openSeconds_49 ?_
        have hj := eq_of_le c_1 loop_j
        subst hj
        exact ⟨rfl, rfl, by rw [loop_i]⟩
      · skip
        refine lv_aload_n hx hb d_RF_openSeconds_19 rfl (lv_at hl 2 rfl) ?_
        refine lv_iload hx hb d_RF_openSeconds_20 (lv_at hl 4 rfl) ?_
        refine os_aaldN (K := 5) (i := 0) (t0 := 5) (n := j) hx hb hK hV rfl rfl (hA.n 5 (by decide)) rfl (by rw [show os_l σ 5 0 = 40 from hA.l5]; exact (lt_of_nle c_1 loop_j)) (by rw [show os_l σ 5 0 = 40 from hA.l5]; decide) d_RF_openSeconds_22 ?_
        by_cases u_2 : j < os_n σ 10
        · skip
          refine W.eq (g2 := F0 m 23 ls [.ref (ad 10 j)]) (by rw [hF.1.at (lt_of_nle c_1 loop_j) u_2]; rfl) ?_
          refine lv_astore (lv' := [(5, .ref (ad 10 j)), (0, .ref (ad 0 0)), (1, .int a), (2, .ref (ad 5 0)), (3, .int 40), (4, .int (nI j))]) hx hb d_RF_openSeconds_23 hl (by decide) rfl (fun ls hl => ?_)
          refine lv_aload hx hb d_RF_openSeconds_25 (lv_at hl 0 rfl) ?_
          refine lv_ifnull hx hb d_RF_openSeconds_27 ?_
          refine lv_iload_n hx hb d_RF_openSeconds_30 rfl (lv_at hl 2 rfl) ?_
          refine lv_aload hx hb d_RF_openSeconds_31 (lv_at hl 0 rfl) ?_
          refine lv_aload_n hx hb d_RF_openSeconds_33 rfl (lv_at hl 1 rfl) ?_
          refine os_get (C := "RobotFaults") (T := F_RF) (N := 11) (ci := 0) (K := 0) (j := 10) (i := 0) (v := .int (os_g σ 0 10 0)) hx hb hts i_RF hown hK hV rfl rfl (by decide) (hA.n 0 (by decide)) (hts _ k_78) rfl d_RF_openSeconds_34 ?_
          refine os_call (c_Fault_openSecondsUntil l hlt D cA bs σ ad j (os_g σ 0 10 0) u_2) hE hV k_141 k_13 (os_inV (C := "RobotFaults$Fault") (n := 1) (bytes := prog_3_method_4_code) (maxL := 2) (ret := (some .int)) hx hb hown (hts _ k_138) (hts _ k_139) (hts _ k_140) (hts _ k_141) (by decide +kernel) rfl (os_recv hK hV rfl rfl u_2) rfl d_RF_openSeconds_37) (hl.1.trans hml.symm) (Nat.le_of_ble_eq_true rfl) (Nat.le_of_ble_eq_true rfl) (Nat.le_of_ble_eq_true rfl) (Nat.le_of_ble_eq_true rfl) (Nat.le_of_ble_eq_true rfl) (fun v σ1 ad1 H locs hp hext hV => ?_) (fun E q ce σ1 ad1 H locs hp hext hV hce hcv hcl => ?_)
          · obtain ⟨rfl, rfl, hp⟩ := hp
            cases hp
            refine W.eq (g2 := F0 m 40 ls [.int ((if fop σ j = true then os_g σ 0 10 0 else os_g σ 10 10 j) - os_g σ 10 3 j), .int a]) rfl ?_
            refine lv_iadd hx hb d_RF_openSeconds_40 ?_
            refine lv_istore_n (lv' := [(1, .int (a + ((if fop σ j = true then os_g σ 0 10 0 else os_g σ 10 10 j) - os_g σ 10 3 j))), (5, .ref (ad 10 j)), (0, .ref (ad 0 0)), (2, .ref (ad 5 0)), (3, .int 40), (4, .int (nI j))]) hx hb d_RF_openSeconds_41 rfl hl (by decide) rfl (fun ls hl => ?_)
            refine lv_iinc (v := nI (j + 1)) (lv' := [(4, .int (nI (j + 1))), (1, .int (a + ((if fop σ j = true then os_g σ 0 10 0 else os_g σ 10 10 j) - os_g σ 10 3 j))), (5, .ref (ad 10 j)), (0, .ref (ad 0 0)), (2, .ref (ad 5 0)), (3, .int 40)]) hx hb d_RF_openSeconds_42 hl (k := 5) rfl (nI_1 j) (by decide) rfl (fun ls hl => ?_)
            refine lv_goto (tgt := 13) hx hb d_RF_openSeconds_45 (by decide) ?_
            exact loop_ih (j + 1) (a + ((if fop σ j = true then os_g σ 0 10 0 else os_g σ 10 10 j) - os_g σ 10 3 j)) ls H locs (Nat.succ_le_of_lt (lt_of_nle c_1 loop_j)) (by omega) (by rw [osF, if_pos u_2, loop_i]) hV (lv_sub hl [3, 1, 4, 5, 0] rfl)
          · exact absurd hp.2.2 (fun h => by cases h)
        · skip
          refine W.eq (g2 := F0 m 23 ls [.null]) (by rw [hF.1.an (lt_of_nle c_1 loop_j) u_2]; rfl) ?_
          refine lv_astoreN (lv' := [(5, .null), (0, .ref (ad 0 0)), (1, .int a), (2, .ref (ad 5 0)), (3, .int 40), (4, .int (nI j))]) hx hb d_RF_openSeconds_23 hl (by decide) rfl (fun ls hl => ?_)
          refine lv_aloadN hx hb d_RF_openSeconds_25 (lv_at hl 0 rfl) ?_
          refine lv_ifnullN (tgt := 42) hx hb d_RF_openSeconds_27 (by decide) ?_
          refine lv_iinc (v := nI (j + 1)) (lv' := [(4, .int (nI (j + 1))), (5, .null), (0, .ref (ad 0 0)), (1, .int a), (2, .ref (ad 5 0)), (3, .int 40)]) hx hb d_RF_openSeconds_42 hl (k := 5) rfl (nI_1 j) (by decide) rfl (fun ls hl => ?_)
          refine lv_goto (tgt := 13) hx hb d_RF_openSeconds_45 (by decide) ?_
          exact loop_ih (j + 1) a ls H locs (Nat.succ_le_of_lt (lt_of_nle c_1 loop_j)) (by omega) (by rw [osF, if_neg (fun h => u_2 h), loop_i]) hV (lv_sub hl [2, 3, 4, 5, 0] rfl)
  exact loop (40 + 1) 0 0 ls _ _ (by omega) (by omega) rfl hV (lv_sub hl [4, 3, 2, 1, 0] rfl)
