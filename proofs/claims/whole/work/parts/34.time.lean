/-! TIME: the next busy second, alarms that rise -/
def imin (x y : Int32) : Int32 := if y < x then y else x
/-- the least second of the planted faults, among the first -/
def nb1 (σ : os_S) (x : Int32) : Nat → Int32
  | 0 => x
  | j + 1 => match os_r σ 7 j 0 with
    | none => nb1 σ x j
    | some t => imin (nb1 σ x j) (os_g σ 12 2 t)
/-- an alarm can rise -/
def crF (σ : os_S) (i : Nat) : Bool := decide (os_g σ 11 6 i = -1) && fop σ (aL σ i) && decide (os_g σ 11 4 i < 3)
/-- when an alarm rises next -/
def nrF (σ : os_S) (i : Nat) (t : Int32) : Int32 := (os_g σ 10 3 (aL σ i)) + ((((t - (os_g σ 10 3 (aL σ i))) / 30) + 1) * 30)
/-- it is a second at which an alarm rises -/
def rsF (σ : os_S) (i : Nat) (t : Int32) : Bool := decide (¬ t ≤ os_g σ 10 3 (aL σ i)) && decide ((t - os_g σ 10 3 (aL σ i)) - (t - os_g σ 10 3 (aL σ i)) / 30 * 30 = 0)
def nb2 (σ : os_S) (x : Int32) : Nat → Int32
  | 0 => x
  | j + 1 => if j < os_n σ 11 ∧ crF σ j = true then imin (nb2 σ x j) (nrF σ j (os_g σ 0 10 0)) else nb2 σ x j
/-- alarms rise, the first of them -/
def raS (σ : os_S) : Nat → os_S
  | 0 => σ
  | j + 1 => if j < os_n σ 11 ∧ crF (raS σ j) j = true ∧ rsF (raS σ j) j (os_g (raS σ j) 0 10 0) = true then os_sg (raS σ j) 11 4 j (os_g (raS σ j) 11 4 j + 1) else raS σ j
/-- how many rise, among the first -/
def raC (σ : os_S) : Nat → Int32
  | 0 => 0
  | j + 1 => if j < os_n σ 11 ∧ crF (raS σ j) j = true ∧ rsF (raS σ j) j (os_g (raS σ j) 0 10 0) = true then raC σ j + 1 else raC σ j
theorem raS_n {σ : os_S} {K : Nat} : ∀ j, os_n (raS σ j) K = os_n σ K
  | 0 => rfl
  | j + 1 => by
    rw [raS]
    split
    · rw [os_n_sg]; exact raS_n j
    · exact raS_n j
theorem raS_A {σ : os_S} (h : rfA σ) : ∀ j, rfA (raS σ j)
  | 0 => h
  | j + 1 => by
    rw [raS]
    split
    · exact (raS_A h j).sg
    · exact raS_A h j
theorem raS_L {σ : os_S} (h : rfL σ) : ∀ j, rfL (raS σ j)
  | 0 => h
  | j + 1 => by
    rw [raS]
    split
    · exact (raS_L h j).sg (by decide)
    · exact raS_L h j
set_option maxHeartbeats 4000000 in
set_option maxRecDepth 100000 in
theorem c_RF_nextBusySecond (l : Launch) (hlt : l.stackTraces = false) (D : va_G) (cA : Nat → ClassId) (bs : Nat) (σ : os_S) (ad : Nat → Nat → Nat) (x : Int32) (hA : rfA σ) (hL : rfL σ) : os_Met l y_RF_nextBusySecond prog_1_method_40_code 7 (some .int) { frames := 2, cells := 0, slots := 0, locals := 64 } D cA bs [.ref (ad 0 0), .int x] σ ad (pv σ ad (some (.int (nb2 σ (nb1 σ x 10) 40)))) := by
  refine os_ofW (by decide) ?_
  intro p e s m below meth c hx hb hr hml hown hlocks hmn hout hE hV
  have hts := hE.hts (args := ([.ref (ad 0 0), .int x] : List Value).toArray)
  have hK := hE.2.1
  have hbs := hE.2.2.1
  have hown : s.vm.findClass "RobotFaults" = some m.cls := hown
  have hl := lv_entry ([.ref (ad 0 0), .int x]) (n := 7) (Nat.le_of_ble_eq_true rfl)
  rw [lg_entry_eq]
  generalize (lg_sl ([.ref (ad 0 0), .int x]) ++ List.replicate (7 - (lg_sl ([.ref (ad 0 0), .int x])).length) Slot.unset).toArray = ls at hl ⊢
  have hl : lv_has ls 7 [(0, .ref (ad 0 0)), (1, .int x)] := hl
  refine lv_iload_n hx hb d_RF_nextBusySecond_0 rfl (lv_at hl 1 rfl) ?_
  refine lv_istore_n (lv' := [(2, .int x), (0, .ref (ad 0 0)), (1, .int x)]) hx hb d_RF_nextBusySecond_1 rfl hl (by decide) rfl (fun ls hl => ?_)
  refine lv_aload_n hx hb d_RF_nextBusySecond_2 rfl (lv_at hl 1 rfl) ?_
  refine os_get (C := "RobotFaults") (T := F_RF) (N := 11) (ci := 0) (K := 0) (j := 5) (i := 0) (v := .ref (ad 7 0)) hx hb hts i_RF hown hK hV rfl rfl (by decide) (hA.n 0 (by decide)) (hts _ k_73) (congrArg (fun z => va_rf (Option.map (ad 7) z)) (hA.r 5 (by decide))) d_RF_nextBusySecond_3 ?_
  refine lv_astore_n (lv' := [(3, .ref (ad 7 0)), (2, .int x), (0, .ref (ad 0 0)), (1, .int x)]) hx hb d_RF_nextBusySecond_6 rfl hl (by decide) rfl (fun ls hl => ?_)
  refine lv_aload_n hx hb d_RF_nextBusySecond_7 rfl (lv_at hl 0 rfl) ?_
  refine os_alen (K := 7) (i := 0) (t0 := 7) (v := 10) hx hb hK hV rfl rfl (hA.n 7 (by decide)) (congrArg Int32.ofNat hA.l7) d_RF_nextBusySecond_8 ?_
  refine lv_istore (lv' := [(4, .int 10), (3, .ref (ad 7 0)), (2, .int x), (0, .ref (ad 0 0)), (1, .int x)]) hx hb d_RF_nextBusySecond_9 hl (by decide) rfl (fun ls hl => ?_)
  refine lv_iconst (v := 0) hx hb d_RF_nextBusySecond_11 (by decide) ?_
  refine lv_istore (lv' := [(5, .int 0), (4, .int 10), (3, .ref (ad 7 0)), (2, .int x), (0, .ref (ad 0 0)), (1, .int x)]) hx hb d_RF_nextBusySecond_12 hl (by decide) rfl (fun ls hl => ?_)
  have loop : ∀ (n j : Nat) (a : Int32) (ls : Array Slot) (H : Heap) (locs : List Loc), j ≤ 10 → 10 < j + n → a = nb1 σ x j → os_V D cA bs σ ad s σ ad H locs → lv_has ls 7 [(0, .ref (ad 0 0)), (1, .int x), (2, .int a), (3, .ref (ad 7 0)), (4, .int 10), (5, .int (nI j))] → W p l e { frames := 2, cells := 0, slots := 0, locals := 64 } s m ([.ref (ad 0 0), .int x] : List Value).toArray below meth c H locs (0) (0) (os_End D cA bs below s σ ad { frames := 2, cells := 0, slots := 0, locals := 64 } (pv σ ad (some (.int (nb2 σ (nb1 σ x 10) 40))))) (F0 m 14 ls []) := by
    intro n
    induction n with
    | zero => intro j a ls H locs h1 h2; exact absurd h2 (by omega)
    | succ n loop_ih =>
      intro j a ls H locs loop_j loop_n loop_i hV hl
      refine lv_iload hx hb d_RF_nextBusySecond_14 (lv_at hl 5 rfl) ?_
      refine lv_iload hx hb d_RF_nextBusySecond_16 (lv_at hl 4 rfl) ?_
      refine lv_icmp_ge (tgt := 48) hx hb d_RF_nextBusySecond_18 (by decide) (fun c_1 => ?_) (fun c_1 => ?_)
      · skip
        refine lv_aload_n hx hb d_RF_nextBusySecond_48 rfl (lv_at hl 0 rfl) ?_
        refine os_get (C := "RobotFaults") (T := F_RF) (N := 11) (ci := 0) (K := 0) (j := 4) (i := 0) (v := .ref (ad 6 0)) hx hb hts i_RF hown hK hV rfl rfl (by decide) (hA.n 0 (by decide)) (hts _ k_72) (congrArg (fun z => va_rf (Option.map (ad 6) z)) (hA.r 4 (by decide))) d_RF_nextBusySecond_49 ?_
        refine lv_astore_n (lv' := [(3, .ref (ad 6 0)), (0, .ref (ad 0 0)), (1, .int x), (2, .int a), (4, .int 10), (5, .int (nI j))]) hx hb d_RF_nextBusySecond_52 rfl hl (by decide) rfl (fun ls hl => ?_)
        refine lv_aload_n hx hb d_RF_nextBusySecond_53 rfl (lv_at hl 0 rfl) ?_
        refine os_alen (K := 6) (i := 0) (t0 := 6) (v := 40) hx hb hK hV rfl rfl (hA.n 6 (by decide)) (congrArg Int32.ofNat hA.l6) d_RF_nextBusySecond_54 ?_
        refine lv_istore (lv' := [(4, .int 40), (3, .ref (ad 6 0)), (0, .ref (ad 0 0)), (1, .int x), (2, .int a), (5, .int (nI j))]) hx hb d_RF_nextBusySecond_55 hl (by decide) rfl (fun ls hl => ?_)
        refine lv_iconst (v := 0) hx hb d_RF_nextBusySecond_57 (by decide) ?_
        refine lv_istore (lv' := [(5, .int 0), (4, .int 40), (3, .ref (ad 6 0)), (0, .ref (ad 0 0)), (1, .int x), (2, .int a)]) hx hb d_RF_nextBusySecond_58 hl (by decide) rfl (fun ls hl => ?_)
        have loop2 : ∀ (n j2 : Nat) (a2 : Int32) (ls : Array Slot) (H : Heap) (locs : List Loc), j2 ≤ 40 → 40 < j2 + n → a2 = nb2 σ (nb1 σ x j) j2 → os_V D cA bs σ ad s σ ad H locs → lv_has ls 7 [(0, .ref (ad 0 0)), (1, .int x), (2, .int a2), (3, .ref (ad 6 0)), (4, .int 40), (5, .int (nI j2))] → W p l e { frames := 2, cells := 0, slots := 0, locals := 64 } s m ([.ref (ad 0 0), .int x] : List Value).toArray below meth c H locs (0) (0) (os_End D cA bs below s σ ad { frames := 2, cells := 0, slots := 0, locals := 64 } (pv σ ad (some (.int (nb2 σ (nb1 σ x 10) 40))))) (F0 m 60 ls []) := by
          intro n
          induction n with
          | zero => intro j2 a2 ls H locs h1 h2; exact absurd h2 (by omega)
          | succ n loop2_ih =>
            intro j2 a2 ls H locs loop2_j loop2_n loop2_i hV hl
            refine lv_iload hx hb d_RF_nextBusySecond_60 (lv_at hl 5 rfl) ?_
            refine lv_iload hx hb d_RF_nextBusySecond_62 (lv_at hl 4 rfl) ?_
            refine lv_icmp_ge (tgt := 106) hx hb d_RF_nextBusySecond_64 (by decide) (fun c_2 => ?_) (fun c_2 => ?_)
            · skip
              refine lv_iload_n hx hb d_RF_nextBusySecond_106 rfl (lv_at hl 2 rfl) ?_
              refine os_iret hx hb hr hlocks hV (Nat.le_of_ble_eq_true rfl) (Nat.le_of_ble_eq_true rfl) d_RF_nextBusySecond_107 ?_
              have hj := eq_of_le c_1 loop_j
              have hj2 := eq_of_le c_2 loop2_j
              exact ⟨rfl, rfl, by rw [loop2_i, hj, hj2]⟩
            · skip
              refine lv_aload_n hx hb d_RF_nextBusySecond_67 rfl (lv_at hl 3 rfl) ?_
              refine lv_iload hx hb d_RF_nextBusySecond_68 (lv_at hl 5 rfl) ?_
              refine os_aaldN (K := 6) (i := 0) (t0 := 6) (n := j2) hx hb hK hV rfl rfl (hA.n 6 (by decide)) rfl (by rw [show os_l σ 6 0 = 40 from hA.l6]; exact (lt_of_nle c_2 loop2_j)) (by rw [show os_l σ 6 0 = 40 from hA.l6]; decide) d_RF_nextBusySecond_70 ?_
              by_cases u_3 : j2 < os_n σ 11
              · skip
                refine W.eq (g2 := F0 m 71 ls [.ref (ad 11 j2)]) (by rw [hL.1.at (lt_of_nle c_2 loop2_j) u_3]; rfl) ?_
                refine lv_astore (lv' := [(6, .ref (ad 11 j2)), (0, .ref (ad 0 0)), (1, .int x), (2, .int a2), (3, .ref (ad 6 0)), (4, .int 40), (5, .int (nI j2))]) hx hb d_RF_nextBusySecond_71 hl (by decide) rfl (fun ls hl => ?_)
                refine lv_aload hx hb d_RF_nextBusySecond_73 (lv_at hl 0 rfl) ?_
                refine lv_ifnull hx hb d_RF_nextBusySecond_75 ?_
                refine lv_aload hx hb d_RF_nextBusySecond_78 (lv_at hl 0 rfl) ?_
                refine os_call (c_Alarm_canRise l hlt D cA bs σ ad j2 hL u_3) hE hV k_659 k_14 (os_inV (C := "RobotFaults$Alarm") (n := 0) (bytes := prog_2_method_4_code) (maxL := 1) (ret := (some .boolean)) hx hb hown (hts _ k_656) (hts _ k_657) (hts _ k_658) (hts _ k_659) (by decide +kernel) rfl (os_recv hK hV rfl rfl u_3) rfl d_RF_nextBusySecond_80) (hl.1.trans hml.symm) (Nat.le_of_ble_eq_true rfl) (Nat.le_of_ble_eq_true rfl) (Nat.le_of_ble_eq_true rfl) (Nat.le_of_ble_eq_true rfl) (Nat.le_of_ble_eq_true rfl) (fun v σ1 ad1 H locs hp hext hV => ?_) (fun E q ce σ1 ad1 H locs hp hext hV hce hcv hcl => ?_)
                · obtain ⟨rfl, rfl, hp⟩ := hp
                  cases hp
                  refine W.eq (g2 := F0 m 83 ls [.int (bz (decide (os_g σ 11 6 j2 = -1) && fop σ (aL σ j2) && decide (os_g σ 11 4 j2 < 3)))]) rfl ?_
                  refine lv_if_eq (tgt := 100) hx hb d_RF_nextBusySecond_83 (by decide) (fun c_4 => ?_) (fun c_4 => ?_)
                  · skip
                    refine lv_iinc (v := nI (j2 + 1)) (lv' := [(5, .int (nI (j2 + 1))), (6, .ref (ad 11 j2)), (0, .ref (ad 0 0)), (1, .int x), (2, .int a2), (3, .ref (ad 6 0)), (4, .int 40)]) hx hb d_RF_nextBusySecond_100 hl (k := 6) rfl (nI_1 j2) (by decide) rfl (fun ls hl => ?_)
                    refine lv_goto (tgt := 60) hx hb d_RF_nextBusySecond_103 (by decide) ?_
                    exact loop2_ih (j2 + 1) a2 ls H locs (Nat.succ_le_of_lt (lt_of_nle c_2 loop2_j)) (by omega) (by rw [nb2, ← loop2_i]; exact (if_neg (fun h => bz_t c_4 h.2)).symm) hV (lv_sub hl [2, 3, 4, 5, 6, 0] rfl)
                  · skip
                    refine lv_iload_n hx hb d_RF_nextBusySecond_86 rfl (lv_at hl 3 rfl) ?_
                    refine lv_aload hx hb d_RF_nextBusySecond_87 (lv_at hl 0 rfl) ?_
                    refine lv_aload_n hx hb d_RF_nextBusySecond_89 rfl (lv_at hl 1 rfl) ?_
                    refine os_get (C := "RobotFaults") (T := F_RF) (N := 11) (ci := 0) (K := 0) (j := 10) (i := 0) (v := .int (os_g σ 0 10 0)) hx hb hts i_RF hown hK hV rfl rfl (by decide) (hA.n 0 (by decide)) (hts _ k_78) rfl d_RF_nextBusySecond_90 ?_
                    refine os_call (c_Alarm_nextRise l hlt D cA bs σ ad j2 (os_g σ 0 10 0) hL u_3) hE hV k_665 k_14 (os_inV (C := "RobotFaults$Alarm") (n := 1) (bytes := prog_2_method_6_code) (maxL := 3) (ret := (some .int)) hx hb hown (hts _ k_662) (hts _ k_663) (hts _ k_664) (hts _ k_665) (by decide +kernel) rfl (os_recv hK hV rfl rfl u_3) rfl d_RF_nextBusySecond_93) (hl.1.trans hml.symm) (Nat.le_of_ble_eq_true rfl) (Nat.le_of_ble_eq_true rfl) (Nat.le_of_ble_eq_true rfl) (Nat.le_of_ble_eq_true rfl) (Nat.le_of_ble_eq_true rfl) (fun v σ1 ad1 H locs hp hext hV => ?_) (fun E q ce σ1 ad1 H locs hp hext hV hce hcv hcl => ?_)
                    · obtain ⟨rfl, rfl, hp⟩ := hp
                      cases hp
                      refine W.eq (g2 := F0 m 96 ls [.int ((os_g σ 10 3 (aL σ j2)) + (((((os_g σ 0 10 0) - (os_g σ 10 3 (aL σ j2))) / 30) + 1) * 30)), .int a2]) rfl ?_
                      refine va_mmin hx hb (hml.trans hl.1.symm) hown (hts _ k_653) (hts _ k_654) (hts _ k_17) (hts _ k_655) (Nat.le_of_ble_eq_true rfl) (Nat.le_of_ble_eq_true rfl) (Nat.le_of_ble_eq_true rfl) (Nat.le_of_ble_eq_true rfl) d_RF_nextBusySecond_96 ?_
                      refine lv_istore_n (lv' := [(2, .int (if (os_g σ 10 3 (aL σ j2)) + (((((os_g σ 0 10 0) - (os_g σ 10 3 (aL σ j2))) / 30) + 1) * 30) < a2 then (os_g σ 10 3 (aL σ j2)) + (((((os_g σ 0 10 0) - (os_g σ 10 3 (aL σ j2))) / 30) + 1) * 30) else a2)), (6, .ref (ad 11 j2)), (0, .ref (ad 0 0)), (1, .int x), (3, .ref (ad 6 0)), (4, .int 40), (5, .int (nI j2))]) hx hb d_RF_nextBusySecond_99 rfl hl (by decide) rfl (fun ls hl => ?_)
                      refine lv_iinc (v := nI (j2 + 1)) (lv' := [(5, .int (nI (j2 + 1))), (2, .int (if (os_g σ 10 3 (aL σ j2)) + (((((os_g σ 0 10 0) - (os_g σ 10 3 (aL σ j2))) / 30) + 1) * 30) < a2 then (os_g σ 10 3 (aL σ j2)) + (((((os_g σ 0 10 0) - (os_g σ 10 3 (aL σ j2))) / 30) + 1) * 30) else a2)), (6, .ref (ad 11 j2)), (0, .ref (ad 0 0)), (1, .int x), (3, .ref (ad 6 0)), (4, .int 40)]) hx hb d_RF_nextBusySecond_100 hl (k := 6) rfl (nI_1 j2) (by decide) rfl (fun ls hl => ?_)
                      refine lv_goto (tgt := 60) hx hb d_RF_nextBusySecond_103 (by decide) ?_
                      exact loop2_ih (j2 + 1) (if (os_g σ 10 3 (aL σ j2)) + (((((os_g σ 0 10 0) - (os_g σ 10 3 (aL σ j2))) / 30) + 1) * 30) < a2 then (os_g σ 10 3 (aL σ j2)) + (((((os_g σ 0 10 0) - (os_g σ 10 3 (aL σ j2))) / 30) + 1) * 30) else a2) ls H locs (Nat.succ_le_of_lt (lt_of_nle c_2 loop2_j)) (by omega) (by rw [nb2, ← loop2_i]; exact (if_pos ⟨u_3, bz_1 c_4⟩).symm) hV (lv_sub hl [3, 4, 1, 5, 6, 0] rfl)
                    · exact absurd hp.2.2 (fun h => by cases h)
                · exact absurd hp.2.2 (fun h => by cases h)
              · skip
                refine W.eq (g2 := F0 m 71 ls [.null]) (by rw [hL.1.an (lt_of_nle c_2 loop2_j) u_3]; rfl) ?_
                refine lv_astoreN (lv' := [(6, .null), (0, .ref (ad 0 0)), (1, .int x), (2, .int a2), (3, .ref (ad 6 0)), (4, .int 40), (5, .int (nI j2))]) hx hb d_RF_nextBusySecond_71 hl (by decide) rfl (fun ls hl => ?_)
                refine lv_aloadN hx hb d_RF_nextBusySecond_73 (lv_at hl 0 rfl) ?_
                refine lv_ifnullN (tgt := 100) hx hb d_RF_nextBusySecond_75 (by decide) ?_
                refine lv_iinc (v := nI (j2 + 1)) (lv' := [(5, .int (nI (j2 + 1))), (6, .null), (0, .ref (ad 0 0)), (1, .int x), (2, .int a2), (3, .ref (ad 6 0)), (4, .int 40)]) hx hb d_RF_nextBusySecond_100 hl (k := 6) rfl (nI_1 j2) (by decide) rfl (fun ls hl => ?_)
                refine lv_goto (tgt := 60) hx hb d_RF_nextBusySecond_103 (by decide) ?_
                exact loop2_ih (j2 + 1) a2 ls H locs (Nat.succ_le_of_lt (lt_of_nle c_2 loop2_j)) (by omega) (by rw [nb2, ← loop2_i]; exact (if_neg (fun h => u_3 h.1)).symm) hV (lv_sub hl [2, 3, 4, 5, 6, 0] rfl)
        exact loop2 (40 + 1) 0 a ls _ _ (by omega) (by omega) loop_i hV (lv_sub hl [3, 4, 5, 2, 1, 0] rfl)
      · skip
        refine lv_aload_n hx hb d_RF_nextBusySecond_21 rfl (lv_at hl 3 rfl) ?_
        refine lv_iload hx hb d_RF_nextBusySecond_22 (lv_at hl 5 rfl) ?_
        refine os_aaldN (K := 7) (i := 0) (t0 := 7) (n := j) hx hb hK hV rfl rfl (hA.n 7 (by decide)) rfl (by rw [show os_l σ 7 0 = 10 from hA.l7]; exact (lt_of_nle c_1 loop_j)) (by rw [show os_l σ 7 0 = 10 from hA.l7]; decide) d_RF_nextBusySecond_24 ?_
        cases q_5 : os_r σ 7 j 0 with
        | none =>
          refine lv_astoreN (lv' := [(6, .null), (0, .ref (ad 0 0)), (1, .int x), (2, .int a), (3, .ref (ad 7 0)), (4, .int 10), (5, .int (nI j))]) hx hb d_RF_nextBusySecond_25 hl (by decide) rfl (fun ls hl => ?_)
          refine lv_aloadN hx hb d_RF_nextBusySecond_27 (lv_at hl 0 rfl) ?_
          refine lv_ifnullN (tgt := 42) hx hb d_RF_nextBusySecond_29 (by decide) ?_
          refine lv_iinc (v := nI (j + 1)) (lv' := [(5, .int (nI (j + 1))), (6, .null), (0, .ref (ad 0 0)), (1, .int x), (2, .int a), (3, .ref (ad 7 0)), (4, .int 10)]) hx hb d_RF_nextBusySecond_42 hl (k := 6) rfl (nI_1 j) (by decide) rfl (fun ls hl => ?_)
          refine lv_goto (tgt := 14) hx hb d_RF_nextBusySecond_45 (by decide) ?_
          exact loop_ih (j + 1) a ls H locs (Nat.succ_le_of_lt (lt_of_nle c_1 loop_j)) (by omega) (by rw [nb1, q_5]; exact loop_i) hV (lv_sub hl [2, 3, 4, 5, 6, 0] rfl)
        | some t_6 =>
          refine lv_astore (lv' := [(6, .ref (ad 12 t_6)), (0, .ref (ad 0 0)), (1, .int x), (2, .int a), (3, .ref (ad 7 0)), (4, .int 10), (5, .int (nI j))]) hx hb d_RF_nextBusySecond_25 hl (by decide) rfl (fun ls hl => ?_)
          refine lv_aload hx hb d_RF_nextBusySecond_27 (lv_at hl 0 rfl) ?_
          refine lv_ifnull hx hb d_RF_nextBusySecond_29 ?_
          refine lv_iload_n hx hb d_RF_nextBusySecond_32 rfl (lv_at hl 3 rfl) ?_
          refine lv_aload hx hb d_RF_nextBusySecond_33 (lv_at hl 0 rfl) ?_
          refine os_getN (C := "RobotFaults$Planted") (T := F_Planted) (N := 3) (ci := 6) (K := 12) (j := 2) (i := t_6) (v := .int (os_g σ 12 2 t_6)) hx hb hts i_Planted hown hK hV rfl rfl (by decide) (hV.1.2.2.1 7 0 (hA.n 7 (by decide)) j 12 _ rfl q_5) (hts _ k_631) rfl d_RF_nextBusySecond_35 ?_
          refine va_mmin hx hb (hml.trans hl.1.symm) hown (hts _ k_653) (hts _ k_654) (hts _ k_17) (hts _ k_655) (Nat.le_of_ble_eq_true rfl) (Nat.le_of_ble_eq_true rfl) (Nat.le_of_ble_eq_true rfl) (Nat.le_of_ble_eq_true rfl) d_RF_nextBusySecond_38 ?_
          refine lv_istore_n (lv' := [(2, .int (if os_g σ 12 2 t_6 < a then os_g σ 12 2 t_6 else a)), (6, .ref (ad 12 t_6)), (0, .ref (ad 0 0)), (1, .int x), (3, .ref (ad 7 0)), (4, .int 10), (5, .int (nI j))]) hx hb d_RF_nextBusySecond_41 rfl hl (by decide) rfl (fun ls hl => ?_)
          refine lv_iinc (v := nI (j + 1)) (lv' := [(5, .int (nI (j + 1))), (2, .int (if os_g σ 12 2 t_6 < a then os_g σ 12 2 t_6 else a)), (6, .ref (ad 12 t_6)), (0, .ref (ad 0 0)), (1, .int x), (3, .ref (ad 7 0)), (4, .int 10)]) hx hb d_RF_nextBusySecond_42 hl (k := 6) rfl (nI_1 j) (by decide) rfl (fun ls hl => ?_)
          refine lv_goto (tgt := 14) hx hb d_RF_nextBusySecond_45 (by decide) ?_
          exact loop_ih (j + 1) (if os_g σ 12 2 t_6 < a then os_g σ 12 2 t_6 else a) ls H locs (Nat.succ_le_of_lt (lt_of_nle c_1 loop_j)) (by omega) (by rw [nb1, q_5, ← loop_i]; rfl) hV (lv_sub hl [3, 4, 1, 5, 6, 0] rfl)
  exact loop (10 + 1) 0 x ls _ _ (by omega) (by omega) rfl hV (lv_sub hl [4, 5, 3, 2, 1, 0] rfl)
set_option maxHeartbeats 4000000 in
set_option maxRecDepth 100000 in
theorem c_RF_raiseAlarms (l : Launch) (hlt : l.stackTraces = false) (D : va_G) (cA : Nat → ClassId) (bs : Nat) (σ : os_S) (ad : Nat → Nat → Nat) (hA : rfA σ) (hL : rfL σ) : os_Met l y_RF_raiseAlarms prog_1_method_43_code 6 (some .int) { frames := 2, cells := 0, slots := 0, locals := 64 } D cA bs [.ref (ad 0 0)] σ ad (fun r σ' ad' => raS σ 40 = σ' ∧ ad = ad' ∧ r = .inl (some (.int (raC σ 40)))) := by
  refine os_ofW (by decide) ?_
  intro p e s m below meth c hx hb hr hml hown hlocks hmn hout hE hV
  have hts := hE.hts (args := ([.ref (ad 0 0)] : List Value).toArray)
  have hK := hE.2.1
  have hbs := hE.2.2.1
  have hown : s.vm.findClass "RobotFaults" = some m.cls := hown
  have hl := lv_entry ([.ref (ad 0 0)]) (n := 6) (Nat.le_of_ble_eq_true rfl)
  rw [lg_entry_eq]
  generalize (lg_sl ([.ref (ad 0 0)]) ++ List.replicate (6 - (lg_sl ([.ref (ad 0 0)])).length) Slot.unset).toArray = ls at hl ⊢
  have hl : lv_has ls 6 [(0, .ref (ad 0 0))] := hl
  refine lv_iconst (v := 0) hx hb d_RF_raiseAlarms_0 (by decide) ?_
  refine lv_istore_n (lv' := [(1, .int 0), (0, .ref (ad 0 0))]) hx hb d_RF_raiseAlarms_1 rfl hl (by decide) rfl (fun ls hl => ?_)
  refine lv_aload_n hx hb d_RF_raiseAlarms_2 rfl (lv_at hl 1 rfl) ?_
  refine os_get (C := "RobotFaults") (T := F_RF) (N := 11) (ci := 0) (K := 0) (j := 4) (i := 0) (v := .ref (ad 6 0)) hx hb hts i_RF hown hK hV rfl rfl (by decide) (hA.n 0 (by decide)) (hts _ k_72) (congrArg (fun z => va_rf (Option.map (ad 6) z)) (hA.r 4 (by decide))) d_RF_raiseAlarms_3 ?_
  refine lv_astore_n (lv' := [(2, .ref (ad 6 0)), (1, .int 0), (0, .ref (ad 0 0))]) hx hb d_RF_raiseAlarms_6 rfl hl (by decide) rfl (fun ls hl => ?_)
  refine lv_aload_n hx hb d_RF_raiseAlarms_7 rfl (lv_at hl 0 rfl) ?_
  refine os_alen (K := 6) (i := 0) (t0 := 6) (v := 40) hx hb hK hV rfl rfl (hA.n 6 (by decide)) (congrArg Int32.ofNat hA.l6) d_RF_raiseAlarms_8 ?_
  refine lv_istore_n (lv' := [(3, .int 40), (2, .ref (ad 6 0)), (1, .int 0), (0, .ref (ad 0 0))]) hx hb d_RF_raiseAlarms_9 rfl hl (by decide) rfl (fun ls hl => ?_)
  refine lv_iconst (v := 0) hx hb d_RF_raiseAlarms_10 (by decide) ?_
  refine lv_istore (lv' := [(4, .int 0), (3, .int 40), (2, .ref (ad 6 0)), (1, .int 0), (0, .ref (ad 0 0))]) hx hb d_RF_raiseAlarms_11 hl (by decide) rfl (fun ls hl => ?_)
  have loop : ∀ (n j : Nat) (a : Int32) (τ : os_S)  (ls : Array Slot) (H : Heap) (locs : List Loc), j ≤ 40 → 40 < j + n → a = raC σ j → raS σ j = τ → os_V D cA bs σ ad s τ ad H locs → lv_has ls 6 [(0, .ref (ad 0 0)), (1, .int a), (2, .ref (ad 6 0)), (3, .int 40), (4, .int (nI j))] → W p l e { frames := 2, cells := 0, slots := 0, locals := 64 } s m ([.ref (ad 0 0)] : List Value).toArray below meth c H locs (0) (0) (os_End D cA bs below s σ ad { frames := 2, cells := 0, slots := 0, locals := 64 } (fun r σ' ad' => raS σ 40 = σ' ∧ ad = ad' ∧ r = .inl (some (.int (raC σ 40))))) (F0 m 13 ls []) := by
    intro n
    induction n with
    | zero => intro j a τ  ls H locs h1 h2; exact absurd h2 (by omega)
    | succ n loop_ih =>
      intro j a τ  ls H locs loop_j loop_n loop_i loop_s hV hl
      have hr_1 : 0 < os_n τ 0 := Nat.lt_of_lt_of_le (hA.n 0 (by decide)) (hV.2.1.1 0)
      have hr_2 : 0 < os_n τ 6 := Nat.lt_of_lt_of_le (hA.n 6 (by decide)) (hV.2.1.1 6)
      have hA : rfA τ := (by rw [← loop_s]; exact raS_A hA j)
      have hL : rfL τ := (by rw [← loop_s]; exact raS_L hL j)
      refine lv_iload hx hb d_RF_raiseAlarms_13 (lv_at hl 4 rfl) ?_
      refine lv_iload_n hx hb d_RF_raiseAlarms_15 rfl (lv_at hl 3 rfl) ?_
      refine lv_icmp_ge (tgt := 70) hx hb d_RF_raiseAlarms_16 (by decide) (fun c_3 => ?_) (fun c_3 => ?_)
      · skip
        refine lv_iload_n hx hb d_RF_raiseAlarms_70 rfl (lv_at hl 1 rfl) ?_
        refine os_iret hx hb hr hlocks hV (Nat.le_of_ble_eq_true rfl) (Nat.le_of_ble_eq_true rfl) d_RF_raiseAlarms_71 ?_
        have hj := eq_of_le c_3 loop_j
        subst hj
        exact ⟨loop_s, rfl, by rw [loop_i]⟩
      · skip
        refine lv_aload_n hx hb d_RF_raiseAlarms_19 rfl (lv_at hl 2 rfl) ?_
        refine lv_iload hx hb d_RF_raiseAlarms_20 (lv_at hl 4 rfl) ?_
        refine os_aaldN (K := 6) (i := 0) (t0 := 6) (n := j) hx hb hK hV rfl rfl hr_2 rfl (by rw [show os_l τ 6 0 = 40 from hA.l6]; exact (lt_of_nle c_3 loop_j)) (by rw [show os_l τ 6 0 = 40 from hA.l6]; decide) d_RF_raiseAlarms_22 ?_
        by_cases u_4 : j < os_n τ 11
        · skip
          refine W.eq (g2 := F0 m 23 ls [.ref (ad 11 j)]) (by rw [hL.1.at (lt_of_nle c_3 loop_j) u_4]; rfl) ?_
          refine lv_astore (lv' := [(5, .ref (ad 11 j)), (0, .ref (ad 0 0)), (1, .int a), (2, .ref (ad 6 0)), (3, .int 40), (4, .int (nI j))]) hx hb d_RF_raiseAlarms_23 hl (by decide) rfl (fun ls hl => ?_)
          refine lv_aload hx hb d_RF_raiseAlarms_25 (lv_at hl 0 rfl) ?_
          refine lv_ifnull hx hb d_RF_raiseAlarms_27 ?_
          refine lv_aload hx hb d_RF_raiseAlarms_30 (lv_at hl 0 rfl) ?_
          refine os_call (c_Alarm_canRise l hlt D cA bs τ ad j hL u_4) hE hV k_659 k_14 (os_inV (C := "RobotFaults$Alarm") (n := 0) (bytes := prog_2_method_4_code) (maxL := 1) (ret := (some .boolean)) hx hb hown (hts _ k_656) (hts _ k_657) (hts _ k_658) (hts _ k_659) (by decide +kernel) rfl (os_recv hK hV rfl rfl u_4) rfl d_RF_raiseAlarms_32) (hl.1.trans hml.symm) (Nat.le_of_ble_eq_true rfl) (Nat.le_of_ble_eq_true rfl) (Nat.le_of_ble_eq_true rfl) (Nat.le_of_ble_eq_true rfl) (Nat.le_of_ble_eq_true rfl) (fun v σ1 ad1 H locs hp hext hV => ?_) (fun E q ce σ1 ad1 H locs hp hext hV hce hcv hcl => ?_)
          · obtain ⟨rfl, rfl, hp⟩ := hp
            cases hp
            refine W.eq (g2 := F0 m 35 ls [.int (bz (decide (os_g τ 11 6 j = -1) && fop τ (aL τ j) && decide (os_g τ 11 4 j < 3)))]) rfl ?_
            refine lv_if_eq (tgt := 64) hx hb d_RF_raiseAlarms_35 (by decide) (fun c_5 => ?_) (fun c_5 => ?_)
            · skip
              refine lv_iinc (v := nI (j + 1)) (lv' := [(4, .int (nI (j + 1))), (5, .ref (ad 11 j)), (0, .ref (ad 0 0)), (1, .int a), (2, .ref (ad 6 0)), (3, .int 40)]) hx hb d_RF_raiseAlarms_64 hl (k := 5) rfl (nI_1 j) (by decide) rfl (fun ls hl => ?_)
              refine lv_goto (tgt := 13) hx hb d_RF_raiseAlarms_67 (by decide) ?_
              exact loop_ih (j + 1) a _  ls H locs (Nat.succ_le_of_lt (lt_of_nle c_3 loop_j)) (by omega) (by rw [raC, if_neg (fun h => bz_t c_5 (by rw [← loop_s]; exact h.2.1)), loop_i]) (by rw [raS, if_neg (fun h => bz_t c_5 (by rw [← loop_s]; exact h.2.1)), loop_s]) hV (lv_sub hl [2, 3, 4, 5, 0] rfl)
            · skip
              refine lv_aload hx hb d_RF_raiseAlarms_38 (lv_at hl 0 rfl) ?_
              refine lv_aload_n hx hb d_RF_raiseAlarms_40 rfl (lv_at hl 1 rfl) ?_
              refine os_get (C := "RobotFaults") (T := F_RF) (N := 11) (ci := 0) (K := 0) (j := 10) (i := 0) (v := .int (os_g τ 0 10 0)) hx hb hts i_RF hown hK hV rfl rfl (by decide) hr_1 (hts _ k_78) rfl d_RF_raiseAlarms_41 ?_
              refine os_call (c_Alarm_isRiseSecond l hlt D cA bs τ ad j (os_g τ 0 10 0) hL u_4) hE hV k_681 k_14 (os_inV (C := "RobotFaults$Alarm") (n := 1) (bytes := prog_2_method_5_code) (maxL := 2) (ret := (some .boolean)) hx hb hown (hts _ k_678) (hts _ k_679) (hts _ k_680) (hts _ k_681) (by decide +kernel) rfl (os_recv hK hV rfl rfl u_4) rfl d_RF_raiseAlarms_44) (hl.1.trans hml.symm) (Nat.le_of_ble_eq_true rfl) (Nat.le_of_ble_eq_true rfl) (Nat.le_of_ble_eq_true rfl) (Nat.le_of_ble_eq_true rfl) (Nat.le_of_ble_eq_true rfl) (fun v σ1 ad1 H locs hp hext hV => ?_) (fun E q ce σ1 ad1 H locs hp hext hV hce hcv hcl => ?_)
              · obtain ⟨rfl, rfl, hp⟩ := hp
                cases hp
                refine W.eq (g2 := F0 m 47 ls [.int (bz (decide (¬ (os_g τ 0 10 0) ≤ os_g τ 10 3 (aL τ j)) && decide (((os_g τ 0 10 0) - os_g τ 10 3 (aL τ j)) - ((os_g τ 0 10 0) - os_g τ 10 3 (aL τ j)) / 30 * 30 = 0)))]) rfl ?_
                refine lv_if_eq (tgt := 64) hx hb d_RF_raiseAlarms_47 (by decide) (fun c_6 => ?_) (fun c_6 => ?_)
                · skip
                  refine lv_iinc (v := nI (j + 1)) (lv' := [(4, .int (nI (j + 1))), (5, .ref (ad 11 j)), (0, .ref (ad 0 0)), (1, .int a), (2, .ref (ad 6 0)), (3, .int 40)]) hx hb d_RF_raiseAlarms_64 hl (k := 5) rfl (nI_1 j) (by decide) rfl (fun ls hl => ?_)
                  refine lv_goto (tgt := 13) hx hb d_RF_raiseAlarms_67 (by decide) ?_
                  exact loop_ih (j + 1) a _  ls H locs (Nat.succ_le_of_lt (lt_of_nle c_3 loop_j)) (by omega) (by rw [raC, if_neg (fun h => bz_t c_6 (by rw [← loop_s]; exact h.2.2)), loop_i]) (by rw [raS, if_neg (fun h => bz_t c_6 (by rw [← loop_s]; exact h.2.2)), loop_s]) hV (lv_sub hl [2, 3, 4, 5, 0] rfl)
                · skip
                  refine lv_aload hx hb d_RF_raiseAlarms_50 (lv_at hl 0 rfl) ?_
                  refine lv_dup hx hb d_RF_raiseAlarms_52 rfl ?_
                  refine os_getN (C := "RobotFaults$Alarm") (T := F_Alarm) (N := 8) (ci := 5) (K := 11) (j := 4) (i := j) (v := .int (os_g τ 11 4 j)) hx hb hts i_Alarm hown hK hV rfl rfl (by decide) u_4 (hts _ k_490) rfl d_RF_raiseAlarms_53 ?_
                  refine lv_iconst (v := 1) hx hb d_RF_raiseAlarms_56 (by decide) ?_
                  refine lv_iadd hx hb d_RF_raiseAlarms_57 ?_
                  refine os_putIN (C := "RobotFaults$Alarm") (T := F_Alarm) (N := 8) (ci := 5) (K := 11) (j := 4) (i := j) (v := (os_g τ 11 4 j) + 1) (ty := .int) hx hb hts i_Alarm t_Alarm t_Alarm_ok n_Alarm hown hK hV rfl rfl (by decide) u_4 (hts _ k_490) rfl rfl rfl (by decide +kernel) rfl rfl d_RF_raiseAlarms_58 (fun H locs hV => ?_)
                  refine lv_iinc (v := a + 1) (lv' := [(1, .int (a + 1)), (5, .ref (ad 11 j)), (0, .ref (ad 0 0)), (2, .ref (ad 6 0)), (3, .int 40), (4, .int (nI j))]) hx hb d_RF_raiseAlarms_61 hl (k := 2) rfl rfl (by decide) rfl (fun ls hl => ?_)
                  refine lv_iinc (v := nI (j + 1)) (lv' := [(4, .int (nI (j + 1))), (1, .int (a + 1)), (5, .ref (ad 11 j)), (0, .ref (ad 0 0)), (2, .ref (ad 6 0)), (3, .int 40)]) hx hb d_RF_raiseAlarms_64 hl (k := 5) rfl (nI_1 j) (by decide) rfl (fun ls hl => ?_)
                  refine lv_goto (tgt := 13) hx hb d_RF_raiseAlarms_67 (by decide) ?_
                  exact loop_ih (j + 1) (a + 1) _  ls H locs (Nat.succ_le_of_lt (lt_of_nle c_3 loop_j)) (by omega) (by rw [raC, if_pos ⟨by rw [← raS_n j, loop_s]; exact u_4, by rw [loop_s]; exact bz_1 c_5, by rw [loop_s]; exact bz_1 c_6⟩, loop_i]) (by rw [raS, if_pos ⟨by rw [← raS_n j, loop_s]; exact u_4, by rw [loop_s]; exact bz_1 c_5, by rw [loop_s]; exact bz_1 c_6⟩, loop_s]) hV (lv_sub hl [3, 1, 4, 5, 0] rfl)
              · exact absurd hp.2.2 (fun h => by cases h)
          · exact absurd hp.2.2 (fun h => by cases h)
        · skip
          refine W.eq (g2 := F0 m 23 ls [.null]) (by rw [hL.1.an (lt_of_nle c_3 loop_j) u_4]; rfl) ?_
          refine lv_astoreN (lv' := [(5, .null), (0, .ref (ad 0 0)), (1, .int a), (2, .ref (ad 6 0)), (3, .int 40), (4, .int (nI j))]) hx hb d_RF_raiseAlarms_23 hl (by decide) rfl (fun ls hl => ?_)
          refine lv_aloadN hx hb d_RF_raiseAlarms_25 (lv_at hl 0 rfl) ?_
          refine lv_ifnullN (tgt := 64) hx hb d_RF_raiseAlarms_27 (by decide) ?_
          refine lv_iinc (v := nI (j + 1)) (lv' := [(4, .int (nI (j + 1))), (5, .null), (0, .ref (ad 0 0)), (1, .int a), (2, .ref (ad 6 0)), (3, .int 40)]) hx hb d_RF_raiseAlarms_64 hl (k := 5) rfl (nI_1 j) (by decide) rfl (fun ls hl => ?_)
          refine lv_goto (tgt := 13) hx hb d_RF_raiseAlarms_67 (by decide) ?_
          exact loop_ih (j + 1) a _  ls H locs (Nat.succ_le_of_lt (lt_of_nle c_3 loop_j)) (by omega) (by rw [raC, if_neg (fun h => u_4 (by rw [← loop_s, raS_n]; exact h.1)), loop_i]) (by rw [raS, if_neg (fun h => u_4 (by rw [← loop_s, raS_n]; exact h.1)), loop_s]) hV (lv_sub hl [2, 3, 4, 5, 0] rfl)
  exact loop (40 + 1) 0 0 _  ls _ _ (by omega) (by omega) rfl rfl hV (lv_sub hl [4, 3, 2, 1, 0] rfl)
