/-! ROWS THAT MAKE: objects, arrays, exceptions -/
section OSM
variable {p : Program} {l : Launch} {e : Env} {R : Room} {s : State} {m : MethodId} {args : Array Value} {below : List Frame} {meth : Method} {c : Code} {H : Heap} {locs : List Loc} {cells slots : Nat} {Q : State → Prop}
variable {cc : ByteArray} {pc : Nat} {ls : Array Slot} {rest st0 : List Value} {D : va_G} {cA : Nat → ClassId} {bs : Nat} {σ σ0 : os_S} {ad ad0 : Nat → Nat → Nat} {tys : List (ClassId × FieldType)}
variable {rm : Room} {Post : os_O → os_S → (Nat → Nat → Nat) → Prop}
def os_df (K k : Nat) : Value := match os_tg K k with
  | none => if os_lg K = true then .long 0 else .int 0
  | some _ => .null
theorem os_fv_nw {K L k : Nat} {ad' : Nat → Nat → Nat} : os_fv (os_nw σ K L) ad' K (os_n σ K) k = os_df K k := by
  unfold os_fv os_df
  cases os_tg K k with
  | none =>
    have he : os_g (os_nw σ K L) K k (os_n σ K) = 0 := by rw [os_g_nw, if_pos ⟨rfl, rfl⟩]
    show (if os_lg K = true then Value.long (os_g (os_nw σ K L) K k (os_n σ K)).toInt64 else .int (os_g (os_nw σ K L) K k (os_n σ K))) = _
    rw [he]
    rfl
  | some t =>
    show va_rf ((os_r (os_nw σ K L) K k (os_n σ K)).map (ad' t)) = _
    rw [os_r_nw, if_pos ⟨rfl, rfl⟩]
    rfl
theorem os_V.nw {K L : Nat} {H1 : Heap} (hV : os_V D cA bs σ0 ad0 s σ ad H locs) (hbs : bs ≤ s.heap.size) (hat : os_at D cA (os_nw σ K L) (os_ad ad K (os_n σ K) H.size) H1 K (os_n σ K)) (z1 : H1.size = H.size + 1) (o1 : ∀ q : Nat, q < H.size → H1[q]? = H[q]?) : os_V D cA bs σ0 ad0 s (os_nw σ K L) (os_ad ad K (os_n σ K) H.size) H1 locs :=
  ⟨hV.1.nw (Nat.le_trans hbs hV.2.2.1) hat o1, hV.2.1.trans os_ext.nw hV.2.2.1, Nat.le_trans hV.2.2.1 (by omega), fun x h1 h2 => (o1 x (Nat.lt_of_lt_of_le h1 hV.2.2.1)).trans (hV.2.2.2.1 x h1 h2), hV.2.2.2.2⟩
theorem os_new (hx : p.tables.exec = Jvm.exec) (hb : c.code = cc) {own C : String} {T : u_T} {N ci index K : Nat} {fds : List (Option Nat)} {Ts : List Cond} (hts : ∀ w ∈ Ts, w.before args s = true) (hin : ∀ w ∈ u_ws C T N, w ∈ Ts) (ty0 : Nat → FieldType) (hty : ∀ k, k < N → parseFieldDescriptor (T k).2.2.1 = some (ty0 k)) (hown : s.vm.findClass own = some m.cls)
    (hcl : (Cond.classLink own index C).before args s = true) (hinst : (Cond.instantiable C N).before args s = true) (hini : (Cond.initialized C).before args s = true) (hK : va_K D os_cl tys s) (hbs : bs ≤ s.heap.size) (hV : os_V D cA bs σ0 ad0 s σ ad H locs)
    (hs : os_sc K = .inl (ci, fds)) (hc : os_cl[ci]? = some (C, T, N)) (hdf : ∀ k, k < N → defaultValue (ty0 k) = os_df K k) (hcells : cells + 1 ≤ R.cells) (hslots : slots + N ≤ R.slots) (hdg : decode cc pc = .ok (.new index, 3))
    (kk : ∀ (ad' : Nat → Nat → Nat) (H1 : Heap), os_V D cA bs σ0 ad0 s (os_nw σ K 0) ad' H1 locs → (∀ K' i, i < os_n σ K' → ad' K' i = ad K' i) → W p l e R s m args below meth c H1 locs (cells + 1) (slots + N) Q (F0 m (pc + 3) ls (.ref (ad' K (os_n σ K)) :: rest))) : W p l e R s m args below meth c H locs cells slots Q (F0 m pc ls rest) := by
  have hKn := hK.1 ci _ hc
  refine W.newcK hx hb hown hcl hinst hini rfl hdg hcells hslots hKn.2.1 rfl fun H1 kC hkC e1 z1 o1 => ?_
  have hat : os_at D cA (os_nw σ K 0) (os_ad ad K (os_n σ K) H.size) H1 K (os_n σ K) := by
    unfold os_at
    rw [hs]
    refine ⟨_, hc, ?_⟩
    rw [os_ad_eq, if_pos ⟨rfl, rfl⟩]
    exact (u_born ty0 hts hin hKn hkC e1 hty).to (fun k hk => (hdf k hk).trans os_fv_nw.symm)
  have hk := kk _ H1 (hV.nw hbs hat z1 o1) (fun K' i hi => (os_ext.nw (σ := σ) (ad := ad) (K := K) (L := 0) (sz := H.size)).2.1 K' i hi)
  rw [os_ad_eq, if_pos ⟨rfl, rfl⟩] at hk
  exact hk
theorem os_newi (hx : p.tables.exec = Jvm.exec) (hb : c.code = cc) {atype : ArrayType} {ty : FieldType} {K t t0 : Nat} {n : Int32} {N' : Nat} (hat : newarray.typeOf atype = ty) (harr : (Cond.arrayClass ty).before args s = true) (hra : ∀ (U : State) (c9 : ClassId), va_RA U c9 ty = (U.vm.findClass ("[" ++ ty.toString) = some c9)) (hK : va_K D os_cl tys s) (hbs : bs ≤ s.heap.size) (hV : os_V D cA bs σ0 ad0 s σ ad H locs) (hs : os_sc K = .inr (t, none)) (ht : tys[t0]? = some (cA t, ty)) (hdf : ∀ k, defaultValue ty = os_df K k)
    (hn : ¬ n < 0) (hN : n.toNatClampNeg = N') (hbytes : N' * componentBytes ty ≤ 536870912) (hcells : cells + 1 ≤ R.cells) (hslots : slots + N' ≤ R.slots) (hdg : decode cc pc = .ok (.newarray atype, 2))
    (kk : ∀ (ad' : Nat → Nat → Nat) (H1 : Heap), os_V D cA bs σ0 ad0 s (os_nw σ K N') ad' H1 locs → (∀ K' i, i < os_n σ K' → ad' K' i = ad K' i) → W p l e R s m args below meth c H1 locs (cells + 1) (slots + N') Q (F0 m (pc + 2) ls (.ref (ad' K (os_n σ K)) :: rest))) : W p l e R s m args below meth c H locs cells slots Q (F0 m pc ls (.int n :: rest)) := by
  subst hat
  refine va_newaK hx hb harr rfl hdg rfl hn hN hbytes hcells hslots rfl fun H1 cI e1 z1 o1 hAr hNm => ?_
  have hcI : cI = cA t := by
    have h9 := (hK.2 t0 _ ht).2
    rw [hra] at h9
    exact Option.some.inj (hNm.symm.trans h9)
  have hat2 : os_at D cA (os_nw σ K N') (os_ad ad K (os_n σ K) H.size) H1 K (os_n σ K) := by
    unfold os_at
    rw [hs]
    show H1[os_ad ad K (os_n σ K) H.size K (os_n σ K)]? = some (arrV (cA t) (os_l (os_nw σ K N') K (os_n σ K)) (os_fv (os_nw σ K N') (os_ad ad K (os_n σ K) H.size) K (os_n σ K)))
    rw [os_ad_eq, if_pos ⟨rfl, rfl⟩, e1, hcI, os_l_nw, if_pos ⟨rfl, rfl⟩]
    congr 2
    funext k
    rw [os_fv_nw, hdf k]
  have hk := kk _ H1 (hV.nw hbs hat2 z1 o1) (fun K' i hi => (os_ext.nw (σ := σ) (ad := ad) (K := K) (L := N') (sz := H.size)).2.1 K' i hi)
  rw [os_ad_eq, if_pos ⟨rfl, rfl⟩] at hk
  exact hk
theorem os_newq (hx : p.tables.exec = Jvm.exec) (hb : c.code = cc) {own C : String} {index K t t0 kt : Nat} {n : Int32} {N' : Nat} (hown : s.vm.findClass own = some m.cls) (hclink : (Cond.classLink own index C).before args s = true) (hover : (Cond.arrayOver (.object C)).before args s = true) (hK : va_K D os_cl tys s) (hbs : bs ≤ s.heap.size) (hV : os_V D cA bs σ0 ad0 s σ ad H locs) (hs : os_sc K = .inr (t, some kt)) (ht : tys[t0]? = some (cA t, .object C))
    (hn : ¬ n < 0) (hN : n.toNatClampNeg = N') (hbytes : N' * 4 ≤ 536870912) (hcells : cells + 1 ≤ R.cells) (hslots : slots + N' ≤ R.slots) (hdg : decode cc pc = .ok (.anewarray index, 3))
    (kk : ∀ (ad' : Nat → Nat → Nat) (H1 : Heap), os_V D cA bs σ0 ad0 s (os_nw σ K N') ad' H1 locs → (∀ K' i, i < os_n σ K' → ad' K' i = ad K' i) → W p l e R s m args below meth c H1 locs (cells + 1) (slots + N') Q (F0 m (pc + 3) ls (.ref (ad' K (os_n σ K)) :: rest))) : W p l e R s m args below meth c H locs cells slots Q (F0 m pc ls (.int n :: rest)) := by
  subst hN
  refine W.anew hx hb hown hclink hover rfl hdg rfl hn hbytes hcells hslots fun cI kA comp f1 f2 f3 f4 => ?_
  generalize hH1 : H.push ({ cls := cI, slots := Array.replicate n.toNatClampNeg .null, vm := .none } : Cell) = H1
  have z1 : H1.size = H.size + 1 := by rw [← hH1, Array.size_push]
  have e1 : H1[H.size]? = some (arrV cI n.toNatClampNeg (fun _ => .null)) := by rw [← hH1, Array.getElem?_push_size, ← arrV_new]
  have o1 : ∀ q : Nat, q < H.size → H1[q]? = H[q]? := fun q hq => by rw [← hH1, Array.getElem?_push, if_neg (Nat.ne_of_lt hq)]
  have hcI : cI = cA t := by
    obtain ⟨_, _, _, _, _, h9⟩ := (hK.2 t0 _ ht).2
    exact Option.some.inj (f1.symm.trans h9)
  have hat2 : os_at D cA (os_nw σ K n.toNatClampNeg) (os_ad ad K (os_n σ K) H.size) H1 K (os_n σ K) := by
    unfold os_at
    rw [hs]
    show H1[os_ad ad K (os_n σ K) H.size K (os_n σ K)]? = some (arrV (cA t) (os_l (os_nw σ K n.toNatClampNeg) K (os_n σ K)) (os_fv (os_nw σ K n.toNatClampNeg) (os_ad ad K (os_n σ K) H.size) K (os_n σ K)))
    rw [os_ad_eq, if_pos ⟨rfl, rfl⟩, e1, hcI, os_l_nw, if_pos ⟨rfl, rfl⟩]
    congr 2
    funext k
    rw [os_fv_nw]
    unfold os_df os_tg
    rw [hs]
  have hk := kk _ H1 (hV.nw hbs hat2 z1 o1) (fun K' i hi => (os_ext.nw (σ := σ) (ad := ad) (K := K) (L := n.toNatClampNeg) (sz := H.size)).2.1 K' i hi)
  rw [os_ad_eq, if_pos ⟨rfl, rfl⟩] at hk
  exact hk
/-- the words of a throw but the four that speak of the heap -/
def os_no (w : Cond) : Bool := decide (w ≠ .isRef (.static Bundle.tN "UNASSIGNED_STACK" Bundle.steD)) && decide (w ≠ .isRef (.static Bundle.tN "SUPPRESSED_SENTINEL" Bundle.listD)) && decide (w ≠ .laysStatic Bundle.tN "UNASSIGNED_STACK" Bundle.steD) && decide (w ≠ .laysStatic Bundle.tN "SUPPRESSED_SENTINEL" Bundle.listD)
theorem os_own {args : Array Value} {s : State} {D : va_G} {cA : Nat → ClassId} {bs : Nat} {L : List Cond} (hE : os_EV D cA bs s) (h1 : ∀ w ∈ L.filter os_no, w ∈ os_tb) : ∀ w ∈ L, w.before args s = true := by
  intro w hw
  by_cases e1 : w = .isRef (.static Bundle.tN "UNASSIGNED_STACK" Bundle.steD)
  · rw [e1]; exact hE.2.2.2.1.isRef
  · by_cases e2 : w = .isRef (.static Bundle.tN "SUPPRESSED_SENTINEL" Bundle.listD)
    · rw [e2]; exact hE.2.2.2.2.1.isRef
    · by_cases e3 : w = .laysStatic Bundle.tN "UNASSIGNED_STACK" Bundle.steD
      · rw [e3]; exact hE.2.2.2.1.lays
      · by_cases e4 : w = .laysStatic Bundle.tN "SUPPRESSED_SENTINEL" Bundle.listD
        · rw [e4]; exact hE.2.2.2.2.1.lays
        · exact hE.hts w (h1 w (List.mem_filter.mpr ⟨hw, by unfold os_no; rw [decide_eq_true e1, decide_eq_true e2, decide_eq_true e3, decide_eq_true e4]; rfl⟩))
/-- the frame as if its method were called anew in this heap -/
theorem os_rebase {T : State} (X : Stand p l e R s m args below meth c T locs cells slots) {R' : Room} (hf : R'.frames ≤ R.frames) (hl : R'.locals ≤ R.locals) (hc : cells + R'.cells ≤ R.cells) (hs : slots + R'.slots ≤ R.slots) :
    Stand p l e R' ((T.setVm s.vm).setFrames (.invoking m args :: below)) m args below meth c T [] 0 0 := by
  have htop : (T.setVm s.vm).topJava?.isSome := X.here.top
  have hF : ((T.setVm s.vm).setFrames (.invoking m args :: below)).frames = .invoking m args :: below := State.frames_setFrames _ (State.cur_lt_of_top htop)
  obtain ⟨g₀, hg0⟩ := Option.isSome_iff_exists.mp htop
  obtain ⟨r, hr⟩ := State.topJava?_eq_some.mp hg0
  obtain ⟨th, ht, -⟩ := State.frames_cons hr
  have hdrop : ((T.heap.toList.drop T.heap.size).map (·.slots.size)).sum = 0 := by
    rw [List.drop_eq_nil_of_le (Nat.le_of_eq Array.length_toList)]
    rfl
  refine ⟨X.admits, X.cas, X.clock, hF, ?_, X.hears, X.method, X.code, X.here, X.tail, X.warmed, ?_, ?_, ?_, Nat.le_refl _, Nat.le_refl _, ?_, ?_, fun a c9 h9 => ⟨c9, h9, rfl, rfl, fun _ _ => rfl⟩⟩
  · have h := X.room
    have hU : ((T.setVm s.vm).setFrames (.invoking m args :: below)).localsInUse = s.localsInUse := by
      rw [State.localsInUse_invoking hF (meth := meth) (c := c) X.method X.code, State.localsInUse_invoking X.frames X.method X.code]
    have hl9 : e.platform.stackLimits (T.setVm s.vm).me = e.platform.stackLimits s.me := X.limits
    have hb9 : (T.setVm s.vm).me.stackBytes = s.me.stackBytes := X.bytes
    have q1 := X.heapSize
    have q2 := X.used
    simp only [State.hasRoom, Bool.and_eq_true, decide_eq_true_eq] at h ⊢
    obtain ⟨⟨⟨⟨h1, h2, h3, h4, h5, h6⟩, h7⟩, h8⟩, h9⟩ := h
    rw [X.frames, List.length_cons] at h2 h3
    simp only [hF, hU, List.length_cons, State.stackLimits_setFrames, State.stackBytes_setFrames, hl9, hb9]
    refine ⟨⟨⟨⟨by omega, by omega, by omega, by omega, by omega, h6⟩, ?_⟩, ?_⟩, X.book⟩
    · show T.heap.size + R'.cells ≤ e.platform.maxCells
      omega
    · show T.slotsUsed + R'.slots ≤ e.platform.maxSlots
      omega
  · rw [State.stackLimits_setFrames]; exact X.limits.trans X.limits.symm
  · rw [State.stackBytes_setFrames]; rfl
  · show T.setVm s.vm = { ((T.setVm s.vm).setFrames (.invoking m args :: below)).setFrames (T.setVm s.vm).frames with heap := T.heap, slotsUsed := T.slotsUsed }
    rw [State.setFrames_setFrames, State.setFrames_self ht]
    rfl
  · show T.slotsUsed = T.slotsUsed + ((T.heap.toList.drop T.heap.size).map (·.slots.size)).sum
    rw [hdrop]; rfl
  · show ((T.heap.toList.drop T.heap.size).map (·.slots.size)).sum ≤ 0
    rw [hdrop]; exact Nat.le_refl _
/-- 'throw new E("text")': new; dup; ldc; invokespecial; athrow, in a body without handlers; w is 2, with a wide index 3 -/
theorem os_throw {own cls text : String} {names : List String} {ik is ic : Nat} (hx : p.tables.exec = Jvm.exec) (hb : c.code = cc) (hl : l.stackTraces = false) (hown : s.vm.findClass own = some m.cls) (hcls : Bundle.fit cls = true) (hnames : ∀ n ∈ names, Bundle.fit n = true)
    (hE : os_EV D cA bs s) (hV : os_V D cA bs σ0 ad0 s σ ad H locs) (hk : Cond.classLink own ik cls ∈ os_tb) (hini : Cond.initialized cls ∈ os_tb) (hstr : (own, is, text) ∈ os_str) (hat : ∀ w ∈ (Bundle.ownAtoms own ic cls names).filter os_no, w ∈ os_tb)
    (hsize : ls.size = c.maxLocals) (d0 : decode cc pc = .ok (.new ik, 3)) (d3 : decode cc (pc + 3) = .ok (.dup, 1)) (d4 : decode cc (pc + 4) = .ok (.ldc is, 2)) (d6 : decode cc (pc + 6) = .ok (.invokespecial ic, 3)) (d9 : decode cc (pc + 9) = .ok (.athrow, 1))
    (hout : ∀ x ∈ c.exceptionTable.toList, False) (hlocks : meth.locks = false) (hRf : names.length + 3 < R.frames) (hRl : (rest.map fun v => v.category).sum + (13 * (names.length + 1) + 43) ≤ R.locals) (hRc : cells + 1 ≤ R.cells) (hRs : slots + 6 ≤ R.slots) (hc : cells + 1 ≤ rm.cells) (hs : slots + 6 ≤ rm.slots) (hp : Post (.inr cls) σ ad) :
    W p l e R s m args below meth c H locs cells slots (os_End D cA bs below s σ0 ad0 rm Post) (F0 m pc ls rest) := by
  intro T hT X
  have htr : e.platform.stackTraces = false := (show e.platform.stackTraces = l.stackTraces by rw [X.admits.platform]).trans hl
  have Y := os_rebase X (R' := { frames := R.frames, locals := R.locals, cells := 1, slots := 6 }) (Nat.le_refl _) (Nat.le_refl _) hRc hRs
  obtain ⟨s', hA⟩ : ∃ z, z = (T.setVm s.vm).setFrames (.invoking m args :: below) := ⟨_, rfl⟩
  rw [← hA] at Y
  have hvm : s'.vm = s.vm := by rw [hA]; rfl
  have hhp : s'.heap = H := by rw [hA]; exact hT
  have hW0 : s.WarmedH s'.vm := by rw [hvm]; exact State.WarmedH.refl s
  have hE' : os_EV D cA bs s' := hE.moved hW0 (by rw [hhp]; exact hV.2.2.1) (fun q hq => by rw [hhp]; exact hV.low hE.2.2.1 q hq)
  have h : ∀ w ∈ Bundle.ownAtoms own ic cls names, w.before args s' = true := os_own hE' hat
  have hown' : s'.vm.findClass own = some m.cls := by rw [hvm]; exact hown
  have hins : (Cond.instantiable cls 6).before args s' = true := h _ (by simp [Bundle.ownAtoms])
  obtain ⟨vm₁, cX, kX, hfX, hkX, -, -, X₁, st1⟩ := Y.newCold hx (own := own) (C := cls) (index := ik) (n := 6) hown' (hE'.hts _ hk) hins (hE'.hts _ hini)
    (g := F0 m pc ls rest) rfl (by rw [hb]; exact d0) (Nat.le_refl _) (Nat.le_refl _)
  generalize hT1 : (T.setVm vm₁).pushCell { cls := cX, slots := kX.instanceTypes.map defaultValue, vm := .none } = T1 at X₁ st1
  have hcat : (Value.ref T.heap.size).category = 1 := rfl
  have hcellA : T1.heap[T.heap.size]? = some (freshCell cX kX) := by rw [← hT1]; exact State.heap_pushCell_size _ _
  have d3' : decode c.code (pc + 3) = .ok (.dup, 1) := by rw [hb]; exact d3
  have d4' : decode c.code (pc + 4) = .ok (.ldc is, 2) := by rw [hb]; exact d4
  obtain ⟨sa, hstr'⟩ := hE'.2.2.2.2.2 _ hstr
  obtain ⟨U, hsteps, hrun, hend, hW, hsame, ce, hce, hO⟩ := X₁.ctorThrowS hx htr (own := own) (cls := cls) (names := names) (ic := ic) hown' hcls hnames h (fun x hx => nomatch hx) hfX hkX hcellA (by rw [hhp, hT]; exact Nat.le_refl _) (msg := .ref sa) rfl
    (g := { method := m, pc := pc + 6, locals := ls, stack := .ref sa :: .ref T.heap.size :: .ref T.heap.size :: rest, locked := none }) rfl hsize rfl rfl (rest := rest) rfl
    (by rw [hb]; exact d6) (by rw [hb]; exact d9) (fun x hx => (hout x hx).elim) hRf (by simp only [List.map_cons, List.sum_cons, hcat]; omega) hlocks
  obtain ⟨f1, f2⟩ := os_frame hsame
  rw [hhp] at f1 f2
  have hWs : s.WarmedH U.vm := State.WarmedH.trans hW0 hW
  have hcl : s.vm.findClass cls = some ce.cls := by
    have h9 := hO.cls
    rw [hvm] at h9
    exact h9
  have hall : s.sameButNew ({ U with vm := s.vm } : State) locs rm.cells rm.slots := by
    subst hA
    obtain ⟨e1, e2⟩ := hsame
    rw [State.setFrames_setFrames] at e1
    have h2 : (T.setVm s.vm).sameButNew ({ U with vm := s.vm } : State) [] (0 + 1) (0 + 6) := ⟨e1, e2⟩
    have h3 := X.same.trans h2
    rw [List.append_nil] at h3
    exact h3.mono hc hs
  have hWU : os_W D cA bs σ ad U.heap := by
    obtain ⟨w1, w2, w3, w4⟩ := hV.1
    exact ⟨fun K i hi => (w1 K i hi).to rfl (f2 _ (w1 K i hi).lt (fun z hz => nomatch hz)) rfl (fun _ => rfl), w2, w3, w4⟩
  refine ⟨U, ?_, .threw T.heap.size, hrun, hend, .inr cls, σ, ad, ⟨T.heap.size, ce, rfl, hce, hO.vm, hcl⟩, hp, hWU, hV.2.1, hWs, locs, hall, hV.2.2.2.2⟩
  refine st1 _ ?_
  show Steps p.tables e below (T1.setTop { method := m, pc := pc + 3, locals := ls, stack := .ref T.heap.size :: rest, locked := none }) _
  jvm_step X₁.here [X₁.here.top, hx, d3', Value.category]
  exact X₁.ldcString hx (own := own) (text := text) (index := is) (a := sa) hown' hstr'.1 hstr'.2
    (g := { method := m, pc := pc + 4, locals := ls, stack := .ref T.heap.size :: .ref T.heap.size :: rest, locked := none }) rfl d4' _ hsteps
end OSM
