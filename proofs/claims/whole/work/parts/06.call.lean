/-! CALLS: by contract, with both ends; exceptions that leave, that are caught, that are thrown here -/
section OSD
variable {p : Program} {l : Launch} {e : Env} {R : Room} {s : State} {m : MethodId} {args : Array Value} {below : List Frame} {meth : Method} {c : Code} {H : Heap} {locs : List Loc} {cells slots : Nat} {Q : State → Prop}
variable {cc : ByteArray} {pc : Nat} {ls : Array Slot} {rest st0 : List Value} {D : va_G} {cA : Nat → ClassId} {bs : Nat} {σ σ0 : os_S} {ad ad0 : Nat → Nat → Nat}
variable {rm : Room} {Post : os_O → os_S → (Nat → Nat → Nat) → Prop}
/-- an exception q stands above the frame g -/
def os_WX (p : Program) (l : Launch) (e : Env) (R : Room) (s : State) (m : MethodId) (args : Array Value) (below : List Frame) (meth : Method) (c : Code) (H : Heap) (locs : List Loc) (cells slots : Nat) (Q : State → Prop) (g : JFrame) (q : Addr) : Prop :=
  ∀ T : State, T.heap = H → Stand p l e R s m args below meth c T locs cells slots → ∃ t, Steps p.tables e below ((T.setTop g).pushFrame (.throwing q)) t ∧ Q t
/-- an instruction that invokes y with av -/
def os_In (p : Program) (l : Launch) (e : Env) (R : Room) (s : State) (m : MethodId) (args : Array Value) (below : List Frame) (meth : Method) (c : Code) (H : Heap) (locs : List Loc) (cells slots : Nat) (g : JFrame) (rest : List Value) (y : MethodName) (av : List Value) : Prop :=
  ∀ T : State, T.heap = H → Stand p l e R s m args below meth c T locs cells slots → ∃ (vm₁ : Vm) (mk : MethodId) (ig : Instr), Stand p l e R s m args below meth c (T.setVm vm₁) locs cells slots ∧ (T.setVm vm₁).methodNamed? y = some mk ∧ decode c.code g.pc = .ok (ig, 3) ∧
    ∀ target, Steps p.tables e below (doInvoke e ((T.setVm vm₁).setTop { g with stack := rest }) [] mk av.toArray).1 target → Steps p.tables e below (T.setTop g) target
theorem os_call {y : MethodName} {b : ByteArray} {nL' : Nat} {ret' : Option FieldType} {rm' : Room} {av : List Value} {Post' : os_O → os_S → (Nat → Nat → Nat) → Prop} (hM : os_Met l y b nL' ret' rm' D cA bs av σ ad Post') (hE : os_EV D cA bs s) (hV : os_V D cA bs σ0 ad0 s σ ad H locs)
    (hcode : Cond.code y b nL' ret' ∈ os_tb) (hini : Cond.initialized y.cls ∈ os_tb) (hIn : os_In p l e R s m args below meth c H locs cells slots (F0 m pc ls st0) rest y av)
    (hsize : ls.size = c.maxLocals) (hst : (rest.map fun v => v.category).sum ≤ 8) (hf : rm'.frames + 1 ≤ R.frames) (hlo : 8 + (nL' + 11) + rm'.locals ≤ R.locals) (hcc : cells + rm'.cells ≤ R.cells) (hss : slots + rm'.slots ≤ R.slots)
    (kr : ∀ (v : Option Value) (σ' : os_S) (ad' : Nat → Nat → Nat) (H1 : Heap) (locs1 : List Loc), Post' (.inl v) σ' ad' → os_ext σ ad σ' ad' H.size → os_V D cA bs σ0 ad0 s σ' ad' H1 locs1 → W p l e R s m args below meth c H1 locs1 (cells + rm'.cells) (slots + rm'.slots) Q (F0 m (pc + 3) ls (v.toList ++ rest)))
    (kx : ∀ (E : String) (q : Addr) (ce : Cell) (σ' : os_S) (ad' : Nat → Nat → Nat) (H1 : Heap) (locs1 : List Loc), Post' (.inr E) σ' ad' → os_ext σ ad σ' ad' H.size → os_V D cA bs σ0 ad0 s σ' ad' H1 locs1 → H1[q]? = some ce → ce.vm = .none → s.vm.findClass E = some ce.cls →
      os_WX p l e R s m args below meth c H1 locs1 (cells + rm'.cells) (slots + rm'.slots) Q (F0 m pc ls rest) q) : W p l e R s m args below meth c H locs cells slots Q (F0 m pc ls st0) := by
  intro T hT X
  obtain ⟨vm₁, mk, ig, X₁, hn, hdg, hstep⟩ := hIn T hT X
  generalize hU : T.setVm vm₁ = U at X₁ hn hstep
  have hUh : U.heap = H := by rw [← hU]; exact hT
  have hstep : ∀ target, Steps p.tables e below (doInvoke e (U.setTop (F0 m pc ls rest)) [] mk av.toArray).1 target → Steps p.tables e below (T.setTop (F0 m pc ls st0)) target := hstep
  obtain ⟨g, hgd⟩ : ∃ z, z = F0 m pc ls rest := ⟨_, rfl⟩
  have hgm : g.method = m := by rw [hgd]
  have hgl : g.locals.size = c.maxLocals := by rw [hgd]; exact hsize
  have hgp : g.pc = pc := by rw [hgd]
  have hgs : 2 * g.monitorRoom + (g.stack.map fun v => v.category).sum ≤ 8 := by
    rw [hgd]
    show 2 * 0 + (rest.map fun v => v.category).sum ≤ 8
    omega
  rw [← hgd] at hstep
  have hEU : os_EV D cA bs U := hE.moved X₁.warmed (by rw [hUh]; exact hV.2.2.1) (fun q hq => by rw [hUh]; exact hV.low hE.2.2.1 q hq)
  have h1 : (headSpec [Cond.code y b nL' ret'] rm').pre.before av.toArray U = true := atoms_intro fun w hw => by
    rw [List.mem_singleton] at hw
    subst hw
    exact hEU.hts _ hcode
  have h2 : (Cond.code y b nL' ret').before av.toArray U = true := hEU.hts _ hcode
  have h3 : (Cond.initialized y.cls).before av.toArray U = true := hEU.hts _ hini
  obtain ⟨methY, cY, hmY, hcY, -, hlY, -, -, -, -⟩ := Cond.code_spec hn h2
  obtain ⟨kY, hkY, -⟩ := className_of_methodNamed hn
  have hinitY : kY.init = .initialized := Cond.initialized_spec (findClass_of_methodNamed hn) hkY h3
  have h : At U g.method c below := by rw [hgm]; exact X₁.here
  have hdg' : decode c.code g.pc = .ok (ig, 3) := by rw [hgp]; exact hdg
  have happ : (headSpec [Cond.code y b nL' ret'] rm').appliesLoose y e.platform (U.calling g mk av.toArray) = true :=
    Spec.appliesLoose_calling (g := g) h hdg' hn hkY hinitY
      (X₁.room_calling (g := g) (R' := (headSpec [Cond.code y b nL' ret'] rm').room) hgl hmY hcY hf (by rw [hlY]; show _ + rm'.locals ≤ R.locals; omega) hcc hss) h1
  obtain ⟨mid, hmid⟩ := h.above
  have hfr : (U.setTop g).frames = (.java g :: mid) ++ below := by rw [State.frames_setTop' g h.top, hmid]; rfl
  have hEc : os_EV D cA bs (U.calling g mk av.toArray) := hEU.moved (U := U.calling g mk av.toArray) (State.WarmedH.refl U) (Nat.le_refl _) (fun _ _ => rfl)
  have hWc : os_W D cA bs σ ad (U.calling g mk av.toArray).heap := by
    show os_W D cA bs σ ad U.heap
    rw [hUh]; exact hV.1
  obtain ⟨o, s₂, hsteps, -, hend, hq⟩ := Steps.callFree hM p X₁.admits X₁.cas X₁.clock (acts := []) hfr happ ⟨rfl, hEc, hWc⟩ trivial
  have hq' : os_Q D cA bs σ ad rm' Post' (U.calling g mk av.toArray) o s₂ := hq
  rw [State.frames_setTop' g h.top] at hend
  obtain ⟨g₀, hg0⟩ := Option.isSome_iff_exists.mp h.top
  obtain ⟨r, hr⟩ := State.topJava?_eq_some.mp hg0
  have hr' : (({ U with heap := s₂.heap, slotsUsed := s₂.slotsUsed } : State).setVm s₂.vm).frames = .java g₀ :: r := hr
  obtain ⟨ro, σ', ad', hres, hpost, hW', hext, hW₂, L, hsm, hL⟩ := hq'
  have hext' : os_ext σ ad σ' ad' H.size := by rw [← hUh]; exact hext
  have hWs : U.WarmedH s₂.vm := hW₂
  obtain ⟨fr1, fr2⟩ := os_frame hsm
  have fr1 : U.heap.size ≤ s₂.heap.size := fr1
  have fr2 : ∀ q : Nat, q < U.heap.size → (∀ z ∈ L, z.base ≠ q) → s₂.heap[q]? = U.heap[q]? := fr2
  obtain ⟨e2, q2, q3, q4, q5, q6⟩ := id hsm
  have e3 : s₂ = ({ (U.calling g mk av.toArray).setFrames s₂.frames with heap := s₂.heap, slotsUsed := s₂.slotsUsed } : State).setVm s₂.vm := by
    have : s₂ = ({ s₂ with vm := (U.calling g mk av.toArray).vm } : State).setVm s₂.vm := rfl
    rw [e2] at this
    exact this
  have hsame : U.sameButNew ({ U with heap := s₂.heap, slotsUsed := s₂.slotsUsed } : State) L rm'.cells rm'.slots := by
    refine ⟨?_, q2, q3, q4, q5, q6⟩
    obtain ⟨t, ht, -⟩ := State.frames_cons hr
    show ({ U with heap := s₂.heap, slotsUsed := s₂.slotsUsed } : State) = { U.setFrames U.frames with heap := s₂.heap, slotsUsed := s₂.slotsUsed }
    rw [State.setFrames_self ht]
  have XB : Stand p l e R s m args below meth c (({ U with heap := s₂.heap, slotsUsed := s₂.slotsUsed } : State).setVm s₂.vm) (locs ++ L) (cells + rm'.cells) (slots + rm'.slots) :=
    ⟨X₁.admits, X₁.cas, X₁.clock, X₁.frames, X₁.room, X₁.hears, X₁.method, X₁.code, (X₁.here.setHeapUsed s₂.heap s₂.slotsUsed).setVm hWs.alike, X₁.tail, State.WarmedH.trans X₁.warmed hWs, X₁.limits, X₁.bytes, X₁.same.trans (hsame.setVm s.vm)⟩
  have hA1 : ∀ q, os_A σ ad U.heap.size q → os_A σ0 ad0 s.heap.size q := fun q hq => hV.2.1.A (by rw [hUh]; exact hV.2.2.1) hq
  have hV' : os_V D cA bs σ0 ad0 s σ' ad' s₂.heap (locs ++ L) := by
    refine ⟨hW', hV.2.1.trans hext' hV.2.2.1, Nat.le_trans hV.2.2.1 (by rw [← hUh]; exact fr1), fun q h1 h2 => ?_, fun q hq => ?_⟩
    · rw [fr2 q (by rw [hUh]; exact Nat.lt_of_lt_of_le h1 hV.2.2.1) (fun z hz hzq => h2 (by rw [← hzq]; exact hA1 _ (hL z hz))), hUh]
      exact hV.2.2.2.1 q h1 h2
    · rcases List.mem_append.mp hq with h | h
      · exact hV.2.2.2.2 q h
      · exact hA1 _ (hL q h)
  cases ro with
  | inl v =>
    have ho : o = .returned v := hres
    subst ho
    obtain ⟨c₂, i₂, len₂, hc₂, hd₂, hf₂⟩ := hend
    have hccq : c₂ = c := by
      have h1 : s₂.code? g.method = U.code? g.method := by
        rw [State.code?_eq, State.code?_eq, hWs.alike.method?]
      exact Option.some.inj (hc₂.symm.trans (h1.trans h.code))
    subst hccq
    have hlen : len₂ = 3 := by rw [hdg'] at hd₂; cases hd₂; rfl
    subst hlen
    have hs₂ : s₂ = (({ U with heap := s₂.heap, slotsUsed := s₂.slotsUsed } : State).setVm s₂.vm).setTop { g with pc := g.pc + 3, stack := v.toList ++ g.stack } := by
      refine e3.trans ?_
      rw [hf₂, State.calling_eq h.top, State.setFrames_setFrames, State.setTop_of_frames _ hr', hr]
      rfl
    obtain ⟨t2, a1, b1⟩ := kr v σ' ad' s₂.heap (locs ++ L) hpost hext' hV' (({ U with heap := s₂.heap, slotsUsed := s₂.slotsUsed } : State).setVm s₂.vm) rfl XB
    refine ⟨t2, hstep t2 ?_, b1⟩
    refine hsteps.trans ?_
    rw [hs₂]
    rw [hgd]
    exact a1
  | inr E =>
    obtain ⟨q, ce, ho, hce, hcv, hcl⟩ := hres
    subst ho
    have hf₂ : s₂.frames = .throwing q :: .java g :: U.frames.tail := hend
    have hs₂ : s₂ = ((({ U with heap := s₂.heap, slotsUsed := s₂.slotsUsed } : State).setVm s₂.vm).setTop g).pushFrame (.throwing q) := by
      refine e3.trans ?_
      rw [hf₂, State.calling_eq h.top, State.setFrames_setFrames, State.pushFrame, State.frames_setTop _ hr', State.setTop_of_frames _ hr', State.setFrames_setFrames, hr]
      rfl
    have hcl' : s.vm.findClass E = some ce.cls := by
      have h9 : U.vm.findClass E = some ce.cls := hcl
      rw [X₁.warmed.alike.findClass] at h9
      exact h9
    obtain ⟨t2, a1, b1⟩ := kx E q ce σ' ad' s₂.heap (locs ++ L) hpost hext' hV' hce hcv hcl' (({ U with heap := s₂.heap, slotsUsed := s₂.slotsUsed } : State).setVm s₂.vm) rfl XB
    refine ⟨t2, hstep t2 ?_, b1⟩
    refine hsteps.trans ?_
    rw [hs₂]
    rw [hgd]
    exact a1
/-- not caught here: it leaves -/
theorem os_out {E : String} {q : Addr} {ce : Cell} (hout : ∀ x ∈ c.exceptionTable.toList, False) (hlocks : meth.locks = false) (hV : os_V D cA bs σ0 ad0 s σ ad H locs) (hce : H[q]? = some ce) (hcv : ce.vm = .none) (hcl : s.vm.findClass E = some ce.cls) (hc : cells ≤ rm.cells) (hs : slots ≤ rm.slots) (hp : Post (.inr E) σ ad) :
    os_WX p l e R s m args below meth c H locs cells slots (os_End D cA bs below s σ0 ad0 rm Post) (F0 m pc ls rest) q := by
  intro T hT X
  obtain ⟨st1, hrun, hend, hW, hsm⟩ := X.leaveThrown q (g := F0 m pc ls rest) rfl rfl rfl (fun x hx => (hout x hx).elim) hlocks
  refine ⟨_, st1, .threw q, hrun, hend, .inr E, σ, ad, ⟨q, ce, rfl, ?_, hcv, hcl⟩, hp, ?_, hV.2.1, hW, locs, hsm.mono hc hs, hV.2.2.2.2⟩
  · show T.heap[q]? = some ce
    rw [hT]; exact hce
  · show os_W D cA bs σ ad T.heap
    rw [hT]; exact hV.1
/-- the six ways to invoke -/
theorem os_inV {own C : String} {index : Nat} {y : MethodName} {bytes : ByteArray} {maxL : Nat} {ret : Option FieldType} {b : Addr} {As : List Value} {n : Nat} (hx : p.tables.exec = Jvm.exec) (hb : c.code = cc) (hown : s.vm.findClass own = some m.cls)
    (hlink : (Cond.methodLink own index y).before args s = true) (hinst : (Cond.instanceMethod y).before args s = true) (hsel : (Cond.selects C y y).before args s = true) (hcode : (Cond.code y bytes maxL ret).before args s = true)
    (hy : y.cls ≠ "java/lang/invoke/MethodHandle" ∧ y.cls ≠ "java/lang/invoke/VarHandle" ∧ (parseMethodDescriptor y.desc).map (fun d => d.parameters.length) = some n) (hn : As.length = n)
    (hrecv : ∃ cellB : Cell, H[b]? = some cellB ∧ cellB.vm.isStatics = false ∧ s.vm.findClass C = some cellB.cls) (hst : st0 = As.reverse ++ .ref b :: rest) (hdg : decode cc pc = .ok (.invokevirtual index, 3)) :
    os_In p l e R s m args below meth c H locs cells slots (F0 m pc ls st0) rest y (.ref b :: As) := by
  intro T hT X
  obtain ⟨mk, methM, hnamed, hmethM, hstM, habM⟩ := Cond.instanceMethod_spec hinst
  obtain ⟨methM', cM, hmethM', -, -, -, -, -, -, hsigM⟩ := Cond.code_spec hnamed hcode
  cases hmethM.symm.trans hmethM'
  obtain ⟨cellB, hcB, hoB, hclB⟩ := hrecv
  obtain ⟨c2, r2, m2, q1, q2, q3, q4, kP, hkP, hkPi⟩ := Cond.selects_spec hsel
  cases hclB.symm.trans q1
  cases (State.methodFound?_of_named hnamed ⟨hy.1, hy.2.1⟩).symm.trans q2
  cases hnamed.symm.trans q3
  have hselP : selectMethod e.platform s.vm cellB.cls mk = .method mk := by rw [Launch.admits_selectMethod X.admits]; exact q4
  have hlen : As.length = methM.sig.parameters.length := by
    have h2 := hy.2.2
    rw [hsigM] at h2
    exact hn.trans (Option.some.inj h2).symm
  obtain ⟨vm₁, X₁, hstep₁⟩ := X.invokevirtual hx hown hlink hnamed hmethM hstM hkP hkPi ⟨hy.1, hy.2.1⟩ (a := b) (cell := cellB) (by rw [hT]; exact hcB)
    (fun z h => by rw [h] at hoB; cases hoB) hselP hmethM habM hkP hkPi (g := F0 m pc ls st0) rfl (argsL := As) (rest := rest) hlen hst (by rw [hb]; exact hdg)
  exact ⟨vm₁, mk, _, X₁, X₁.named hnamed, by rw [hb]; exact hdg, fun target h => hstep₁ _ fun acts => by rw [doInvoke_state]; exact h⟩
theorem os_inVN {own C host : String} {index : Nat} {y : MethodName} {bytes : ByteArray} {maxL : Nat} {ret : Option FieldType} {b : Addr} {As : List Value} {n : Nat} (hx : p.tables.exec = Jvm.exec) (hb : c.code = cc) (hown : s.vm.findClass own = some m.cls)
    (hlink : (Cond.methodLinkNest own index y host).before args s = true) (hinst : (Cond.instanceMethod y).before args s = true) (hsel : (Cond.selects C y y).before args s = true) (hcode : (Cond.code y bytes maxL ret).before args s = true)
    (hy : y.cls ≠ "java/lang/invoke/MethodHandle" ∧ y.cls ≠ "java/lang/invoke/VarHandle" ∧ (parseMethodDescriptor y.desc).map (fun d => d.parameters.length) = some n) (hn : As.length = n)
    (hrecv : ∃ cellB : Cell, H[b]? = some cellB ∧ cellB.vm.isStatics = false ∧ s.vm.findClass C = some cellB.cls) (hst : st0 = As.reverse ++ .ref b :: rest) (hdg : decode cc pc = .ok (.invokevirtual index, 3)) :
    os_In p l e R s m args below meth c H locs cells slots (F0 m pc ls st0) rest y (.ref b :: As) := by
  intro T hT X
  obtain ⟨mk, methM, hnamed, hmethM, hstM, habM⟩ := Cond.instanceMethod_spec hinst
  obtain ⟨methM', cM, hmethM', -, -, -, -, -, -, hsigM⟩ := Cond.code_spec hnamed hcode
  cases hmethM.symm.trans hmethM'
  obtain ⟨cellB, hcB, hoB, hclB⟩ := hrecv
  obtain ⟨c2, r2, m2, q1, q2, q3, q4, kP, hkP, hkPi⟩ := Cond.selects_spec hsel
  cases hclB.symm.trans q1
  cases (State.methodFound?_of_named hnamed ⟨hy.1, hy.2.1⟩).symm.trans q2
  cases hnamed.symm.trans q3
  have hselP : selectMethod e.platform s.vm cellB.cls mk = .method mk := by rw [Launch.admits_selectMethod X.admits]; exact q4
  have hlen : As.length = methM.sig.parameters.length := by
    have h2 := hy.2.2
    rw [hsigM] at h2
    exact hn.trans (Option.some.inj h2).symm
  obtain ⟨vm₁, X₁, hstep₁⟩ := X.invokevirtualNest hx hown hlink hnamed hmethM hstM hkP hkPi ⟨hy.1, hy.2.1⟩ (a := b) (cell := cellB) (by rw [hT]; exact hcB)
    (fun z h => by rw [h] at hoB; cases hoB) hselP hmethM habM hkP hkPi (g := F0 m pc ls st0) rfl (argsL := As) (rest := rest) hlen hst (by rw [hb]; exact hdg)
  exact ⟨vm₁, mk, _, X₁, X₁.named hnamed, by rw [hb]; exact hdg, fun target h => hstep₁ _ fun acts => by rw [doInvoke_state]; exact h⟩
theorem os_inS {own : String} {index : Nat} {y : MethodName} {bytes : ByteArray} {maxL : Nat} {ret : Option FieldType} {As : List Value} {n : Nat} (hx : p.tables.exec = Jvm.exec) (hb : c.code = cc) (hown : s.vm.findClass own = some m.cls)
    (hlink : (Cond.methodLink own index y).before args s = true) (hstat : (Cond.static y).before args s = true) (hinit : (Cond.initialized y.cls).before args s = true) (hcode : (Cond.code y bytes maxL ret).before args s = true)
    (hy : y.cls ≠ "java/lang/invoke/MethodHandle" ∧ y.cls ≠ "java/lang/invoke/VarHandle" ∧ (parseMethodDescriptor y.desc).map (fun d => d.parameters.length) = some n) (hn : As.length = n)
    (hst : st0 = As.reverse ++ rest) (hdg : decode cc pc = .ok (.invokestatic index, 3)) :
    os_In p l e R s m args below meth c H locs cells slots (F0 m pc ls st0) rest y As := by
  intro T hT X
  obtain ⟨mk, hnamed⟩ := Cond.code_named hcode
  obtain ⟨methM, cM, hmethM, -, -, -, -, -, -, hsigM⟩ := Cond.code_spec hnamed hcode
  have hstatic : methM.isStatic = true := Cond.static_spec hnamed hmethM hstat
  obtain ⟨kP, hkP, -⟩ := className_of_methodNamed hnamed
  have hinitP : kP.init = .initialized := Cond.initialized_spec (findClass_of_methodNamed hnamed) hkP hinit
  have hlen : As.length = methM.sig.parameters.length := by
    have h2 := hy.2.2
    rw [hsigM] at h2
    exact hn.trans (Option.some.inj h2).symm
  obtain ⟨vm₁, X₁, hstep₁⟩ := X.invokestatic hx hown hlink hnamed hmethM hstatic hkP hinitP ⟨hy.1, hy.2.1⟩ (g := F0 m pc ls st0) rfl (argsL := As) (rest := rest) hlen hst (by rw [hb]; exact hdg)
  exact ⟨vm₁, mk, _, X₁, X₁.named hnamed, by rw [hb]; exact hdg, fun target h => hstep₁ _ fun acts => by rw [doInvoke_state]; exact h⟩
theorem os_inSN {own host : String} {index : Nat} {y : MethodName} {bytes : ByteArray} {maxL : Nat} {ret : Option FieldType} {As : List Value} {n : Nat} (hx : p.tables.exec = Jvm.exec) (hb : c.code = cc) (hown : s.vm.findClass own = some m.cls)
    (hlink : (Cond.methodLinkNest own index y host).before args s = true) (hstat : (Cond.static y).before args s = true) (hinit : (Cond.initialized y.cls).before args s = true) (hcode : (Cond.code y bytes maxL ret).before args s = true)
    (hy : y.cls ≠ "java/lang/invoke/MethodHandle" ∧ y.cls ≠ "java/lang/invoke/VarHandle" ∧ (parseMethodDescriptor y.desc).map (fun d => d.parameters.length) = some n) (hn : As.length = n)
    (hst : st0 = As.reverse ++ rest) (hdg : decode cc pc = .ok (.invokestatic index, 3)) :
    os_In p l e R s m args below meth c H locs cells slots (F0 m pc ls st0) rest y As := by
  intro T hT X
  obtain ⟨mk, hnamed⟩ := Cond.code_named hcode
  obtain ⟨methM, cM, hmethM, -, -, -, -, -, -, hsigM⟩ := Cond.code_spec hnamed hcode
  have hstatic : methM.isStatic = true := Cond.static_spec hnamed hmethM hstat
  obtain ⟨kP, hkP, -⟩ := className_of_methodNamed hnamed
  have hinitP : kP.init = .initialized := Cond.initialized_spec (findClass_of_methodNamed hnamed) hkP hinit
  have hlen : As.length = methM.sig.parameters.length := by
    have h2 := hy.2.2
    rw [hsigM] at h2
    exact hn.trans (Option.some.inj h2).symm
  obtain ⟨vm₁, X₁, hstep₁⟩ := X.invokestaticNest hx hown hlink hnamed hmethM hstatic hkP hinitP ⟨hy.1, hy.2.1⟩ (g := F0 m pc ls st0) rfl (argsL := As) (rest := rest) hlen hst (by rw [hb]; exact hdg)
  exact ⟨vm₁, mk, _, X₁, X₁.named hnamed, by rw [hb]; exact hdg, fun target h => hstep₁ _ fun acts => by rw [doInvoke_state]; exact h⟩
theorem os_inI {own : String} {index : Nat} {y : MethodName} {bytes : ByteArray} {maxL : Nat} {b : Addr} {As : List Value} {n : Nat} (hx : p.tables.exec = Jvm.exec) (hb : c.code = cc) (hown : s.vm.findClass own = some m.cls)
    (hlink : (Cond.methodLink own index y).before args s = true) (hy1 : y.name = "<init>") (hinst : (Cond.instanceMethod y).before args s = true) (hcode : (Cond.code y bytes maxL none).before args s = true)
    (hy : y.cls ≠ "java/lang/invoke/MethodHandle" ∧ y.cls ≠ "java/lang/invoke/VarHandle" ∧ (parseMethodDescriptor y.desc).map (fun d => d.parameters.length) = some n) (hn : As.length = n)
    (hst : st0 = As.reverse ++ .ref b :: rest) (hdg : decode cc pc = .ok (.invokespecial index, 3)) :
    os_In p l e R s m args below meth c H locs cells slots (F0 m pc ls st0) rest y (.ref b :: As) := by
  intro T hT X
  have hpl : e.platform.magicAccessors = ({} : Platform).magicAccessors := by rw [X.admits.platform]
  have hlen : ∀ sig, parseMethodDescriptor y.desc = some sig → As.length = sig.parameters.length := fun sig h => by
    have h2 := hy.2.2
    rw [h] at h2
    exact hn.trans (Option.some.inj h2).symm
  obtain ⟨mk, methM, cM, kP, vm₁, hnamed, hmethM, hcodeM, -, hlocalsM, -, hkP, -, hW₁, hstep₁⟩ := Steps.initColdArgs (e := e) X.here hx X.warmed hpl hown hy1 ⟨hy.1, hy.2.1⟩ hlink hinst hcode (f := F0 m pc ls st0) rfl hlen hst (by rw [hb]; exact hdg)
  have X₁ := X.noted hW₁
  exact ⟨vm₁, mk, _, X₁, X₁.named hnamed, by rw [hb]; exact hdg, fun target h => hstep₁ _ fun acts => by rw [doInvoke_state]; exact h⟩
theorem os_inIN {own host : String} {index : Nat} {y : MethodName} {bytes : ByteArray} {maxL : Nat} {b : Addr} {As : List Value} {n : Nat} (hx : p.tables.exec = Jvm.exec) (hb : c.code = cc) (hown : s.vm.findClass own = some m.cls)
    (hlink : (Cond.methodLinkNest own index y host).before args s = true) (hy1 : y.name = "<init>") (hinst : (Cond.instanceMethod y).before args s = true) (hcode : (Cond.code y bytes maxL none).before args s = true)
    (hy : y.cls ≠ "java/lang/invoke/MethodHandle" ∧ y.cls ≠ "java/lang/invoke/VarHandle" ∧ (parseMethodDescriptor y.desc).map (fun d => d.parameters.length) = some n) (hn : As.length = n)
    (hst : st0 = As.reverse ++ .ref b :: rest) (hdg : decode cc pc = .ok (.invokespecial index, 3)) :
    os_In p l e R s m args below meth c H locs cells slots (F0 m pc ls st0) rest y (.ref b :: As) := by
  intro T hT X
  have hpl : e.platform.magicAccessors = ({} : Platform).magicAccessors := by rw [X.admits.platform]
  have hlen : ∀ sig, parseMethodDescriptor y.desc = some sig → As.length = sig.parameters.length := fun sig h => by
    have h2 := hy.2.2
    rw [h] at h2
    exact hn.trans (Option.some.inj h2).symm
  obtain ⟨mk, methM, cM, kP, vm₁, hnamed, hmethM, hcodeM, -, hlocalsM, -, hkP, -, hW₁, hstep₁⟩ := Steps.initColdArgsNest (e := e) X.here hx X.warmed hpl hown hy1 ⟨hy.1, hy.2.1⟩ hlink hinst hcode (f := F0 m pc ls st0) rfl hlen hst (by rw [hb]; exact hdg)
  have X₁ := X.noted hW₁
  exact ⟨vm₁, mk, _, X₁, X₁.named hnamed, by rw [hb]; exact hdg, fun target h => hstep₁ _ fun acts => by rw [doInvoke_state]; exact h⟩
theorem os_recv {K i ci : Nat} {r : vw_C} {fds : List (Option Nat)} {tys : List (ClassId × FieldType)} (hK : va_K D os_cl tys s) (hV : os_V D cA bs σ0 ad0 s σ ad H locs) (hs : os_sc K = .inl (ci, fds)) (hc : os_cl[ci]? = some r) (hi : i < os_n σ K) : ∃ cellB : Cell, H[ad K i]? = some cellB ∧ cellB.vm.isStatics = false ∧ s.vm.findClass r.1 = some cellB.cls := by
  have h := hV.1.1 K i hi
  unfold os_at at h
  rw [hs] at h
  obtain ⟨r', h1, cell, g1, g2, g3, -⟩ := h
  exact ⟨cell, g1, by rw [g3]; rfl, by rw [g2]; exact (hK.1 ci r hc).2.1⟩
end OSD
