/-! ROWS OVER THE STORE: a row an instruction that reads, writes or makes -/
/-- where a static field of a class of the JDK lies, and that it holds null or a reference -/
def os_L (C n d : String) (bs : Nat) (U : State) : Prop := ∃ (c : ClassId) (k : Class) (i : Nat) (f : Field) (a : Nat) (cell : Cell) (v : Value), U.vm.findClass C = some c ∧ U.fieldFound? C n d = some (c, k, i, f) ∧ f.isStatic = true ∧ k.statics = some a ∧ U.heap[a]? = some cell ∧ cell.vm.isStatics = true ∧ cell.cls = c ∧ f.slot < cell.slots.size ∧ k.staticTypes[f.slot]? = some f.type ∧ a < bs ∧ cell.slots[f.slot]? = some v ∧ v.isRef = true
/-- what a walk knows of the tables, and of the cells that it never writes -/
def os_EV (D : va_G) (cA : Nat → ClassId) (bs : Nat) (U : State) : Prop :=
  (∀ w ∈ os_tb, w.before #[] U = true) ∧ va_K D os_cl (os_tys cA) U ∧ bs ≤ U.heap.size ∧ os_L Bundle.tN "UNASSIGNED_STACK" Bundle.steD bs U ∧ os_L Bundle.tN "SUPPRESSED_SENTINEL" Bundle.listD bs U ∧ ∀ q ∈ os_str, ∃ a, vk_R q.1 q.2.1 q.2.2 a U
def os_V (D : va_G) (cA : Nat → ClassId) (bs : Nat) (σ0 : os_S) (ad0 : Nat → Nat → Nat) (s : State) (σ : os_S) (ad : Nat → Nat → Nat) (H : Heap) (locs : List Loc) : Prop :=
  os_W D cA bs σ ad H ∧ os_ext σ0 ad0 σ ad s.heap.size ∧ va_S (os_A σ0 ad0 s.heap.size) s.heap H locs
theorem os_ext.inA {σ σ1 : os_S} {ad ad1 : Nat → Nat → Nat} {sz K i : Nat} (h : os_ext σ ad σ1 ad1 sz) (hi : i < os_n σ1 K) : os_A σ ad sz (ad1 K i) := by
  by_cases hc : i < os_n σ K
  · exact Or.inl ⟨K, i, hc, h.2.1 K i hc⟩
  · exact Or.inr (h.2.2 K i (Nat.not_lt.mp hc) hi)
section OSR
variable {p : Program} {l : Launch} {e : Env} {R : Room} {s : State} {m : MethodId} {args : Array Value} {below : List Frame} {meth : Method} {c : Code} {H : Heap} {locs : List Loc} {cells slots : Nat} {Q : State → Prop}
variable {cc : ByteArray} {pc : Nat} {ls : Array Slot} {rest : List Value} {D : va_G} {cA : Nat → ClassId} {bs : Nat} {σ σ0 : os_S} {ad ad0 : Nat → Nat → Nat} {tys : List (ClassId × FieldType)}
theorem os_slot {C : String} {T : u_T} {N ci K j i : Nat} {fds : List (Option Nat)} {Ts : List Cond} (hts : ∀ w ∈ Ts, w.before args s = true) (hin : ∀ w ∈ u_ws C T N, w ∈ Ts) (hK : va_K D os_cl tys s) (hW : os_W D cA bs σ ad H) (hs : os_sc K = .inl (ci, fds)) (hc : os_cl[ci]? = some (C, T, N)) (hj : j < N) (hi : i < os_n σ K) :
    ∃ (cell : Cell) (cf : ClassId) (kf : Class) (fi : Nat) (f : Field), s.fieldFound? (T j).1 (T j).2.1 (T j).2.2.1 = some (cf, kf, fi, f) ∧ f.isStatic = false ∧ f.slot = D.2 ci j ∧ H[ad K i]? = some cell ∧ cell.cls = D.1 ci ∧ cell.vm = .none ∧ ∀ k, k < N → cell.slots[D.2 ci k]? = some (os_fv σ ad K i k) := by
  have h := hW.1 K i hi
  unfold os_at at h
  rw [hs] at h
  obtain ⟨r, h1, cell, q1, q2, q3, q4⟩ := h
  have hr : r = (C, T, N) := Option.some.inj (h1.symm.trans hc)
  subst hr
  obtain ⟨hS, hfc, kC, hkC, hkind⟩ := hK.1 ci _ hc
  obtain ⟨cf, kf, fi, f, hi', hsl⟩ := hS j hj
  exact ⟨cell, cf, kf, fi, f, hi', (u_facts hfc hkC (u_lays hts hin hj) hi').1, hsl, q1, q2, q3, q4⟩
theorem os_get (hx : p.tables.exec = Jvm.exec) (hb : c.code = cc) {own C : String} {T : u_T} {N ci index K j i : Nat} {fds : List (Option Nat)} {Ts : List Cond} {v : Value} (hts : ∀ w ∈ Ts, w.before args s = true) (hin : ∀ w ∈ u_ws C T N, w ∈ Ts) (hown : s.vm.findClass own = some m.cls) (hK : va_K D os_cl tys s) (hV : os_V D cA bs σ0 ad0 s σ ad H locs)
    (hs : os_sc K = .inl (ci, fds)) (hc : os_cl[ci]? = some (C, T, N)) (hj : j < N) (hi : i < os_n σ K) (hlink : (Cond.fieldLink own index (T j).1 (T j).2.1 (T j).2.2.1).before args s = true) (hv : os_fv σ ad K i j = v) (hdg : decode cc pc = .ok (.getfield index, 3))
    (kk : W p l e R s m args below meth c H locs cells slots Q (F0 m (pc + 3) ls (v :: rest))) : W p l e R s m args below meth c H locs cells slots Q (F0 m pc ls (.ref (ad K i) :: rest)) := by
  obtain ⟨cell, cf, kf, fi, f, hi', hst, hsl, q1, q2, q3, q4⟩ := os_slot hts hin hK hV.1 hs hc hj hi
  exact W.getf hx hb hown hlink hi' hst q1 (by rw [q3]; exact fun h => by cases h) (by rw [hsl, q4 j hj, hv]) rfl rfl hdg kk
theorem os_getN (hx : p.tables.exec = Jvm.exec) (hb : c.code = cc) {own C host : String} {T : u_T} {N ci index K j i : Nat} {fds : List (Option Nat)} {Ts : List Cond} {v : Value} (hts : ∀ w ∈ Ts, w.before args s = true) (hin : ∀ w ∈ u_ws C T N, w ∈ Ts) (hown : s.vm.findClass own = some m.cls) (hK : va_K D os_cl tys s) (hV : os_V D cA bs σ0 ad0 s σ ad H locs)
    (hs : os_sc K = .inl (ci, fds)) (hc : os_cl[ci]? = some (C, T, N)) (hj : j < N) (hi : i < os_n σ K) (hlink : (Cond.fieldLinkNest own index (T j).1 (T j).2.1 (T j).2.2.1 host).before args s = true) (hv : os_fv σ ad K i j = v) (hdg : decode cc pc = .ok (.getfield index, 3))
    (kk : W p l e R s m args below meth c H locs cells slots Q (F0 m (pc + 3) ls (v :: rest))) : W p l e R s m args below meth c H locs cells slots Q (F0 m pc ls (.ref (ad K i) :: rest)) := by
  obtain ⟨cell, cf, kf, fi, f, hi', hst, hsl, q1, q2, q3, q4⟩ := os_slot hts hin hK hV.1 hs hc hj hi
  exact va_Wgetf hx hb hown hlink hi' hst q1 (by rw [q3]; exact fun h => by cases h) (by rw [hsl, q4 j hj, hv]) rfl rfl hdg kk
/-- an object's cell with one slot set -/
theorem os_atset {N ci K j i : Nat} {C : String} {T : u_T} {fds : List (Option Nat)} {σ' : os_S} {v : Value} {cell : Cell} {H1 : Heap} (hs : os_sc K = .inl (ci, fds)) (hc : os_cl[ci]? = some (C, T, N)) (hj : j < N) (hap : ∀ x y, x < N → y < N → x ≠ y → (D.2 ci) x ≠ (D.2 ci) y) (q2 : cell.cls = D.1 ci) (q3 : cell.vm = .none) (q4 : ∀ k, k < N → cell.slots[D.2 ci k]? = some (os_fv σ ad K i k)) (e1 : H1[ad K i]? = some (cell.setSlot (D.2 ci j) v))
    (h1 : os_fv σ' ad K i j = v) (h2 : ∀ k, k ≠ j → os_fv σ' ad K i k = os_fv σ ad K i k) : os_at D cA σ' ad H1 K i := by
  unfold os_at
  rw [hs]
  refine ⟨_, hc, t_OB.to (V := updV (os_fv σ ad K i) j v) ⟨_, e1, q2, q3, t_set q4 hap hj v⟩ (fun k _ => ?_)⟩
  by_cases hk : k = j
  · subst hk
    simp [updV, h1]
  · simp [updV, hk, h2 k hk]
theorem os_fv_sg {K i j k : Nat} {v : Int32} (hk : k ≠ j) : os_fv (os_sg σ K j i v) ad K i k = os_fv σ ad K i k := by
  unfold os_fv
  cases os_tg K k with
  | none =>
    have hg : os_g (os_sg σ K j i v) K k i = os_g σ K k i := by rw [os_g_sg, if_neg (fun z => hk z.2.1)]
    show (if os_lg K = true then Value.long (os_g (os_sg σ K j i v) K k i).toInt64 else .int (os_g (os_sg σ K j i v) K k i)) = _
    rw [hg]
  | some t => rfl
theorem os_fv_sgs {K i j : Nat} {v : Int32} (ht : os_tg K j = none) (hg : os_lg K = false) : os_fv (os_sg σ K j i v) ad K i j = .int v := by
  unfold os_fv
  rw [ht]
  have he : os_g (os_sg σ K j i v) K j i = v := by rw [os_g_sg, if_pos ⟨rfl, rfl, rfl⟩]
  show (if os_lg K = true then Value.long (os_g (os_sg σ K j i v) K j i).toInt64 else .int (os_g (os_sg σ K j i v) K j i)) = _
  rw [he, hg]
  rfl
theorem os_fv_sgl {K i j : Nat} {v : Int32} (ht : os_tg K j = none) (hg : os_lg K = true) : os_fv (os_sg σ K j i v) ad K i j = .long v.toInt64 := by
  unfold os_fv
  rw [ht]
  have he : os_g (os_sg σ K j i v) K j i = v := by rw [os_g_sg, if_pos ⟨rfl, rfl, rfl⟩]
  show (if os_lg K = true then Value.long (os_g (os_sg σ K j i v) K j i).toInt64 else .int (os_g (os_sg σ K j i v) K j i)) = _
  rw [he, hg]
  rfl
theorem os_fv_sr {K i j k : Nat} {v : Option Nat} (hk : k ≠ j) : os_fv (os_sr σ K j i v) ad K i k = os_fv σ ad K i k := by
  unfold os_fv
  cases os_tg K k with
  | none => rfl
  | some t =>
    show va_rf ((os_r (os_sr σ K j i v) K k i).map (ad t)) = _
    rw [os_r_sr, if_neg (fun z => hk z.2.1)]
theorem os_fv_srs {K i j k : Nat} {v : Option Nat} (ht : os_tg K j = some k) : os_fv (os_sr σ K j i v) ad K i j = va_rf (v.map (ad k)) := by
  unfold os_fv
  rw [ht]
  show va_rf ((os_r (os_sr σ K j i v) K j i).map (ad k)) = _
  rw [os_r_sr, if_pos ⟨rfl, rfl, rfl⟩]
theorem os_V.sg {K j i : Nat} {v : Int32} {H1 : Heap} {x : Nat} (hV : os_V D cA bs σ0 ad0 s σ ad H locs) (hi : i < os_n σ K) (hc : os_at D cA (os_sg σ K j i v) ad H1 K i) (e2 : H1.size = H.size) (e3 : ∀ q : Nat, q ≠ ad K i → H1[q]? = H[q]?) : os_V D cA bs σ0 ad0 s (os_sg σ K j i v) ad H1 (locs ++ [⟨ad K i, x⟩]) :=
  ⟨hV.1.sg hi hc e3, hV.2.1, hV.2.2.put e2 e3 (hV.2.1.inA hi)⟩
theorem os_V.sr {K j i : Nat} {v : Option Nat} {H1 : Heap} {x : Nat} (hV : os_V D cA bs σ0 ad0 s σ ad H locs) (hi : i < os_n σ K) (hv : ∀ k t, os_tg K j = some k → v = some t → t < os_n σ k) (hc : os_at D cA (os_sr σ K j i v) ad H1 K i) (e2 : H1.size = H.size) (e3 : ∀ q : Nat, q ≠ ad K i → H1[q]? = H[q]?) : os_V D cA bs σ0 ad0 s (os_sr σ K j i v) ad H1 (locs ++ [⟨ad K i, x⟩]) :=
  ⟨hV.1.sr hi hv hc e3, hV.2.1, hV.2.2.put e2 e3 (hV.2.1.inA hi)⟩
theorem os_putI (hx : p.tables.exec = Jvm.exec) (hb : c.code = cc) {own C : String} {T : u_T} {N ci index K j i : Nat} {fds : List (Option Nat)} {Ts : List Cond} {v : Int32} {ty : FieldType} (hts : ∀ w ∈ Ts, w.before args s = true) (hin : ∀ w ∈ u_ws C T N, w ∈ Ts) (ty0 : Nat → FieldType) (hty : ∀ k, k < N → parseFieldDescriptor (T k).2.2.1 = some (ty0 k)) (hnm : ∀ a, a < N → ∀ b, b < N → a ≠ b → (T a).2.1 ≠ (T b).2.1) (hown : s.vm.findClass own = some m.cls) (hK : va_K D os_cl tys s) (hV : os_V D cA bs σ0 ad0 s σ ad H locs)
    (hs : os_sc K = .inl (ci, fds)) (hc : os_cl[ci]? = some (C, T, N)) (hj : j < N) (hi : i < os_n σ K) (hlink : (Cond.fieldLink own index (T j).1 (T j).2.1 (T j).2.2.1).before args s = true) (hfin : (T j).2.2.2 = false) (htg : os_tg K j = none) (hlg : os_lg K = false) (hd : parseFieldDescriptor (T j).2.2.1 = some ty) (hn : narrow ty (.int v) = .int v) (hfit : fits ty (.int v) = true) (hdg : decode cc pc = .ok (.putfield index, 3))
    (kk : ∀ (H1 : Heap) (locs1 : List Loc), os_V D cA bs σ0 ad0 s (os_sg σ K j i v) ad H1 locs1 → W p l e R s m args below meth c H1 locs1 cells slots Q (F0 m (pc + 3) ls rest)) : W p l e R s m args below meth c H locs cells slots Q (F0 m pc ls (.int v :: .ref (ad K i) :: rest)) := by
  obtain ⟨cell, cf, kf, fi, f, hi', hst, hsl, q1, q2, q3, q4⟩ := os_slot hts hin hK hV.1 hs hc hj hi
  have hap := va_apart (own := own) hts hin ty0 hty hnm hK hc
  obtain ⟨hS, hfc, kC, hkC, hkind⟩ := hK.1 ci _ hc
  have hlay := hts _ (hin _ (u_in_lay hj))
  unfold u_lay at hlay
  rw [if_neg (by rw [hfin]; decide)] at hlay
  have h6 := u_store hfc hkC hkind hlay hi' hd hn hfit
  refine W.putK hx hb (f := f) ⟨hown, hlink, ⟨_, _, _, hi'⟩, hst⟩ (by rw [q2]; exact h6) q1 q3 (by rw [hsl]; exact k2_hasslot (q4 j hj)) rfl rfl hdg fun H' e1 e2 e3 => ?_
  rw [hsl] at e1
  exact kk H' _ (hV.sg hi (os_atset hs hc hj hap q2 q3 q4 e1 (os_fv_sgs htg hlg) (fun k hk => os_fv_sg hk)) e2 e3)
theorem os_putIN (hx : p.tables.exec = Jvm.exec) (hb : c.code = cc) {own C host : String} {T : u_T} {N ci index K j i : Nat} {fds : List (Option Nat)} {Ts : List Cond} {v : Int32} {ty : FieldType} (hts : ∀ w ∈ Ts, w.before args s = true) (hin : ∀ w ∈ u_ws C T N, w ∈ Ts) (ty0 : Nat → FieldType) (hty : ∀ k, k < N → parseFieldDescriptor (T k).2.2.1 = some (ty0 k)) (hnm : ∀ a, a < N → ∀ b, b < N → a ≠ b → (T a).2.1 ≠ (T b).2.1) (hown : s.vm.findClass own = some m.cls) (hK : va_K D os_cl tys s) (hV : os_V D cA bs σ0 ad0 s σ ad H locs)
    (hs : os_sc K = .inl (ci, fds)) (hc : os_cl[ci]? = some (C, T, N)) (hj : j < N) (hi : i < os_n σ K) (hlink : (Cond.fieldLinkNest own index (T j).1 (T j).2.1 (T j).2.2.1 host).before args s = true) (hfin : (T j).2.2.2 = false) (htg : os_tg K j = none) (hlg : os_lg K = false) (hd : parseFieldDescriptor (T j).2.2.1 = some ty) (hn : narrow ty (.int v) = .int v) (hfit : fits ty (.int v) = true) (hdg : decode cc pc = .ok (.putfield index, 3))
    (kk : ∀ (H1 : Heap) (locs1 : List Loc), os_V D cA bs σ0 ad0 s (os_sg σ K j i v) ad H1 locs1 → W p l e R s m args below meth c H1 locs1 cells slots Q (F0 m (pc + 3) ls rest)) : W p l e R s m args below meth c H locs cells slots Q (F0 m pc ls (.int v :: .ref (ad K i) :: rest)) := by
  obtain ⟨cell, cf, kf, fi, f, hi', hst, hsl, q1, q2, q3, q4⟩ := os_slot hts hin hK hV.1 hs hc hj hi
  have hap := va_apart (own := own) hts hin ty0 hty hnm hK hc
  obtain ⟨hS, hfc, kC, hkC, hkind⟩ := hK.1 ci _ hc
  have hlay := hts _ (hin _ (u_in_lay hj))
  unfold u_lay at hlay
  rw [if_neg (by rw [hfin]; decide)] at hlay
  have h6 := u_store hfc hkC hkind hlay hi' hd hn hfit
  refine va_WputK hx hb (f := f) hown hlink hi' hst (by rw [q2]; exact h6) q1 q3 (by rw [hsl]; exact k2_hasslot (q4 j hj)) rfl rfl hdg fun H' e1 e2 e3 => ?_
  rw [hsl] at e1
  exact kk H' _ (hV.sg hi (os_atset hs hc hj hap q2 q3 q4 e1 (os_fv_sgs htg hlg) (fun k hk => os_fv_sg hk)) e2 e3)
/-- a final field of an int, in its own constructor -/
theorem os_putIF (hx : p.tables.exec = Jvm.exec) (hb : c.code = cc) {own C : String} {T : u_T} {N ci index K j i : Nat} {fds : List (Option Nat)} {Ts : List Cond} {v : Int32} {ty : FieldType} (hts : ∀ w ∈ Ts, w.before args s = true) (hin : ∀ w ∈ u_ws C T N, w ∈ Ts) (ty0 : Nat → FieldType) (hty : ∀ k, k < N → parseFieldDescriptor (T k).2.2.1 = some (ty0 k)) (hnm : ∀ a, a < N → ∀ b, b < N → a ≠ b → (T a).2.1 ≠ (T b).2.1) (hown : s.vm.findClass own = some m.cls) (hK : va_K D os_cl tys s) (hV : os_V D cA bs σ0 ad0 s σ ad H locs)
    (hs : os_sc K = .inl (ci, fds)) (hc : os_cl[ci]? = some (C, T, N)) (hj : j < N) (hi : i < os_n σ K) (hlink : (Cond.fieldLink own index (T j).1 (T j).2.1 (T j).2.2.1).before args s = true) (hfin : (T j).2.2.2 = true) (hin2 : meth.name = "<init>") (hdecl : (T j).1 = own) (htg : os_tg K j = none) (hlg : os_lg K = false) (hd : parseFieldDescriptor (T j).2.2.1 = some ty) (hn : narrow ty (.int v) = .int v) (hfit : fits ty (.int v) = true) (hdg : decode cc pc = .ok (.putfield index, 3))
    (kk : ∀ (H1 : Heap) (locs1 : List Loc), os_V D cA bs σ0 ad0 s (os_sg σ K j i v) ad H1 locs1 → W p l e R s m args below meth c H1 locs1 cells slots Q (F0 m (pc + 3) ls rest)) : W p l e R s m args below meth c H locs cells slots Q (F0 m pc ls (.int v :: .ref (ad K i) :: rest)) := by
  obtain ⟨cell, cf, kf, fi, f, hi', hst, hsl, q1, q2, q3, q4⟩ := os_slot hts hin hK hV.1 hs hc hj hi
  have hap := va_apart (own := own) hts hin ty0 hty hnm hK hc
  obtain ⟨hS, hfc, kC, hkC, hkind⟩ := hK.1 ci _ hc
  have hlay := hts _ (hin _ (u_in_lay hj))
  unfold u_lay at hlay
  rw [if_pos hfin] at hlay
  have hcf : m.cls = cf := by
    obtain ⟨_, _, c', _, _, _, -, -, hf', -, -, -, hown2, -⟩ := Cond.laysFinal_spec hlay
    have e1 : c' = cf := by have := hi'.symm.trans hf'; simp at this; exact this.1.symm
    rw [hdecl] at hown2
    rw [← e1]; exact Option.some.inj (hown.symm.trans hown2)
  have h6 := u_fits hfc hkC hkind (Or.inr hlay) hi' hd hn hfit
  refine W.putFinK hx hb hown hlink hi' hst hcf hin2 (by rw [q2]; exact h6) q1 q3 (by rw [hsl]; exact k2_hasslot (q4 j hj)) rfl rfl hdg fun H' e1 e2 e3 => ?_
  rw [hsl] at e1
  exact kk H' _ (hV.sg hi (os_atset hs hc hj hap q2 q3 q4 e1 (os_fv_sgs htg hlg) (fun k hk => os_fv_sg hk)) e2 e3)
theorem os_rfit (C : String) (r : Option Nat) : narrow (.object C) (va_rf r) = va_rf r ∧ fits (.object C) (va_rf r) = true := by cases r <;> exact ⟨rfl, rfl⟩
theorem os_rfitA (t : FieldType) (r : Option Nat) : narrow (.array t) (va_rf r) = va_rf r ∧ fits (.array t) (va_rf r) = true := by cases r <;> exact ⟨rfl, rfl⟩
theorem os_putR (hx : p.tables.exec = Jvm.exec) (hb : c.code = cc) {own C : String} {T : u_T} {N ci index K j i kt : Nat} {fds : List (Option Nat)} {Ts : List Cond} {v : Option Nat} {x : Value} {ty : FieldType} (hts : ∀ w ∈ Ts, w.before args s = true) (hin : ∀ w ∈ u_ws C T N, w ∈ Ts) (ty0 : Nat → FieldType) (hty : ∀ k, k < N → parseFieldDescriptor (T k).2.2.1 = some (ty0 k)) (hnm : ∀ a, a < N → ∀ b, b < N → a ≠ b → (T a).2.1 ≠ (T b).2.1) (hown : s.vm.findClass own = some m.cls) (hK : va_K D os_cl tys s) (hV : os_V D cA bs σ0 ad0 s σ ad H locs)
    (hs : os_sc K = .inl (ci, fds)) (hc : os_cl[ci]? = some (C, T, N)) (hj : j < N) (hi : i < os_n σ K) (hlink : (Cond.fieldLink own index (T j).1 (T j).2.1 (T j).2.2.1).before args s = true) (hfin : (T j).2.2.2 = false) (htg : os_tg K j = some kt) (hxv : x = va_rf (v.map (ad kt))) (hvt : ∀ t, v = some t → t < os_n σ kt) (hd : parseFieldDescriptor (T j).2.2.1 = some ty) (hn : narrow ty x = x ∧ fits ty x = true) (hdg : decode cc pc = .ok (.putfield index, 3))
    (kk : ∀ (H1 : Heap) (locs1 : List Loc), os_V D cA bs σ0 ad0 s (os_sr σ K j i v) ad H1 locs1 → W p l e R s m args below meth c H1 locs1 cells slots Q (F0 m (pc + 3) ls rest)) : W p l e R s m args below meth c H locs cells slots Q (F0 m pc ls (x :: .ref (ad K i) :: rest)) := by
  obtain ⟨cell, cf, kf, fi, f, hi', hst, hsl, q1, q2, q3, q4⟩ := os_slot hts hin hK hV.1 hs hc hj hi
  have hap := va_apart (own := own) hts hin ty0 hty hnm hK hc
  obtain ⟨hS, hfc, kC, hkC, hkind⟩ := hK.1 ci _ hc
  have hlay := hts _ (hin _ (u_in_lay hj))
  unfold u_lay at hlay
  rw [if_neg (by rw [hfin]; decide)] at hlay
  have h6 := u_store hfc hkC hkind hlay hi' hd hn.1 hn.2
  refine W.putK hx hb (f := f) ⟨hown, hlink, ⟨_, _, _, hi'⟩, hst⟩ (by rw [q2]; exact h6) q1 q3 (by rw [hsl]; exact k2_hasslot (q4 j hj)) rfl rfl hdg fun H' e1 e2 e3 => ?_
  rw [hsl] at e1
  exact kk H' _ (hV.sr hi (fun k t h1 h2 => by rw [htg] at h1; cases h1; exact hvt t h2) (os_atset hs hc hj hap q2 q3 q4 e1 ((os_fv_srs htg).trans hxv.symm) (fun k hk => os_fv_sr hk)) e2 e3)
theorem os_putRF (hx : p.tables.exec = Jvm.exec) (hb : c.code = cc) {own C : String} {T : u_T} {N ci index K j i kt : Nat} {fds : List (Option Nat)} {Ts : List Cond} {v : Option Nat} {x : Value} {ty : FieldType} (hts : ∀ w ∈ Ts, w.before args s = true) (hin : ∀ w ∈ u_ws C T N, w ∈ Ts) (ty0 : Nat → FieldType) (hty : ∀ k, k < N → parseFieldDescriptor (T k).2.2.1 = some (ty0 k)) (hnm : ∀ a, a < N → ∀ b, b < N → a ≠ b → (T a).2.1 ≠ (T b).2.1) (hown : s.vm.findClass own = some m.cls) (hK : va_K D os_cl tys s) (hV : os_V D cA bs σ0 ad0 s σ ad H locs)
    (hs : os_sc K = .inl (ci, fds)) (hc : os_cl[ci]? = some (C, T, N)) (hj : j < N) (hi : i < os_n σ K) (hlink : (Cond.fieldLink own index (T j).1 (T j).2.1 (T j).2.2.1).before args s = true) (hfin : (T j).2.2.2 = true) (hin2 : meth.name = "<init>") (hdecl : (T j).1 = own) (htg : os_tg K j = some kt) (hxv : x = va_rf (v.map (ad kt))) (hvt : ∀ t, v = some t → t < os_n σ kt) (hd : parseFieldDescriptor (T j).2.2.1 = some ty) (hn : narrow ty x = x ∧ fits ty x = true) (hdg : decode cc pc = .ok (.putfield index, 3))
    (kk : ∀ (H1 : Heap) (locs1 : List Loc), os_V D cA bs σ0 ad0 s (os_sr σ K j i v) ad H1 locs1 → W p l e R s m args below meth c H1 locs1 cells slots Q (F0 m (pc + 3) ls rest)) : W p l e R s m args below meth c H locs cells slots Q (F0 m pc ls (x :: .ref (ad K i) :: rest)) := by
  obtain ⟨cell, cf, kf, fi, f, hi', hst, hsl, q1, q2, q3, q4⟩ := os_slot hts hin hK hV.1 hs hc hj hi
  have hap := va_apart (own := own) hts hin ty0 hty hnm hK hc
  obtain ⟨hS, hfc, kC, hkC, hkind⟩ := hK.1 ci _ hc
  have hlay := hts _ (hin _ (u_in_lay hj))
  unfold u_lay at hlay
  rw [if_pos hfin] at hlay
  have hcf : m.cls = cf := by
    obtain ⟨_, _, c', _, _, _, -, -, hf', -, -, -, hown2, -⟩ := Cond.laysFinal_spec hlay
    have e1 : c' = cf := by have := hi'.symm.trans hf'; simp at this; exact this.1.symm
    rw [hdecl] at hown2
    rw [← e1]; exact Option.some.inj (hown.symm.trans hown2)
  have h6 := u_fits hfc hkC hkind (Or.inr hlay) hi' hd hn.1 hn.2
  refine W.putFinK hx hb hown hlink hi' hst hcf hin2 (by rw [q2]; exact h6) q1 q3 (by rw [hsl]; exact k2_hasslot (q4 j hj)) rfl rfl hdg fun H' e1 e2 e3 => ?_
  rw [hsl] at e1
  exact kk H' _ (hV.sr hi (fun k t h1 h2 => by rw [htg] at h1; cases h1; exact hvt t h2) (os_atset hs hc hj hap q2 q3 q4 e1 ((os_fv_srs htg).trans hxv.symm) (fun k hk => os_fv_sr hk)) e2 e3)
/-- arrays -/
theorem os_arr {K i t : Nat} {x : Option Nat} (hW : os_W D cA bs σ ad H) (hs : os_sc K = .inr (t, x)) (hi : i < os_n σ K) : H[ad K i]? = some (arrV (cA t) (os_l σ K i) (os_fv σ ad K i)) := by
  have h := hW.1 K i hi
  unfold os_at at h
  rw [hs] at h
  exact h
theorem os_alen (hx : p.tables.exec = Jvm.exec) (hb : c.code = cc) {K i t t0 : Nat} {x : Option Nat} {ty : FieldType} {v : Int32} (hK : va_K D os_cl tys s) (hV : os_V D cA bs σ0 ad0 s σ ad H locs) (hs : os_sc K = .inr (t, x)) (ht : tys[t0]? = some (cA t, ty)) (hi : i < os_n σ K) (hv : Int32.ofNat (os_l σ K i) = v) (hdg : decode cc pc = .ok (.arraylength, 1))
    (kk : W p l e R s m args below meth c H locs cells slots Q (F0 m (pc + 1) ls (.int v :: rest))) : W p l e R s m args below meth c H locs cells slots Q (F0 m pc ls (.ref (ad K i) :: rest)) := by
  subst hv
  exact W.alen (n := Int32.ofNat (os_l σ K i)) hx hb (os_arr hV.1 hs hi) ((hK.2 t0 _ ht).1 _ _) (by rw [arrV_size] <;> rfl) rfl rfl hdg kk
theorem os_iald (hx : p.tables.exec = Jvm.exec) (hb : c.code = cc) {K i t t0 : Nat} {ix : Int32} (hK : va_K D os_cl tys s) (hV : os_V D cA bs σ0 ad0 s σ ad H locs) (hs : os_sc K = .inr (t, none)) (hlg : os_lg K = false) (ht : tys[t0]? = some (cA t, .int)) (hi : i < os_n σ K) (hin : vp_in ix (os_l σ K i)) (hdg : decode cc pc = .ok (.iaload, 1))
    (kk : W p l e R s m args below meth c H locs cells slots Q (F0 m (pc + 1) ls (.int (os_g σ K ix.toNatClampNeg i) :: rest))) : W p l e R s m args below meth c H locs cells slots Q (F0 m pc ls (.int ix :: .ref (ad K i) :: rest)) := by
  have hlt : ix.toNatClampNeg < os_l σ K i := Nat.not_le.mp fun q => hin (Or.inr q)
  have hfv : os_fv σ ad K i ix.toNatClampNeg = .int (os_g σ K ix.toNatClampNeg i) := by unfold os_fv os_tg; rw [hs]; simp [hlg]
  exact W.iald (v := .int (os_g σ K ix.toNatClampNeg i)) hx hb (os_arr hV.1 hs hi) ((hK.2 t0 _ ht).1 _ _) (fun q => by cases q) (by rw [arrV_size]; exact hin) (by rw [arrV_read _ _ hlt, hfv]) rfl rfl hdg kk
theorem os_aald (hx : p.tables.exec = Jvm.exec) (hb : c.code = cc) {K i t t0 kt : Nat} {C : String} {ix : Int32} (hK : va_K D os_cl tys s) (hV : os_V D cA bs σ0 ad0 s σ ad H locs) (hs : os_sc K = .inr (t, some kt)) (ht : tys[t0]? = some (cA t, .object C)) (hi : i < os_n σ K) (hin : vp_in ix (os_l σ K i)) (hdg : decode cc pc = .ok (.aaload, 1))
    (kk : W p l e R s m args below meth c H locs cells slots Q (F0 m (pc + 1) ls (va_rf ((os_r σ K ix.toNatClampNeg i).map (ad kt)) :: rest))) : W p l e R s m args below meth c H locs cells slots Q (F0 m pc ls (.int ix :: .ref (ad K i) :: rest)) := by
  have hlt : ix.toNatClampNeg < os_l σ K i := Nat.not_le.mp fun q => hin (Or.inr q)
  have hfv : os_fv σ ad K i ix.toNatClampNeg = va_rf ((os_r σ K ix.toNatClampNeg i).map (ad kt)) := by unfold os_fv os_tg; rw [hs]
  exact W.aald (v := va_rf ((os_r σ K ix.toNatClampNeg i).map (ad kt))) (ty := .object C) hx hb (os_arr hV.1 hs hi) ((hK.2 t0 _ ht).1 _ _) rfl (fun q => by cases q) (by rw [arrV_size]; exact hin) (by rw [arrV_read _ _ hlt, hfv]) rfl rfl hdg kk
theorem os_arrset {K i t j : Nat} {x : Option Nat} {σ' : os_S} {v : Value} {H1 : Heap} (hs : os_sc K = .inr (t, x)) (hl : os_l σ' K i = os_l σ K i) (e1 : H1[ad K i]? = some ((arrV (cA t) (os_l σ K i) (os_fv σ ad K i)).setSlot j v)) (h1 : os_fv σ' ad K i j = v) (h2 : ∀ k, k ≠ j → os_fv σ' ad K i k = os_fv σ ad K i k) : os_at D cA σ' ad H1 K i := by
  unfold os_at
  rw [hs]
  show H1[ad K i]? = some (arrV (cA t) (os_l σ' K i) (os_fv σ' ad K i))
  rw [e1, arrV_store, hl]
  congr 2
  funext k
  by_cases hk : k = j
  · subst hk
    simp [updV, h1]
  · simp [updV, hk, h2 k hk]
theorem os_iast (hx : p.tables.exec = Jvm.exec) (hb : c.code = cc) {K i t t0 : Nat} {ix v : Int32} (hK : va_K D os_cl tys s) (hV : os_V D cA bs σ0 ad0 s σ ad H locs) (hs : os_sc K = .inr (t, none)) (hlg : os_lg K = false) (ht : tys[t0]? = some (cA t, .int)) (hi : i < os_n σ K) (hin : vp_in ix (os_l σ K i)) (hdg : decode cc pc = .ok (.iastore, 1))
    (kk : ∀ (H1 : Heap) (locs1 : List Loc), os_V D cA bs σ0 ad0 s (os_sg σ K ix.toNatClampNeg i v) ad H1 locs1 → W p l e R s m args below meth c H1 locs1 cells slots Q (F0 m (pc + 1) ls rest)) : W p l e R s m args below meth c H locs cells slots Q (F0 m pc ls (.int v :: .int ix :: .ref (ad K i) :: rest)) := by
  have htg : os_tg K ix.toNatClampNeg = none := by unfold os_tg; rw [hs]
  refine W.iast hx hb (os_arr hV.1 hs hi) ((hK.2 t0 _ ht).1 _ _) (fun q => by cases q) (by rw [arrV_size]; exact hin) rfl rfl hdg fun H1 e1 e2 e3 => ?_
  exact kk H1 _ (hV.sg hi (os_arrset (σ := σ) (σ' := os_sg σ K ix.toNatClampNeg i v) hs rfl e1 (os_fv_sgs htg hlg) (fun k hk => os_fv_sg hk)) e2 e3)
theorem os_zald (hx : p.tables.exec = Jvm.exec) (hb : c.code = cc) {K i t t0 : Nat} {ix : Int32} (hK : va_K D os_cl tys s) (hV : os_V D cA bs σ0 ad0 s σ ad H locs) (hs : os_sc K = .inr (t, none)) (hlg : os_lg K = false) (ht : tys[t0]? = some (cA t, .boolean)) (hi : i < os_n σ K) (hin : vp_in ix (os_l σ K i)) (hdg : decode cc pc = .ok (.baload, 1))
    (kk : W p l e R s m args below meth c H locs cells slots Q (F0 m (pc + 1) ls (.int (os_g σ K ix.toNatClampNeg i) :: rest))) : W p l e R s m args below meth c H locs cells slots Q (F0 m pc ls (.int ix :: .ref (ad K i) :: rest)) := by
  have hlt : ix.toNatClampNeg < os_l σ K i := Nat.not_le.mp fun q => hin (Or.inr q)
  have hfv : os_fv σ ad K i ix.toNatClampNeg = .int (os_g σ K ix.toNatClampNeg i) := by unfold os_fv os_tg; rw [hs]; simp [hlg]
  exact W.zald (v := .int (os_g σ K ix.toNatClampNeg i)) hx hb (os_arr hV.1 hs hi) ((hK.2 t0 _ ht).1 _ _) (fun q => by cases q) (by rw [arrV_size]; exact hin) (by rw [arrV_read _ _ hlt, hfv]) rfl rfl hdg kk
theorem os_zast (hx : p.tables.exec = Jvm.exec) (hb : c.code = cc) {K i t t0 : Nat} {ix v : Int32} (hK : va_K D os_cl tys s) (hV : os_V D cA bs σ0 ad0 s σ ad H locs) (hs : os_sc K = .inr (t, none)) (hlg : os_lg K = false) (ht : tys[t0]? = some (cA t, .boolean)) (hi : i < os_n σ K) (hin : vp_in ix (os_l σ K i)) (hv : narrow .boolean (.int v) = .int v) (hdg : decode cc pc = .ok (.bastore, 1))
    (kk : ∀ (H1 : Heap) (locs1 : List Loc), os_V D cA bs σ0 ad0 s (os_sg σ K ix.toNatClampNeg i v) ad H1 locs1 → W p l e R s m args below meth c H1 locs1 cells slots Q (F0 m (pc + 1) ls rest)) : W p l e R s m args below meth c H locs cells slots Q (F0 m pc ls (.int v :: .int ix :: .ref (ad K i) :: rest)) := by
  have htg : os_tg K ix.toNatClampNeg = none := by unfold os_tg; rw [hs]
  refine W.zast hx hb (os_arr hV.1 hs hi) ((hK.2 t0 _ ht).1 _ _) (fun q => by cases q) (by rw [arrV_size]; exact hin) rfl rfl hdg fun H1 e1 e2 e3 => ?_
  rw [hv] at e1
  exact kk H1 _ (hV.sg hi (os_arrset (σ := σ) (σ' := os_sg σ K ix.toNatClampNeg i v) hs rfl e1 (os_fv_sgs htg hlg) (fun k hk => os_fv_sg hk)) e2 e3)
theorem os_lald (hx : p.tables.exec = Jvm.exec) (hb : c.code = cc) {K i t t0 : Nat} {ix : Int32} (hK : va_K D os_cl tys s) (hV : os_V D cA bs σ0 ad0 s σ ad H locs) (hs : os_sc K = .inr (t, none)) (hlg : os_lg K = true) (ht : tys[t0]? = some (cA t, .long)) (hi : i < os_n σ K) (hin : vp_in ix (os_l σ K i)) (hdg : decode cc pc = .ok (.laload, 1))
    (kk : W p l e R s m args below meth c H locs cells slots Q (F0 m (pc + 1) ls (.long (os_g σ K ix.toNatClampNeg i).toInt64 :: rest))) : W p l e R s m args below meth c H locs cells slots Q (F0 m pc ls (.int ix :: .ref (ad K i) :: rest)) := by
  have hlt : ix.toNatClampNeg < os_l σ K i := Nat.not_le.mp fun q => hin (Or.inr q)
  have hfv : os_fv σ ad K i ix.toNatClampNeg = .long (os_g σ K ix.toNatClampNeg i).toInt64 := by unfold os_fv os_tg; rw [hs]; simp [hlg]
  exact W.lald (v := .long (os_g σ K ix.toNatClampNeg i).toInt64) hx hb (os_arr hV.1 hs hi) ((hK.2 t0 _ ht).1 _ _) (fun q => by cases q) (by rw [arrV_size]; exact hin) (by rw [arrV_read _ _ hlt, hfv]) rfl rfl hdg kk
theorem os_last (hx : p.tables.exec = Jvm.exec) (hb : c.code = cc) {K i t t0 : Nat} {ix v : Int32} (hK : va_K D os_cl tys s) (hV : os_V D cA bs σ0 ad0 s σ ad H locs) (hs : os_sc K = .inr (t, none)) (hlg : os_lg K = true) (ht : tys[t0]? = some (cA t, .long)) (hi : i < os_n σ K) (hin : vp_in ix (os_l σ K i)) (hdg : decode cc pc = .ok (.lastore, 1))
    (kk : ∀ (H1 : Heap) (locs1 : List Loc), os_V D cA bs σ0 ad0 s (os_sg σ K ix.toNatClampNeg i v) ad H1 locs1 → W p l e R s m args below meth c H1 locs1 cells slots Q (F0 m (pc + 1) ls rest)) : W p l e R s m args below meth c H locs cells slots Q (F0 m pc ls (.long v.toInt64 :: .int ix :: .ref (ad K i) :: rest)) := by
  have htg : os_tg K ix.toNatClampNeg = none := by unfold os_tg; rw [hs]
  refine W.last hx hb (os_arr hV.1 hs hi) ((hK.2 t0 _ ht).1 _ _) (fun q => by cases q) (by rw [arrV_size]; exact hin) rfl rfl hdg fun H1 e1 e2 e3 => ?_
  exact kk H1 _ (hV.sg hi (os_arrset (σ := σ) (σ' := os_sg σ K ix.toNatClampNeg i v) hs rfl e1 (os_fv_sgl htg hlg) (fun k hk => os_fv_sg hk)) e2 e3)
theorem os_aastN (hx : p.tables.exec = Jvm.exec) (hb : c.code = cc) {K i t t0 kt : Nat} {C : String} {ix : Int32} (hK : va_K D os_cl tys s) (hV : os_V D cA bs σ0 ad0 s σ ad H locs) (hs : os_sc K = .inr (t, some kt)) (ht : tys[t0]? = some (cA t, .object C)) (hi : i < os_n σ K) (hin : vp_in ix (os_l σ K i)) (hdg : decode cc pc = .ok (.aastore, 1))
    (kk : ∀ (H1 : Heap) (locs1 : List Loc), os_V D cA bs σ0 ad0 s (os_sr σ K ix.toNatClampNeg i none) ad H1 locs1 → W p l e R s m args below meth c H1 locs1 cells slots Q (F0 m (pc + 1) ls rest)) : W p l e R s m args below meth c H locs cells slots Q (F0 m pc ls (.null :: .int ix :: .ref (ad K i) :: rest)) := by
  have htg : os_tg K ix.toNatClampNeg = some kt := by unfold os_tg; rw [hs]
  refine va_WaastN (C := C) hx hb (os_arr hV.1 hs hi) ((hK.2 t0 _ ht).1 _ _) (fun q => by cases q) (by rw [arrV_size]; exact hin) rfl rfl hdg fun H1 e1 e2 e3 => ?_
  exact kk H1 _ (hV.sr hi (fun k t _ h => by cases h) (os_arrset (σ := σ) (σ' := os_sr σ K ix.toNatClampNeg i none) hs rfl e1 ((os_fv_srs htg).trans rfl) (fun k hk => os_fv_sr hk)) e2 e3)
theorem os_aast (hx : p.tables.exec = Jvm.exec) (hb : c.code = cc) {K i t t0 kt ck x : Nat} {r : vw_C} {fds : List (Option Nat)} {ix : Int32} (hK : va_K D os_cl tys s) (hV : os_V D cA bs σ0 ad0 s σ ad H locs) (hs : os_sc K = .inr (t, some kt)) (hsk : os_sc kt = .inl (ck, fds)) (hc : os_cl[ck]? = some r) (ht : tys[t0]? = some (cA t, .object r.1)) (hi : i < os_n σ K) (hxt : x < os_n σ kt) (hin : vp_in ix (os_l σ K i)) (hdg : decode cc pc = .ok (.aastore, 1))
    (kk : ∀ (H1 : Heap) (locs1 : List Loc), os_V D cA bs σ0 ad0 s (os_sr σ K ix.toNatClampNeg i (some x)) ad H1 locs1 → W p l e R s m args below meth c H1 locs1 cells slots Q (F0 m (pc + 1) ls rest)) : W p l e R s m args below meth c H locs cells slots Q (F0 m pc ls (.ref (ad kt x) :: .int ix :: .ref (ad K i) :: rest)) := by
  have htg : os_tg K ix.toNatClampNeg = some kt := by unfold os_tg; rw [hs]
  have hlt : ix.toNatClampNeg < os_l σ K i := Nat.not_le.mp fun q => hin (Or.inr q)
  have h0 : ¬ ix < 0 := fun q => hin (Or.inl q)
  have hv := hV.1.1 kt x hxt
  unfold os_at at hv
  rw [hsk] at hv
  obtain ⟨r', hr', cellV, g1, g2, g3, -⟩ := hv
  have hcls := (hK.1 ck r hc).2
  obtain ⟨kA, comp, k1, k2, k3, -⟩ := (hK.2 t0 _ ht).2
  have hcomp : comp = D.1 ck := Option.some.inj (k3.symm.trans hcls.1)
  subst hcomp
  obtain ⟨kC, hkC, -⟩ := hcls.2
  refine W.aast hx hb (os_arr hV.1 hs hi) (fun q h => by cases h) (fun h => by cases h) k1 k2 rfl hkC ⟨h0, by rw [arrV_size]; exact hlt⟩ g1 (fun q h => by rw [g3] at h; cases h) (by rw [g2]; exact hkC) (by rw [g2]; exact va_assign hcls) rfl rfl hdg fun H1 e1 e2 e3 => ?_
  exact kk H1 _ (hV.sr hi (fun k t h1 h2 => by rw [htg] at h1; cases h1; cases h2; exact hxt) (os_arrset (σ := σ) (σ' := os_sr σ K ix.toNatClampNeg i (some x)) hs rfl e1 ((os_fv_srs htg).trans rfl) (fun k hk => os_fv_sr hk)) e2 e3)
end OSR
