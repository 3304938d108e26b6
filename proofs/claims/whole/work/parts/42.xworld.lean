/-! METHODS THAT THROW, over my world -/
abbrev eI : String := "java/lang/IllegalArgumentException"
abbrev eU : String := "java/lang/UnsupportedOperationException"
abbrev eX : String := "java/lang/IndexOutOfBoundsException"
abbrev xNm : List String := ["java/lang/RuntimeException", "java/lang/Exception"]
/-- words that are no good ones, yet stay true -/
def xC : List String := [eI, eU, eX]
def xDl : List String := ["java/lang/RuntimeException", "java/lang/Exception", "java/lang/Throwable"]
def xNc : List (String × String) := [(eU, eI), (eX, eI)]
def xStr : List (Nat × String) := [(152, "no such row"), (74, "the row is full"), (84, "no such line"), (96, "no such pair or side"), (106, "no such hunk or what"), (154, "the row would have too many lines"), (125, "no such conflict or what"), (136, "there are as many versions as there can be"), (143, "no such version")]
def hXs (U : State) : Prop := va_AO RRo U ∧ (∀ E ∈ xC, va_Nw (.castable E E) U) ∧ (∀ Y ∈ xDl, va_Nw (.declares (Bundle.initS Y)) U) ∧ (∀ q ∈ xNc, va_Nc q.1 q.2 U) ∧ ∀ q ∈ xStr, ∃ sa, vk_R RMR q.1 q.2 sa U
theorem hXs.warm {s U : State} (hW : s.WarmedH U.vm) (h : hXs s) : hXs U := ⟨va_AO.moved hW.alike h.1, fun E hE => va_Nw.warmC hW (h.2.1 E hE), fun Y hY => va_Nw.warmD hW (h.2.2.1 Y hY), fun q hq => va_Nc.moved hW.alike (h.2.2.2.1 q hq), fun q hq => by
  obtain ⟨sa, hs⟩ := h.2.2.2.2 q hq
  exact ⟨sa, vk_R.warm hW hs⟩⟩
theorem hXs.same {s U : State} (hv : s.vm = U.vm) (h : hXs s) : hXs U := hXs.warm (by rw [← hv]; exact State.WarmedH.refl s) h
/-- the two statics of Throwable lie outside A -/
def hZZ (A : Nat → Prop) (U : State) (H : Heap) : Prop := vx_Zq Bundle.tN "UNASSIGNED_STACK" Bundle.steD A U H ∧ vx_Zq Bundle.tN "SUPPRESSED_SENTINEL" Bundle.listD A U H
theorem hZZ.moved {A : Nat → Prop} {u U : State} {H : Heap} (hvm : u.vm.Alike U.vm) (h : hZZ A u H) : hZZ A U H := ⟨h.1.moved hvm, h.2.moved hvm⟩
theorem hZZ.narrow {A B : Nat → Prop} {U : State} {H : Heap} (h : hZZ A U H) (hAB : ∀ q, B q → A q) : hZZ B U H := ⟨h.1.narrow hAB, h.2.narrow hAB⟩
theorem hZZ.kept {A : Nat → Prop} {U : State} {H H1 : Heap} {locs : List Loc} (h : hZZ A U H) (hS : va_S A H H1 locs) : hZZ A U H1 := ⟨h.1.kept hS.2.1, h.2.kept hS.2.1⟩
theorem hw.kept {D : va_G} {cl : List vw_C} {A : Nat → Prop} {g : Nat → Option va_E} {H H1 : Heap} (h : hw D cl A g H) (hq : ∀ q : Nat, q < H.size → H1[q]? = H[q]?) : hw D cl A g H1 := fun a x he => ⟨(h a x he).1.kept (hq a (h.lt he)), (h a x he).2⟩
section XW
variable {p : Program} {l : Launch} {e : Env} {R : Room} {s : State} {m : MethodId} {args : Array Value} {below : List Frame} {meth : Method} {c : Code} {H : Heap} {locs : List Loc} {cells slots : Nat} {Q : State → Prop}
variable {cc bytes : ByteArray} {pc nL maxL index n sz : Nat} {ls : Array Slot} {rest st0 As av : List Value} {D : va_G} {A : Nat → Prop} {b : Nat} {tys : List (ClassId × FieldType)} {H0 : Heap} {own : String} {g : Nat → Option va_E} {y : MethodName} {rm rk : Room} {ret : Option FieldType}
def hPreX (D : va_G) (tys : List (ClassId × FieldType)) (g : Nat → Option va_E) (sz : Nat) : State → Prop := fun U => hPre D tys g sz U ∧ hXs U ∧ hZZ (hA g sz) U U.heap
theorem hPreX_blind : FrameBlind (va_Pc av (hPreX D tys g sz)) := fun a U g9 mk q => by
  obtain ⟨q0, q1, q2, q3⟩ := q
  exact ⟨q0, (hPre_blind (av := av) a U g9 mk ⟨q0, q1⟩).2, hXs.same (s := U) rfl q2, hZZ.moved (u := U) (U := U.calling g9 mk a) (Vm.Alike.refl U.vm) q3⟩
theorem hPreX_at (hK : va_K D hC tys s) (hg : hw D hC A g H) (hS : va_S A H0 H locs) (hA0 : ∀ q, H0.size ≤ q → A q) (hx : hXs s) (hz : hZZ A s H0) : ∀ U : State, U.heap = H → s.WarmedH U.vm → va_Pc av (hPreX D tys g H.size) av.toArray U := fun U hU hW =>
  ⟨rfl, (hPre_at (av := av) hK hg U hU hW).2, hXs.warm hW hx, by rw [hU]; exact ((hz.kept hS).narrow (hA.sub hg hS hA0)).moved hW.alike⟩
/-- what is thrown, and the world then -/
def xX (D : va_G) (tys : List (ClassId × FieldType)) (A : Nat → Prop) (postX : String → (Nat → Option va_E) → Prop) : String → State → State → Prop := vx_X (S := Nat → Option va_E) (fun _ => True) (fun E g1 t => postX E g1 ∧ hw D hC A g1 t.heap ∧ va_K D hC tys t) A
abbrev xMi (l : Launch) (y : MethodName) (cc : ByteArray) (maxL : Nat) (ty : FieldType) (rm : Room) (D : va_G) (tys : List (ClassId × FieldType)) (g : Nat → Option va_E) (sz : Nat) (av : List Value) (post : Int32 → (Nat → Option va_E) → Prop) (postX : String → (Nat → Option va_E) → Prop) : Prop := vx_Met l y (Cond.code y cc maxL (some ty) :: hB) rm (va_Pc av (hPreX D tys g sz)) (va_Qi post (hPo D tys (hA g sz)) (hA g sz)) (xX D tys (hA g sz) postX) rm.cells rm.slots (hA g sz)
abbrev xMv (l : Launch) (y : MethodName) (cc : ByteArray) (maxL : Nat) (rm : Room) (D : va_G) (tys : List (ClassId × FieldType)) (g : Nat → Option va_E) (sz : Nat) (av : List Value) (post : (Nat → Option va_E) → Prop) (postX : String → (Nat → Option va_E) → Prop) : Prop := vx_Met l y (Cond.code y cc maxL none :: hB) rm (va_Pc av (hPreX D tys g sz)) (va_Qv post (hPo D tys (hA g sz)) (hA g sz)) (xX D tys (hA g sz) postX) rm.cells rm.slots (hA g sz)
abbrev xMr (l : Launch) (y : MethodName) (cc : ByteArray) (maxL : Nat) (rt : FieldType) (rm : Room) (D : va_G) (tys : List (ClassId × FieldType)) (g : Nat → Option va_E) (sz : Nat) (av : List Value) (post : Nat → (Nat → Option va_E) → Prop) (postX : String → (Nat → Option va_E) → Prop) : Prop := vx_Met l y (Cond.code y cc maxL (some rt) :: hB) rm (va_Pc av (hPreX D tys g sz)) (va_Qr (fun _ => True) (hPor D tys (hA g sz) post) (hA g sz)) (xX D tys (hA g sz) postX) rm.cells rm.slots (hA g sz)
/-- the words of one kind of throw in MergeRows -/
def xCls (cls : String) (ik ic : Nat) : Prop := Cond.classLink RMR ik cls ∈ hB ∧ Cond.initialized cls ∈ hB ∧ Bundle.fit cls = true ∧ cls ∈ xC ∧ (∀ w ∈ (vx_atS RMR ic cls xNm).filter goodWord, w ∈ hB) ∧ (∀ w ∈ (vx_atS RMR ic cls xNm).filter (fun w => !goodWord w), w ∈ (Cond.castable cls cls :: xDl.map (fun Y => Cond.declares (Bundle.initS Y)))) ∧ (∀ w ∈ vx_atS RMR ic cls xNm, vx_ot w = true)
/-- a place where one is thrown -/
def xSite (cc : ByteArray) (cls text : String) (ik is ic pc : Nat) : Prop := xCls cls ik ic ∧ (is, text) ∈ xStr ∧ decode cc pc = .ok (.new ik, 3) ∧ decode cc (pc + 3) = .ok (.dup, 1) ∧ decode cc (pc + 4) = .ok (.ldc is, 2) ∧ decode cc (pc + 6) = .ok (.invokespecial ic, 3) ∧ decode cc (pc + 9) = .ok (.athrow, 1)
abbrev xOut (D : va_G) (postX : String → (Nat → Option va_E) → Prop) (mc ms : Nat) (VW : Heap → List Loc → Nat → Nat → JFrame → Addr → Prop) (m : MethodId) (s : State) (A : Nat → Prop) : Prop :=
  ∀ (E : String) (ce : Cell) (q : Addr) (g1 : Nat → Option va_E) (H : Heap) (locs : List Loc) (ls : Array Slot) (pc : Nat) (rest : List Value) (cells slots : Nat), cells ≤ mc → slots ≤ ms → postX E g1 → hw D hC A g1 H → va_S A s.heap H locs → H[q]? = some ce → ce.vm = .none → s.vm.findClass E = some ce.cls → VW H locs cells slots (F0 m pc ls rest) q
abbrev xThr (D : va_G) (cc : ByteArray) (maxL : Nat) (postX : String → (Nat → Option va_E) → Prop) (mc ms : Nat) (Wd : Heap → List Loc → Nat → Nat → JFrame → Prop) (m : MethodId) (s : State) (A : Nat → Prop) : Prop :=
  ∀ (cls text : String) (ik is ic pc : Nat) (g1 : Nat → Option va_E) (H : Heap) (locs : List Loc) (ls : Array Slot) (rest : List Value) (cells slots : Nat), xSite cc cls text ik is ic pc → postX cls g1 → hw D hC A g1 H → va_S A s.heap H locs → ls.size = maxL → (rest.map fun v => v.category).sum ≤ 8 → cells + 1 ≤ mc → slots + 6 ≤ ms → Wd H locs cells slots (F0 m pc ls rest)
abbrev xBody (l : Launch) (y : MethodName) (rm : Room) (D : va_G) (tys : List (ClassId × FieldType)) (g : Nat → Option va_E) (sz : Nat) (av : List Value) (cc : ByteArray) (maxL : Nat) (postX : String → (Nat → Option va_E) → Prop) (End : (Heap → List Loc → Nat → Nat → JFrame → Prop) → (MethodId → State → (Nat → Prop) → Prop)) : Prop :=
  ∀ (p : Program) (e : Env) (R : Room) (s : State) (m : MethodId) (args : Array Value) (below : List Frame) (meth : Method) (c : Code) (Q : State → Prop) (A : Nat → Prop), hRle rm R → CallFix p m c cc maxL s args hB RMR → meth.name = y.name → s.heap.size = sz → hw D hC A g s.heap → va_K D hC tys s → va_S A s.heap s.heap [] → (∀ q, s.heap.size ≤ q → A q) → hXs s → hZZ A s s.heap →
    End (fun H locs cells slots fr => W p l e R s m args below meth c H locs cells slots Q fr) m s A → xOut D postX rm.cells rm.slots (fun H locs cells slots fr q => vx_W p l e R s m args below meth c H locs cells slots Q fr q) m s A → xThr D cc maxL postX rm.cells rm.slots (fun H locs cells slots fr => W p l e R s m args below meth c H locs cells slots Q fr) m s A →
    ∀ ls : Array Slot, lv_has ls maxL (lv_args 0 av) → W p l e R s m args below meth c s.heap [] 0 0 Q (F0 m 0 ls [])
/-- a throw, out of the method -/
theorem x_throw {postX : String → (Nat → Option va_E) → Prop} {Qc : Array Value → State → Outcome → State → Prop} (hl : l.stackTraces = false) (hR : 6 ≤ R.frames ∧ 90 ≤ R.locals ∧ rm.cells ≤ R.cells ∧ rm.slots ≤ R.slots) (S0 : CallFix p m c cc maxL s args hB RMR) (hK : va_K D hC tys s) (hx : hXs s) (hz : hZZ A s s.heap) (htab : ∀ x ∈ c.exceptionTable.toList, False) (hlocks : meth.locks = false) : xThr D cc maxL postX rm.cells rm.slots (fun H locs cells slots fr => W p l e R s m args below meth c H locs cells slots (vx_MQ below Qc (xX D tys A postX) args s rm.cells rm.slots A) fr) m s A := by
  intro cls text ik is ic pc g1 H locs ls rest cells slots hsite hp hg hS hsize hrest hc hs
  obtain ⟨⟨k1, k2, k3, k4, k5, k6, k7⟩, hst, d0, d3, d4, d6, d9⟩ := hsite
  obtain ⟨sa, hsa⟩ := hx.2.2.2.2 _ hst
  have hat : ∀ w ∈ vx_atS RMR ic cls xNm, w.before args s = true := vx_hat (fun w hw => S0.2.2.2.2 w (k5 w hw)) k6 (fun w hw => by
    rcases List.mem_cons.mp hw with rfl | hw
    · exact va_Nw.use rfl (hx.2.1 cls k4)
    · obtain ⟨Y, hY, rfl⟩ := List.mem_map.mp hw
      exact va_Nw.use rfl (hx.2.2.1 Y hY))
  refine vx_throwS (names := xNm) S0.1 S0.2.1 hl S0.2.2.2.1 k3 (by decide +kernel) (S0.2.2.2.2 _ k1) (S0.2.2.2.2 _ k2) hsa hat ?_ hz.1 hz.2 hS (hsize.trans S0.2.2.1.symm) d0 d3 d4 d6 d9 (fun x hx => (htab x hx).elim) (show 2 + 3 < R.frames by omega) (show _ + (13 * (2 + 1) + 43) ≤ R.locals by omega) (by omega) (by omega) hlocks ?_ hS.2.2 hc hs
  · intro w hw
    rcases List.mem_cons.mp hw with rfl | hw
    · exact Bool.or_eq_true_iff.mpr (Or.inl rfl)
    · rcases List.mem_cons.mp hw with rfl | hw
      · exact Bool.or_eq_true_iff.mpr (Or.inl rfl)
      · exact k7 w hw
  · intro t hal hz1 hz2
    exact ⟨g1, trivial, ⟨hp, hg.kept hz2, va_K.moved hal hK⟩, Nat.le_trans hS.1 hz1, fun q h1 h2 => by rw [hz2 q (Nat.lt_of_lt_of_le h1 hS.1)]; exact hS.2.1 q h1 h2⟩
theorem x_out {postX : String → (Nat → Option va_E) → Prop} {Qc : Array Value → State → Outcome → State → Prop} (hK : va_K D hC tys s) (htab : ∀ x ∈ c.exceptionTable.toList, False) (hlocks : meth.locks = false) : xOut D postX rm.cells rm.slots (fun H locs cells slots fr q => vx_W p l e R s m args below meth c H locs cells slots (vx_MQ below Qc (xX D tys A postX) args s rm.cells rm.slots A) fr q) m s A := by
  intro E ce q g1 H locs ls pc rest cells slots hc hs hp hg1 hS hcell hv hcl
  exact vx_out (fun x hx => (htab x hx).elim) hlocks hcell hv hcl (fun t ht hal => ⟨g1, trivial, ⟨hp, by rw [ht]; exact hg1, va_K.moved hal hK⟩, hS.F ht⟩) hS.2.2 hc hs
theorem xMi_of {ty : FieldType} {post : Int32 → (Nat → Option va_E) → Prop} {postX : String → (Nat → Option va_E) → Prop} (hy : plainName y.cls = true) (hyc : y.cls = RMR) (hlen : (lg_sl av).length ≤ maxL) (hl : l.stackTraces = false) (hrm : 6 ≤ rm.frames ∧ 90 ≤ rm.locals)
    (body : xBody l y rm D tys g sz av cc maxL postX (hEi D cc ty post rm.cells rm.slots)) : xMi l y cc maxL ty rm D tys g sz av post postX := by
  refine vx_ofW (cc := cc) (maxL := maxL) (ret := some ty) hy rfl ?_
  intro p e s m args below meth c s₁ B hml htab hv
  obtain ⟨rfl, ⟨hsz, hg, hK⟩, hx, hz⟩ := hv
  have hts := atoms_spec (ws := Cond.code y cc maxL (some ty) :: hB) B.pre
  have S0 : CallFix p m c cc maxL s av.toArray hB RMR := ⟨B.exec, B.bytes, hml, by rw [← hyc]; exact findClass_of_methodNamed B.named, fun w h => hts w (List.mem_cons_of_mem _ h)⟩
  rw [lg_entry_eq]
  refine body p e rm s m _ below meth c _ (hA g sz) hRle.rf S0 (name_of_methodNamed B.named B.method).1 hsz hg.self hK va_S.rf (fun q h => Or.inr (by rw [← hsz]; exact h)) hx hz ?_ (x_out hK htab B.notSynchronized) (x_throw hl ⟨hrm.1, hrm.2, Nat.le_refl _, Nat.le_refl _⟩ S0 hK hx hz htab B.notSynchronized) _ (lv_entry av hlen)
  intro v g1 H locs ls pc cells slots hc hs hn hp hg1 hS hdg
  refine W.widen hc hs ?_
  exact vx_ret (W.zret B.exec B.bytes B.returns hn (fun t ht hW => ⟨⟨v, g1, rfl, hp, by rw [ht]; exact hg1, va_K.moved hW.alike hK⟩, hS.F ht⟩) hS.2.2 hdg B.notSynchronized)
theorem xMv_of {post : (Nat → Option va_E) → Prop} {postX : String → (Nat → Option va_E) → Prop} (hy : plainName y.cls = true) (hyc : y.cls = RMR) (hlen : (lg_sl av).length ≤ maxL) (hl : l.stackTraces = false) (hrm : 6 ≤ rm.frames ∧ 90 ≤ rm.locals)
    (body : xBody l y rm D tys g sz av cc maxL postX (hEv D cc post rm.cells rm.slots)) : xMv l y cc maxL rm D tys g sz av post postX := by
  refine vx_ofW (cc := cc) (maxL := maxL) (ret := none) hy rfl ?_
  intro p e s m args below meth c s₁ B hml htab hv
  obtain ⟨rfl, ⟨hsz, hg, hK⟩, hx, hz⟩ := hv
  have hts := atoms_spec (ws := Cond.code y cc maxL none :: hB) B.pre
  have S0 : CallFix p m c cc maxL s av.toArray hB RMR := ⟨B.exec, B.bytes, hml, by rw [← hyc]; exact findClass_of_methodNamed B.named, fun w h => hts w (List.mem_cons_of_mem _ h)⟩
  rw [lg_entry_eq]
  refine body p e rm s m _ below meth c _ (hA g sz) hRle.rf S0 (name_of_methodNamed B.named B.method).1 hsz hg.self hK va_S.rf (fun q h => Or.inr (by rw [← hsz]; exact h)) hx hz ?_ (x_out hK htab B.notSynchronized) (x_throw hl ⟨hrm.1, hrm.2, Nat.le_refl _, Nat.le_refl _⟩ S0 hK hx hz htab B.notSynchronized) _ (lv_entry av hlen)
  intro g1 H locs ls pc cells slots hc hs hp hg1 hS hdg
  refine W.widen hc hs ?_
  exact vx_ret (W.vret B.exec B.bytes B.returns (fun t ht hW => ⟨⟨g1, rfl, hp, by rw [ht]; exact hg1, va_K.moved hW.alike hK⟩, hS.F ht⟩) hS.2.2 hdg B.notSynchronized)
theorem xMr_of {ty : FieldType} {post : Nat → (Nat → Option va_E) → Prop} {postX : String → (Nat → Option va_E) → Prop} (hy : plainName y.cls = true) (hyc : y.cls = RMR) (hrt : (∃ n, ty = .object n) ∨ ∃ t, ty = .array t) (hlen : (lg_sl av).length ≤ maxL) (hl : l.stackTraces = false) (hrm : 6 ≤ rm.frames ∧ 90 ≤ rm.locals)
    (body : xBody l y rm D tys g sz av cc maxL postX (hEr D cc post rm.cells rm.slots)) : xMr l y cc maxL ty rm D tys g sz av post postX := by
  refine vx_ofW (cc := cc) (maxL := maxL) (ret := some ty) hy rfl ?_
  intro p e s m args below meth c s₁ B hml htab hv
  obtain ⟨rfl, ⟨hsz, hg, hK⟩, hx, hz⟩ := hv
  have hts := atoms_spec (ws := Cond.code y cc maxL (some ty) :: hB) B.pre
  have S0 : CallFix p m c cc maxL s av.toArray hB RMR := ⟨B.exec, B.bytes, hml, by rw [← hyc]; exact findClass_of_methodNamed B.named, fun w h => hts w (List.mem_cons_of_mem _ h)⟩
  rw [lg_entry_eq]
  refine body p e rm s m _ below meth c _ (hA g sz) hRle.rf S0 (name_of_methodNamed B.named B.method).1 hsz hg.self hK va_S.rf (fun q h => Or.inr (by rw [← hsz]; exact h)) hx hz ?_ (x_out hK htab B.notSynchronized) (x_throw hl ⟨hrm.1, hrm.2, Nat.le_refl _, Nat.le_refl _⟩ S0 hK hx hz htab B.notSynchronized) _ (lv_entry av hlen)
  intro v g1 H locs ls pc cells slots hc hs hp hg1 hS hdg
  refine W.widen hc hs ?_
  exact vx_ret (W.aret B.exec B.bytes B.returns hrt (Or.inr ⟨v, rfl⟩) (fun t ht hW => ⟨⟨g1, v, rfl, trivial, hp, by rw [ht]; exact hg1, va_K.moved hW.alike hK⟩, hS.F ht⟩) hS.2.2 hdg B.notSynchronized)
/-! calls of such methods -/
theorem hx_Vi {ty : FieldType} {post : Int32 → (Nat → Option va_E) → Prop} {postX : String → (Nat → Option va_E) → Prop} (S0 : CallFix p m c cc nL s args hB own) (hK : va_K D hC tys s) (hg : hw D hC A g H) (hS : va_S A H0 H locs) (hA0 : ∀ q, H0.size ≤ q → A q) (hx : hXs s) (hz : hZZ A s H0) {ci : Nat} {T : u_T} {N : Nat} {fs : List Value} (he : g b = some (.inr (ci, fs))) (hc : hC[ci]? = some (y.cls, T, N)) (hM : xMi l y bytes maxL ty rk D tys g H.size (.ref b :: As) post postX) (kd : hcV y bytes maxL (some ty) n) (hl : Cond.methodLink own index y ∈ hB) (hR : rk.frames + 1 ≤ R.frames ∧ 8 + (maxL + 11) + rk.locals ≤ R.locals)
    (hn : As.length = n) (hsize : ls.size = nL) (hst : st0 = As.reverse ++ .ref b :: rest) (hW : (rest.map fun v => v.category).sum ≤ 8) (hdg : decode cc pc = .ok (.invokevirtual index, 3)) (hf : cells + rk.cells ≤ R.cells ∧ slots + rk.slots ≤ R.slots)
    (kx : ∀ (E : String) (ce : Cell) (q : Addr) (g1 : Nat → Option va_E) (H1 : Heap) (locs1 : List Loc), postX E g1 → hw D hC A g1 H1 → va_S A H0 H1 locs1 → H1[q]? = some ce → ce.vm = .none → s.vm.findClass E = some ce.cls → vx_W p l e R s m args below meth c H1 locs1 (cells + rk.cells) (slots + rk.slots) Q (F0 m pc ls rest) q)
    (kk : ∀ (r : Int32) (g1 : Nat → Option va_E) (H1 : Heap) (locs1 : List Loc), post r g1 → hw D hC A g1 H1 → va_S A H0 H1 locs1 → W p l e R s m args below meth c H1 locs1 (cells + rk.cells) (slots + rk.slots) Q (F0 m (pc + 3) ls (.int r :: rest))) : W p l e R s m args below meth c H locs cells slots Q (F0 m pc ls st0) :=
  vx_calli (vx_runV (As := As) (rest := rest) S0 hM (h_cwV S0 kd hl hR) ⟨hPreX_blind, hw_recv hK hg he hc, hPreX_at hK hg hS hA0 hx hz⟩ rfl hn hsize hst (lv_room hW) hdg hf) hS (fun q _ h => hA.sub hg hS hA0 q h) (hA.sub hg hS hA0) (fun q _ h => hA.sub hg hS hA0 q h)
    (fun E ce q u t H1 locs1 ht hvm hp hB1 hz1 hk hS1 h1 h2 h3 => kx E ce q u H1 locs1 hB1.1 (by rw [← ht]; exact hB1.2.1.weaken (hA.sub hg hS hA0)) hS1 h1 h2 h3)
    (fun r u t H1 locs1 ht hvm hp hB1 hz1 hk hS1 => kk r u H1 locs1 hp (by rw [← ht]; exact hB1.1.weaken (hA.sub hg hS hA0)) hS1)
theorem hx_Vv {post : (Nat → Option va_E) → Prop} {postX : String → (Nat → Option va_E) → Prop} (S0 : CallFix p m c cc nL s args hB own) (hK : va_K D hC tys s) (hg : hw D hC A g H) (hS : va_S A H0 H locs) (hA0 : ∀ q, H0.size ≤ q → A q) (hx : hXs s) (hz : hZZ A s H0) {ci : Nat} {T : u_T} {N : Nat} {fs : List Value} (he : g b = some (.inr (ci, fs))) (hc : hC[ci]? = some (y.cls, T, N)) (hM : xMv l y bytes maxL rk D tys g H.size (.ref b :: As) post postX) (kd : hcV y bytes maxL none n) (hl : Cond.methodLink own index y ∈ hB) (hR : rk.frames + 1 ≤ R.frames ∧ 8 + (maxL + 11) + rk.locals ≤ R.locals)
    (hn : As.length = n) (hsize : ls.size = nL) (hst : st0 = As.reverse ++ .ref b :: rest) (hW : (rest.map fun v => v.category).sum ≤ 8) (hdg : decode cc pc = .ok (.invokevirtual index, 3)) (hf : cells + rk.cells ≤ R.cells ∧ slots + rk.slots ≤ R.slots)
    (kx : ∀ (E : String) (ce : Cell) (q : Addr) (g1 : Nat → Option va_E) (H1 : Heap) (locs1 : List Loc), postX E g1 → hw D hC A g1 H1 → va_S A H0 H1 locs1 → H1[q]? = some ce → ce.vm = .none → s.vm.findClass E = some ce.cls → vx_W p l e R s m args below meth c H1 locs1 (cells + rk.cells) (slots + rk.slots) Q (F0 m pc ls rest) q)
    (kk : ∀ (g1 : Nat → Option va_E) (H1 : Heap) (locs1 : List Loc), post g1 → hw D hC A g1 H1 → va_S A H0 H1 locs1 → W p l e R s m args below meth c H1 locs1 (cells + rk.cells) (slots + rk.slots) Q (F0 m (pc + 3) ls rest)) : W p l e R s m args below meth c H locs cells slots Q (F0 m pc ls st0) :=
  vx_callv (vx_runV (As := As) (rest := rest) S0 hM (h_cwV S0 kd hl hR) ⟨hPreX_blind, hw_recv hK hg he hc, hPreX_at hK hg hS hA0 hx hz⟩ rfl hn hsize hst (lv_room hW) hdg hf) hS (fun q _ h => hA.sub hg hS hA0 q h) (hA.sub hg hS hA0) (fun q _ h => hA.sub hg hS hA0 q h)
    (fun E ce q u t H1 locs1 ht hvm hp hB1 hz1 hk hS1 h1 h2 h3 => kx E ce q u H1 locs1 hB1.1 (by rw [← ht]; exact hB1.2.1.weaken (hA.sub hg hS hA0)) hS1 h1 h2 h3)
    (fun u t H1 locs1 ht hvm hp hB1 hz1 hk hS1 => kk u H1 locs1 hp (by rw [← ht]; exact hB1.1.weaken (hA.sub hg hS hA0)) hS1)
theorem hx_Sv {post : (Nat → Option va_E) → Prop} {postX : String → (Nat → Option va_E) → Prop} (S0 : CallFix p m c cc nL s args hB own) (hK : va_K D hC tys s) (hg : hw D hC A g H) (hS : va_S A H0 H locs) (hA0 : ∀ q, H0.size ≤ q → A q) (hx : hXs s) (hz : hZZ A s H0) (hM : xMv l y bytes maxL rk D tys g H.size As post postX) (kd : hcS y bytes maxL none n) (hl : Cond.methodLink own index y ∈ hB) (hR : rk.frames + 1 ≤ R.frames ∧ 8 + (maxL + 11) + rk.locals ≤ R.locals)
    (hn : As.length = n) (hsize : ls.size = nL) (hst : st0 = As.reverse ++ rest) (hW : (rest.map fun v => v.category).sum ≤ 8) (hdg : decode cc pc = .ok (.invokestatic index, 3)) (hf : cells + rk.cells ≤ R.cells ∧ slots + rk.slots ≤ R.slots)
    (kx : ∀ (E : String) (ce : Cell) (q : Addr) (g1 : Nat → Option va_E) (H1 : Heap) (locs1 : List Loc), postX E g1 → hw D hC A g1 H1 → va_S A H0 H1 locs1 → H1[q]? = some ce → ce.vm = .none → s.vm.findClass E = some ce.cls → vx_W p l e R s m args below meth c H1 locs1 (cells + rk.cells) (slots + rk.slots) Q (F0 m pc ls rest) q)
    (kk : ∀ (g1 : Nat → Option va_E) (H1 : Heap) (locs1 : List Loc), post g1 → hw D hC A g1 H1 → va_S A H0 H1 locs1 → W p l e R s m args below meth c H1 locs1 (cells + rk.cells) (slots + rk.slots) Q (F0 m (pc + 3) ls rest)) : W p l e R s m args below meth c H locs cells slots Q (F0 m pc ls st0) :=
  vx_callv (vx_runS (As := As) (rest := rest) S0 hM (h_cwS S0 kd hl hR) ⟨hPreX_blind, hPreX_at hK hg hS hA0 hx hz⟩ rfl hn hsize hst (lv_room hW) hdg hf) hS (fun q _ h => hA.sub hg hS hA0 q h) (hA.sub hg hS hA0) (fun q _ h => hA.sub hg hS hA0 q h)
    (fun E ce q u t H1 locs1 ht hvm hp hB1 hz1 hk hS1 h1 h2 h3 => kx E ce q u H1 locs1 hB1.1 (by rw [← ht]; exact hB1.2.1.weaken (hA.sub hg hS hA0)) hS1 h1 h2 h3)
    (fun u t H1 locs1 ht hvm hp hB1 hz1 hk hS1 => kk u H1 locs1 hp (by rw [← ht]; exact hB1.1.weaken (hA.sub hg hS hA0)) hS1)
/-- a call that gives a reference back, or throws -/
theorem x_callr {S SX : Type} {post : S → Prop} {px : SX → Prop} {B : S → Nat → State → Prop} {BX : String → SX → State → Prop} {AX A1 A0 : Nat → Prop} {mc ms : Nat} {free : Addr → Prop} {a : Array Value} (hr : vx_Run p l e R s m args below meth c H locs cells slots mc ms (F0 m pc ls st0) rest (va_Qr post B A1 a) (vx_X px BX AX) free) (hS : va_S A0 H0 H locs) (hA : ∀ q, q < H.size → A1 q → A0 q) (hf : ∀ q, free q → A0 q) (hAX : ∀ q, q < H.size → AX q → A0 q)
    (kx : ∀ (E : String) (ce : Cell) (q9 : Addr) (u : SX) (t : State) (H1 : Heap) (locs1 : List Loc), t.heap = H1 → s.vm.Alike t.vm → px u → BX E u t → va_S A0 H0 H1 locs1 → H1[q9]? = some ce → ce.vm = .none → s.vm.findClass E = some ce.cls → vx_W p l e R s m args below meth c H1 locs1 (cells + mc) (slots + ms) Q (F0 m pc ls rest) q9)
    (kk : ∀ (u : S) (r : Nat) (t : State) (H1 : Heap) (locs1 : List Loc), t.heap = H1 → s.vm.Alike t.vm → post u → B u r t → va_S A0 H0 H1 locs1 → W p l e R s m args below meth c H1 locs1 (cells + mc) (slots + ms) Q (F0 m (pc + 3) ls (.ref r :: rest))) : W p l e R s m args below meth c H locs cells slots Q (F0 m pc ls st0) := by
  intro T hT X
  rcases hr T hT X with ⟨v, st₀, t, T', L, h0, X', hL, e1, e2, ⟨⟨u, r, hv, hp, hb⟩, hF⟩, st⟩ | ⟨q, st₀, t, T', L, E, ce, h0, X', hL, e1, e2, ⟨u, hp, hb, hF⟩, hce, hcv, hcl, st⟩
  · cases hv
    obtain ⟨k1, k2, k3⟩ := vx_keep h0 e1 hS hA hf hL hF
    obtain ⟨t2, a1, b1⟩ := kk u r t T'.heap (locs ++ L) e1.symm (by rw [← e2]; exact X'.warmed.alike) hp hb k3 T' rfl X'
    exact ⟨t2, st t2 a1, b1⟩
  · obtain ⟨k1, k2, k3⟩ := vx_keep h0 e1 hS hAX hf hL hF
    obtain ⟨t2, a1, b1⟩ := kx E ce q u t T'.heap (locs ++ L) e1.symm (by rw [← e2]; exact X'.warmed.alike) hp hb k3 (by rw [e1]; exact hce) hcv hcl T' rfl X'
    exact ⟨t2, st.trans a1, b1⟩
theorem hx_Vr {ty : FieldType} {post : Nat → (Nat → Option va_E) → Prop} {postX : String → (Nat → Option va_E) → Prop} (S0 : CallFix p m c cc nL s args hB own) (hK : va_K D hC tys s) (hg : hw D hC A g H) (hS : va_S A H0 H locs) (hA0 : ∀ q, H0.size ≤ q → A q) (hx : hXs s) (hz : hZZ A s H0) {ci : Nat} {T : u_T} {N : Nat} {fs : List Value} (he : g b = some (.inr (ci, fs))) (hc : hC[ci]? = some (y.cls, T, N)) (hM : xMr l y bytes maxL ty rk D tys g H.size (.ref b :: As) post postX) (kd : hcV y bytes maxL (some ty) n) (hl : Cond.methodLink own index y ∈ hB) (hR : rk.frames + 1 ≤ R.frames ∧ 8 + (maxL + 11) + rk.locals ≤ R.locals)
    (hn : As.length = n) (hsize : ls.size = nL) (hst : st0 = As.reverse ++ .ref b :: rest) (hW : (rest.map fun v => v.category).sum ≤ 8) (hdg : decode cc pc = .ok (.invokevirtual index, 3)) (hf : cells + rk.cells ≤ R.cells ∧ slots + rk.slots ≤ R.slots)
    (kx : ∀ (E : String) (ce : Cell) (q : Addr) (g1 : Nat → Option va_E) (H1 : Heap) (locs1 : List Loc), postX E g1 → hw D hC A g1 H1 → va_S A H0 H1 locs1 → H1[q]? = some ce → ce.vm = .none → s.vm.findClass E = some ce.cls → vx_W p l e R s m args below meth c H1 locs1 (cells + rk.cells) (slots + rk.slots) Q (F0 m pc ls rest) q)
    (kk : ∀ (r : Nat) (g1 : Nat → Option va_E) (H1 : Heap) (locs1 : List Loc), post r g1 → hw D hC A g1 H1 → va_S A H0 H1 locs1 → W p l e R s m args below meth c H1 locs1 (cells + rk.cells) (slots + rk.slots) Q (F0 m (pc + 3) ls (.ref r :: rest))) : W p l e R s m args below meth c H locs cells slots Q (F0 m pc ls st0) :=
  x_callr (vx_runV (As := As) (rest := rest) S0 hM (h_cwV S0 kd hl hR) ⟨hPreX_blind, hw_recv hK hg he hc, hPreX_at hK hg hS hA0 hx hz⟩ rfl hn hsize hst (lv_room hW) hdg hf) hS (fun q _ h => hA.sub hg hS hA0 q h) (hA.sub hg hS hA0) (fun q _ h => hA.sub hg hS hA0 q h)
    (fun E ce q u t H1 locs1 ht hvm hp hB1 hS1 h1 h2 h3 => kx E ce q u H1 locs1 hB1.1 (by rw [← ht]; exact hB1.2.1.weaken (hA.sub hg hS hA0)) hS1 h1 h2 h3)
    (fun u r t H1 locs1 ht hvm hp hB1 hS1 => kk r u H1 locs1 hB1.1 (by rw [← ht]; exact hB1.2.1.weaken (hA.sub hg hS hA0)) hS1)
end XW
set_option maxRecDepth 20000 in
theorem xCls_I : xCls eI 141 145 := ⟨hB_in 267 rfl (by decide +kernel), hB_in 39 rfl (by decide +kernel), by decide +kernel, by decide +kernel, by decide +kernel, by decide +kernel, by decide +kernel⟩
set_option maxRecDepth 20000 in
theorem xCls_U : xCls eU 72 76 := ⟨hB_in 335 rfl (by decide +kernel), hB_in 40 rfl (by decide +kernel), by decide +kernel, by decide +kernel, by decide +kernel, by decide +kernel, by decide +kernel⟩
set_option maxRecDepth 20000 in
theorem xCls_X : xCls eX 82 86 := ⟨hB_in 377 rfl (by decide +kernel), hB_in 41 rfl (by decide +kernel), by decide +kernel, by decide +kernel, by decide +kernel, by decide +kernel, by decide +kernel⟩
