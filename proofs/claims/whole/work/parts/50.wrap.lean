/-! THE LAW'S WRAPPERS: calls that are caught -/
section WRP
variable {p : Program} {l : Launch} {e : Env} {R : Room} {s : State} {m : MethodId} {args : Array Value} {below : List Frame} {meth : Method} {c : Code} {H : Heap} {locs : List Loc} {cells slots : Nat} {Q : State → Prop}
variable {cc bytes : ByteArray} {pc nL maxL index n sz : Nat} {ls : Array Slot} {rest st0 As av : List Value} {D : va_G} {A : Nat → Prop} {tys : List (ClassId × FieldType)} {H0 : Heap} {own : String} {g : Nat → Option va_E} {y : MethodName} {rm rk : Room} {hh : List (Nat × Nat × Nat × Nat)}
abbrev wMi (l : Launch) (y : MethodName) (cc : ByteArray) (maxL : Nat) (hh : List (Nat × Nat × Nat × Nat)) (rm : Room) (D : va_G) (tys : List (ClassId × FieldType)) (g : Nat → Option va_E) (sz : Nat) (av : List Value) (post : Int32 → (Nat → Option va_E) → Prop) : Prop := vx_Met l y (Cond.codeWith y cc maxL (some .int) hh :: hB) rm (va_Pc av (hPreX D tys g sz)) (va_Qi post (hPo D tys (hA g sz)) (hA g sz)) (xX D tys (hA g sz) (fun _ _ => False)) rm.cells rm.slots (hA g sz)
theorem wMi_of {post : Int32 → (Nat → Option va_E) → Prop} (hy : plainName y.cls = true) (hyc : y.cls = RLa) (hlen : (lg_sl av).length ≤ maxL)
    (body : ∀ (p : Program) (e : Env) (R : Room) (s : State) (m : MethodId) (args : Array Value) (below : List Frame) (meth : Method) (c : Code) (Q : State → Prop) (A : Nat → Prop), hRle rm R → CallFix p m c cc maxL s args hB RLa → s.heap.size = sz → hw D hC A g s.heap → va_K D hC tys s → va_S A s.heap s.heap [] → (∀ q, s.heap.size ≤ q → A q) → hXs s → hZZ A s s.heap → c.exceptionTable.toList = tableOf hh →
      hEi D cc .int post rm.cells rm.slots (fun H locs cells slots fr => W p l e R s m args below meth c H locs cells slots Q fr) m s A → ∀ ls : Array Slot, lv_has ls maxL (lv_args 0 av) → W p l e R s m args below meth c s.heap [] 0 0 Q (F0 m 0 ls [])) : wMi l y cc maxL hh rm D tys g sz av post := by
  refine vx_ofWH (cc := cc) (maxL := maxL) (ret := some .int) (hh := hh) hy rfl ?_
  intro p e s m args below meth c s₁ B hml hv
  obtain ⟨rfl, ⟨hsz, hg, hK⟩, hx, hz⟩ := hv
  have hts := atoms_spec (ws := Cond.codeWith y cc maxL (some .int) hh :: hB) B.pre
  rw [lg_entry_eq]
  refine body p e rm s m _ below meth c _ (hA g sz) hRle.rf ⟨B.exec, B.bytes, hml, by rw [← hyc]; exact findClass_of_methodNamed B.named, fun w h => hts w (List.mem_cons_of_mem _ h)⟩ hsz hg.self hK va_S.rf (fun q h => Or.inr (by rw [← hsz]; exact h)) hx hz (vx_table (x := y) B (hts _ List.mem_cons_self)) ?_ _ (lv_entry av hlen)
  intro v g1 H locs ls pc cells slots hc hs hn hp hg1 hS hdg
  refine W.widen hc hs ?_
  exact vx_ret (W.zret B.exec B.bytes B.returns hn (fun t ht hW => ⟨⟨v, g1, rfl, hp, by rw [ht]; exact hg1, va_K.moved hW.alike hK⟩, hS.F ht⟩) hS.2.2 hdg B.notSynchronized)
/-- caught by the table's first row -/
theorem w_catch1 {E : String} {ce : Cell} {q : Addr} {a1 b1 c1 d1 : Nat} {suf : List (Nat × Nat × Nat × Nat)} (S0 : CallFix p m c cc nL s args hB RLa) (hx : hXs s) (htab : c.exceptionTable.toList = tableOf ((a1, b1, c1, d1) :: suf)) (hcov : (Nat.ble a1 pc && Nat.blt pc b1) = true) (hd : d1 ≠ 0) (hlink : Cond.classLink RLa d1 E ∈ hB) (hE : E ∈ xC) (hcell : H[q]? = some ce) (hv : ce.vm = .none) (hcl : s.vm.findClass E = some ce.cls)
    (kk : W p l e R s m args below meth c H locs cells slots Q (F0 m c1 ls [.ref q])) : vx_W p l e R s m args below meth c H locs cells slots Q (F0 m pc ls rest) q := by
  refine vx_catch (E := E) (name := E) S0.2.2.2.1 [] ⟨a1, b1, c1, d1⟩ (tableOf suf) htab (fun z hz => absurd hz List.not_mem_nil) ?_ hd (S0.2.2.2.2 _ hlink) (va_Nw.use rfl (hx.2.1 E hE)) hcell hv hcl kk
  rw [Bool.and_eq_true] at hcov
  have h1 := Nat.le_of_ble_eq_true hcov.1
  have h2 : pc < b1 := by simpa [Nat.blt_eq] using hcov.2
  simp only [covers, Bool.and_eq_true, decide_eq_true_eq]
  first | exact ⟨h1, h2⟩ | omega
/-- caught by the second row: the first names another class -/
theorem w_catch2 {E E1 : String} {ce : Cell} {q : Addr} {a1 b1 c1 d1 a2 b2 c2 d2 : Nat} {suf : List (Nat × Nat × Nat × Nat)} (S0 : CallFix p m c cc nL s args hB RLa) (hx : hXs s) (htab : c.exceptionTable.toList = tableOf ((a1, b1, c1, d1) :: (a2, b2, c2, d2) :: suf)) (hcov : (Nat.ble a2 pc && Nat.blt pc b2) = true) (hd1 : d1 ≠ 0) (hd : d2 ≠ 0) (hlink1 : Cond.classLink RLa d1 E1 ∈ hB) (hlink : Cond.classLink RLa d2 E ∈ hB) (hN : (E, E1) ∈ xNc) (hE : E ∈ xC) (hcell : H[q]? = some ce) (hv : ce.vm = .none) (hcl : s.vm.findClass E = some ce.cls)
    (kk : W p l e R s m args below meth c H locs cells slots Q (F0 m c2 ls [.ref q])) : vx_W p l e R s m args below meth c H locs cells slots Q (F0 m pc ls rest) q := by
  refine vx_catch (E := E) (name := E) S0.2.2.2.1 [⟨a1, b1, c1, d1⟩] ⟨a2, b2, c2, d2⟩ (tableOf suf) htab (fun z hz => ?_) ?_ hd (S0.2.2.2.2 _ hlink) (va_Nw.use rfl (hx.2.1 E hE)) hcell hv hcl kk
  · rw [List.mem_singleton.mp hz]
    exact Or.inr ⟨hd1, E1, S0.2.2.2.2 _ hlink1, hx.2.2.2.1 _ hN⟩
  · rw [Bool.and_eq_true] at hcov
    have h1 := Nat.le_of_ble_eq_true hcov.1
    have h2 : pc < b2 := by simpa [Nat.blt_eq] using hcov.2
    simp only [covers, Bool.and_eq_true, decide_eq_true_eq]
    first | exact ⟨h1, h2⟩ | omega
/-- a caller's card of a wrapper -/
def hcW (y : MethodName) (bytes : ByteArray) (maxL : Nat) (hh : List (Nat × Nat × Nat × Nat)) (n : Nat) : Prop := Cond.codeWith y bytes maxL (some .int) hh ∈ hB ∧ Cond.initialized y.cls ∈ hB ∧ (y.cls ≠ "java/lang/invoke/MethodHandle" ∧ y.cls ≠ "java/lang/invoke/VarHandle" ∧ (parseMethodDescriptor y.desc).map (fun d => d.parameters.length) = some n) ∧ Cond.static y ∈ hB
theorem hx_SWi {post : Int32 → (Nat → Option va_E) → Prop} (S0 : CallFix p m c cc nL s args hB own) (hK : va_K D hC tys s) (hg : hw D hC A g H) (hS : va_S A H0 H locs) (hA0 : ∀ q, H0.size ≤ q → A q) (hx : hXs s) (hz : hZZ A s H0) (hM : wMi l y bytes maxL hh rk D tys g H.size As post) (kd : hcW y bytes maxL hh n) (hl : Cond.methodLink own index y ∈ hB) (hR : rk.frames + 1 ≤ R.frames ∧ 8 + (maxL + 11) + rk.locals ≤ R.locals)
    (hn : As.length = n) (hsize : ls.size = nL) (hst : st0 = As.reverse ++ rest) (hW : (rest.map fun v => v.category).sum ≤ 8) (hdg : decode cc pc = .ok (.invokestatic index, 3)) (hf : cells + rk.cells ≤ R.cells ∧ slots + rk.slots ≤ R.slots)
    (kk : ∀ (r : Int32) (g1 : Nat → Option va_E) (H1 : Heap) (locs1 : List Loc), post r g1 → hw D hC A g1 H1 → va_S A H0 H1 locs1 → W p l e R s m args below meth c H1 locs1 (cells + rk.cells) (slots + rk.slots) Q (F0 m (pc + 3) ls (.int r :: rest))) : W p l e R s m args below meth c H locs cells slots Q (F0 m pc ls st0) := by
  obtain ⟨k1, k2, k3, k4⟩ := kd
  have hG : GoodIn hB (va_wsS own index y (Cond.codeWith y bytes maxL (some .int) hh :: hB)) := by
    intro w hw
    rcases List.mem_append.mp (show w ∈ ([.methodLink own index y, .static y, .initialized y.cls] : List Cond) ++ (Cond.codeWith y bytes maxL (some .int) hh :: hB) from hw) with h | h
    · rcases List.mem_cons.mp h with rfl | h
      · exact hB_good _ hl
      · rcases List.mem_cons.mp h with rfl | h
        · exact hB_good _ k4
        · rcases List.mem_cons.mp h with rfl | h
          · exact hB_good _ k2
          · cases h
    · rcases List.mem_cons.mp h with rfl | h
      · exact hB_good _ k1
      · exact hB_good _ h
  exact vx_calli (vx_runSX (As := As) (rest := rest) S0 hM (vx_cwSW (hh := hh) n S0.2.2.2.2 hG rfl rfl rfl k3 hR) ⟨hPreX_blind, hPreX_at hK hg hS hA0 hx hz⟩ rfl hn hsize hst (lv_room hW) hdg hf) hS (fun q _ h => hA.sub hg hS hA0 q h) (hA.sub hg hS hA0) (fun q _ h => hA.sub hg hS hA0 q h)
    (fun E ce q u t H1 locs1 ht hvm hp hB1 hz1 hk hS1 h1 h2 h3 => hB1.1.elim)
    (fun r u t H1 locs1 ht hvm hp hB1 hz1 hk hS1 => kk r u H1 locs1 hp (by rw [← ht]; exact hB1.1.weaken (hA.sub hg hS hA0)) hS1)
theorem lv_lcmpE (hexec : p.tables.exec = Jvm.exec) (hb : c.code = cc) {x y : Int64} (hxy : x = y) (hdg : decode cc pc = .ok (.lcmp, 1)) (k : W p l e R s m args below meth c H locs cells slots Q (F0 m (pc + 1) ls (.int 0 :: rest))) : W p l e R s m args below meth c H locs cells slots Q (F0 m pc ls (.long y :: .long x :: rest)) := by
  intro T hT X
  obtain ⟨t, a, b⟩ := k T hT X
  subst hxy
  exact ⟨t, X.lcmpEq hexec (by rw [hb]; exact hdg) t a, b⟩
end WRP
set_option maxRecDepth 20000 in
theorem lk_13 : Cond.classLink RLa 13 eI ∈ hB := hB_in 257 rfl (by decide +kernel)
set_option maxRecDepth 20000 in
theorem lk_15 : Cond.classLink RLa 15 eU ∈ hB := hB_in 258 rfl (by decide +kernel)
set_option maxRecDepth 20000 in
theorem lk_28 : Cond.classLink RLa 28 eX ∈ hB := hB_in 372 rfl (by decide +kernel)
