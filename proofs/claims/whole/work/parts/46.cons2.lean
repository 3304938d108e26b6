/-! CONSTRUCTORS, on: the reference, the class -/
section CNS
variable {l : Launch} {y : MethodName} {cc : ByteArray} {maxL : Nat} {rm : Room} {D : va_G} {tys : List (ClassId × FieldType)} {g : Nat → Option va_E} {sz : Nat} {av : List Value}
abbrev hMvX (l : Launch) (y : MethodName) (cc : ByteArray) (maxL : Nat) (rm : Room) (D : va_G) (tys : List (ClassId × FieldType)) (g : Nat → Option va_E) (sz : Nat) (av : List Value) (post : (Nat → Option va_E) → Prop) : Prop := Met l y (Cond.code y cc maxL none :: hB) rm (va_Pc av (hPreX D tys g sz)) (va_Qv post (hPo D tys (hA g sz)) (hA g sz)) rm.cells rm.slots (hA g sz)
theorem hMvX_of {post : (Nat → Option va_E) → Prop} (hy : plainName y.cls = true) (hlen : (lg_sl av).length ≤ maxL)
    (body : ∀ (p : Program) (e : Env) (R : Room) (s : State) (m : MethodId) (args : Array Value) (below : List Frame) (meth : Method) (c : Code) (Q : State → Prop) (A : Nat → Prop), hRle rm R → CallFix p m c cc maxL s args hB y.cls → meth.name = y.name → s.heap.size = sz → hw D hC A g s.heap → va_K D hC tys s → va_S A s.heap s.heap [] → (∀ q, s.heap.size ≤ q → A q) → hXs s → hZZ A s s.heap →
      hEv D cc post rm.cells rm.slots (fun H locs cells slots fr => W p l e R s m args below meth c H locs cells slots Q fr) m s A → ∀ ls : Array Slot, lv_has ls maxL (lv_args 0 av) → W p l e R s m args below meth c s.heap [] 0 0 Q (F0 m 0 ls [])) : hMvX l y cc maxL rm D tys g sz av post := by
  refine Met.ofW (cc := cc) (maxL := maxL) (ret := none) hy rfl ?_
  intro p e s m args below meth c s₁ B hml hv
  obtain ⟨rfl, ⟨hsz, hg, hK⟩, hx, hz⟩ := hv
  have hts := atoms_spec (ws := Cond.code y cc maxL none :: hB) B.pre
  rw [lg_entry_eq]
  refine body p e rm s m _ below meth c _ (hA g sz) hRle.rf ⟨B.exec, B.bytes, hml, findClass_of_methodNamed B.named, fun w h => hts w (List.mem_cons_of_mem _ h)⟩ (name_of_methodNamed B.named B.method).1 hsz hg.self hK va_S.rf (fun q h => Or.inr (by rw [← hsz]; exact h)) hx hz ?_ _ (lv_entry av hlen)
  intro g1 H locs ls pc cells slots hc hs hp hg1 hS hdg
  refine W.widen hc hs ?_
  exact W.vret B.exec B.bytes B.returns (fun t ht hW => ⟨⟨g1, rfl, hp, by rw [ht]; exact hg1, va_K.moved hW.alike hK⟩, hS.F ht⟩) hS.2.2 hdg B.notSynchronized
end CNS
section CNX
variable {p : Program} {l : Launch} {e : Env} {R : Room} {s : State} {m : MethodId} {args : Array Value} {below : List Frame} {meth : Method} {c : Code} {H : Heap} {locs : List Loc} {cells slots : Nat} {Q : State → Prop}
variable {cc bytes : ByteArray} {pc nL maxL index n sz : Nat} {ls : Array Slot} {rest st0 As av : List Value} {D : va_G} {A : Nat → Prop} {b : Nat} {tys : List (ClassId × FieldType)} {H0 : Heap} {own : String} {g : Nat → Option va_E} {y : MethodName} {rm rk : Room} {ret : Option FieldType}
theorem hw_IX {post : (Nat → Option va_E) → Prop} (S0 : CallFix p m c cc nL s args hB own) (hK : va_K D hC tys s) (hg : hw D hC A g H) (hS : va_S A H0 H locs) (hA0 : ∀ q, H0.size ≤ q → A q) (hx : hXs s) (hz : hZZ A s H0) (hM : hMvX l y bytes maxL rk D tys g H.size (.ref b :: As) post) (kd : hcI y bytes maxL n) (hl : Cond.methodLink own index y ∈ hB) (hR : rk.frames + 1 ≤ R.frames ∧ 8 + (maxL + 11) + rk.locals ≤ R.locals)
    (hn : As.length = n) (hsize : ls.size = nL) (hst : st0 = As.reverse ++ .ref b :: rest) (hW : (rest.map fun v => v.category).sum ≤ 8) (hdg : decode cc pc = .ok (.invokespecial index, 3)) (hf : cells + rk.cells ≤ R.cells ∧ slots + rk.slots ≤ R.slots)
    (kk : ∀ (g1 : Nat → Option va_E) (H1 : Heap) (locs1 : List Loc), post g1 → hw D hC A g1 H1 → va_S A H0 H1 locs1 → W p l e R s m args below meth c H1 locs1 (cells + rk.cells) (slots + rk.slots) Q (F0 m (pc + 3) ls rest)) : W p l e R s m args below meth c H locs cells slots Q (F0 m pc ls st0) :=
  va_callv (va_runI (As := As) (rest := rest) S0 hM (h_cwI S0 kd hl hR) ⟨hPreX_blind, hPreX_at hK hg hS hA0 hx hz⟩ rfl hn hsize hst (lv_room hW) hdg hf) hS (fun q _ h => hA.sub hg hS hA0 q h) (hA.sub hg hS hA0)
    (fun u t H1 locs1 ht hvm hp hB1 hz1 hk hS1 => kk u H1 locs1 hp (by rw [← ht]; exact hB1.1.weaken (hA.sub hg hS hA0)) hS1)
end CNX
theorem nd_n : ([] : List Nat).Nodup := List.nodup_nil
theorem nd_c {a : Nat} {xs : List Nat} (h : a ∉ xs) (h2 : xs.Nodup) : (a :: xs).Nodup := List.nodup_cons.mpr ⟨h, h2⟩
theorem nd_inj {xs : List Nat} (h : xs.Nodup) {i j : Nat} (hi : i < xs.length) (hj : j < xs.length) (e : xs.getD i 0 = xs.getD j 0) : i = j := by
  simp only [List.getD_eq_getElem?_getD, List.getElem?_eq_getElem hi, List.getElem?_eq_getElem hj, Option.getD_some] at e
  exact (List.getElem_inj h).mp e
def S00 : ST := (fun _ => [], [], [], [], [], [])
theorem stok0 : stok S00 := ⟨fun _ _ => Nat.zero_le _, Nat.zero_le _, Nat.zero_le _, Nat.zero_le _, Nat.zero_le _, Nat.zero_le _, fun v h => absurd h (Nat.not_lt_zero v), fun _ => rfl, fun h => absurd h (Nat.lt_irrefl 0)⟩
set_option maxRecDepth 100000 in
set_option maxHeartbeats 4000000 in
theorem c_MM_init (l : Launch) (D : va_G) (cI cR cJ : ClassId) (g : Nat → Option va_E) (sz : Nat) (mm : Nat) (h0 : g mm = some (.inr (8, [.int (nI 0), .null, .null, .int (nI 0), .int (nI 0), .null, .null, .null, .null, .int (nI 0), .null, .null, .int (nI 0), .null, .int (nI 0), .null, .int (nI 0), .int (nI 0), .null, .null, .null, .int (nI 0), .null, .int (nI 0), .null, .int (nI 0), .null, .null, .null]))) : hMv l yMM_init cMM_init 1 (hRm 1 12 18 9500) D (hT cI cR cJ) g sz [.ref mm] (fun g1 => ∃ q : Nat → Nat, (∀ i, i < 18 → g (q i) = none) ∧ hfn g g1 [mm] ∧ repM cI g1 mm q 0 S00) := by
  refine hMv_of (by decide +kernel) (Nat.le_of_ble_eq_true rfl) ?_
  intro pX eX RX sX mX argsX belowX methX cX QX AX hR S0 hnm hsz hg hK hS hA0 hend ls hl
  have hl : lv_has ls 1 [(0, .ref mm)] := hl
  have fr : hfn g g [mm] := hfn.rf
  refine lv_aload_n S0.1 S0.2.1 dMM_init_0 rfl (lv_at hl 0 rfl) ?_
  refine hw_objInit S0 hR hl.1 lm_MM_1 rfl dMM_init_1 ?_
  refine lv_aload_n S0.1 S0.2.1 dMM_init_4 rfl (lv_at hl 0 rfl) ?_
  refine lv_bipush (v := nI 6) S0.1 S0.2.1 dMM_init_5 (by decide) ?_
  refine hw_newa (ty := .int) (a0 := (6, .inl (fun _ => 0))) S0 hK hg hS hA0 rfl wI_arr 0 rfl (fun C h => by cases h) (fun _ => rfl) (by omega) (by show 6 * 4 ≤ 536870912; omega) (Nat.le_trans (Nat.le_of_ble_eq_true rfl) hR.2.2.1) (Nat.le_trans (Nat.le_of_ble_eq_true rfl) hR.2.2.2) dMM_init_7 (fun a1 H ha1 hg hS => ?_)
  have n_mm_a1 : mm ≠ a1 := h_nn h0 ha1
  have z_a1 : g a1 = none := fr.nn ha1 (h_nm (Ne.symm n_mm_a1) h_n0)
  obtain ⟨g_1, eg_1⟩ : ∃ z, z = hs g a1 (.inl (cI, 6, .inl (fun _ => 0))) := ⟨_, rfl⟩
  have hg : hw D hC AX g_1 H := by rw [eg_1]; exact hg
  have f1_0 : g_1 mm = some (.inr (8, [.int (nI 0), .null, .null, .int (nI 0), .int (nI 0), .null, .null, .null, .null, .int (nI 0), .null, .null, .int (nI 0), .null, .int (nI 0), .null, .int (nI 0), .int (nI 0), .null, .null, .null, .int (nI 0), .null, .int (nI 0), .null, .int (nI 0), .null, .null, .null])) := by rw [eg_1, hs_n _ _ n_mm_a1]; exact h0
  have f1_1 : g_1 a1 = some (.inl (cI, 6, .inl (fun _ => 0))) := by rw [eg_1]; exact hs_s _ _ _
  have fr := fr.putN eg_1 z_a1
  refine hw_putF S0 hK hg hS f1_0 rfl inMM tyMM tokMM nmMM 1 (by decide) lf_MM_7 rfl rfl hnm rfl rfl rfl (Nat.le_of_ble_eq_true rfl) dMM_init_9 (fun H locs hg hS => ?_)
  obtain ⟨g_2, eg_2⟩ : ∃ z, z = hs g_1 mm (.inr (8, [.int (nI 0), .ref a1, .null, .int (nI 0), .int (nI 0), .null, .null, .null, .null, .int (nI 0), .null, .null, .int (nI 0), .null, .int (nI 0), .null, .int (nI 0), .int (nI 0), .null, .null, .null, .int (nI 0), .null, .int (nI 0), .null, .int (nI 0), .null, .null, .null])) := ⟨_, rfl⟩
  have hg : hw D hC AX g_2 H := by rw [eg_2]; exact hg
  have f2_0 : g_2 a1 = some (.inl (cI, 6, .inl (fun _ => 0))) := by rw [eg_2, hs_n _ _ (Ne.symm n_mm_a1)]; exact f1_1
  have f2_1 : g_2 mm = some (.inr (8, [.int (nI 0), .ref a1, .null, .int (nI 0), .int (nI 0), .null, .null, .null, .null, .int (nI 0), .null, .null, .int (nI 0), .null, .int (nI 0), .null, .int (nI 0), .int (nI 0), .null, .null, .null, .int (nI 0), .null, .int (nI 0), .null, .int (nI 0), .null, .null, .null])) := by rw [eg_2]; exact hs_s _ _ _
  have fr := fr.put eg_2 (by simp)
  refine lv_aload_n S0.1 S0.2.1 dMM_init_12 rfl (lv_at hl 0 rfl) ?_
  refine lv_sipush (v := nI 360) S0.1 S0.2.1 dMM_init_13 (by decide) ?_
  refine hw_newa (ty := .int) (a0 := (360, .inl (fun _ => 0))) S0 hK hg hS hA0 rfl wI_arr 0 rfl (fun C h => by cases h) (fun _ => rfl) (by omega) (by show 360 * 4 ≤ 536870912; omega) (Nat.le_trans (Nat.le_of_ble_eq_true rfl) hR.2.2.1) (Nat.le_trans (Nat.le_of_ble_eq_true rfl) hR.2.2.2) dMM_init_16 (fun a2 H ha2 hg hS => ?_)
  have n_a1_a2 : a1 ≠ a2 := h_nn f2_0 ha2
  have n_mm_a2 : mm ≠ a2 := h_nn f2_1 ha2
  have z_a2 : g a2 = none := fr.nn ha2 (h_nm (Ne.symm n_mm_a2) h_n0)
  obtain ⟨g_3, eg_3⟩ : ∃ z, z = hs g_2 a2 (.inl (cI, 360, .inl (fun _ => 0))) := ⟨_, rfl⟩
  have hg : hw D hC AX g_3 H := by rw [eg_3]; exact hg
  have f3_0 : g_3 a1 = some (.inl (cI, 6, .inl (fun _ => 0))) := by rw [eg_3, hs_n _ _ n_a1_a2]; exact f2_0
  have f3_1 : g_3 mm = some (.inr (8, [.int (nI 0), .ref a1, .null, .int (nI 0), .int (nI 0), .null, .null, .null, .null, .int (nI 0), .null, .null, .int (nI 0), .null, .int (nI 0), .null, .int (nI 0), .int (nI 0), .null, .null, .null, .int (nI 0), .null, .int (nI 0), .null, .int (nI 0), .null, .null, .null])) := by rw [eg_3, hs_n _ _ n_mm_a2]; exact f2_1
  have f3_2 : g_3 a2 = some (.inl (cI, 360, .inl (fun _ => 0))) := by rw [eg_3]; exact hs_s _ _ _
  have fr := fr.putN eg_3 z_a2
  refine hw_putF S0 hK hg hS f3_1 rfl inMM tyMM tokMM nmMM 2 (by decide) lf_MM_13 rfl rfl hnm rfl rfl rfl (Nat.le_of_ble_eq_true rfl) dMM_init_18 (fun H locs hg hS => ?_)
  obtain ⟨g_4, eg_4⟩ : ∃ z, z = hs g_3 mm (.inr (8, [.int (nI 0), .ref a1, .ref a2, .int (nI 0), .int (nI 0), .null, .null, .null, .null, .int (nI 0), .null, .null, .int (nI 0), .null, .int (nI 0), .null, .int (nI 0), .int (nI 0), .null, .null, .null, .int (nI 0), .null, .int (nI 0), .null, .int (nI 0), .null, .null, .null])) := ⟨_, rfl⟩
  have hg : hw D hC AX g_4 H := by rw [eg_4]; exact hg
  have f4_0 : g_4 a1 = some (.inl (cI, 6, .inl (fun _ => 0))) := by rw [eg_4, hs_n _ _ (Ne.symm n_mm_a1)]; exact f3_0
  have f4_1 : g_4 a2 = some (.inl (cI, 360, .inl (fun _ => 0))) := by rw [eg_4, hs_n _ _ (Ne.symm n_mm_a2)]; exact f3_2
  have f4_2 : g_4 mm = some (.inr (8, [.int (nI 0), .ref a1, .ref a2, .int (nI 0), .int (nI 0), .null, .null, .null, .null, .int (nI 0), .null, .null, .int (nI 0), .null, .int (nI 0), .null, .int (nI 0), .int (nI 0), .null, .null, .null, .int (nI 0), .null, .int (nI 0), .null, .int (nI 0), .null, .null, .null])) := by rw [eg_4]; exact hs_s _ _ _
  have fr := fr.put eg_4 (by simp)
  refine lv_aload_n S0.1 S0.2.1 dMM_init_21 rfl (lv_at hl 0 rfl) ?_
  refine lv_bipush (v := nI 60) S0.1 S0.2.1 dMM_init_22 (by decide) ?_
  refine hw_newa (ty := .int) (a0 := (60, .inl (fun _ => 0))) S0 hK hg hS hA0 rfl wI_arr 0 rfl (fun C h => by cases h) (fun _ => rfl) (by omega) (by show 60 * 4 ≤ 536870912; omega) (Nat.le_trans (Nat.le_of_ble_eq_true rfl) hR.2.2.1) (Nat.le_trans (Nat.le_of_ble_eq_true rfl) hR.2.2.2) dMM_init_24 (fun a3 H ha3 hg hS => ?_)
  have n_a1_a3 : a1 ≠ a3 := h_nn f4_0 ha3
  have n_a2_a3 : a2 ≠ a3 := h_nn f4_1 ha3
  have n_mm_a3 : mm ≠ a3 := h_nn f4_2 ha3
  have z_a3 : g a3 = none := fr.nn ha3 (h_nm (Ne.symm n_mm_a3) h_n0)
  obtain ⟨g_5, eg_5⟩ : ∃ z, z = hs g_4 a3 (.inl (cI, 60, .inl (fun _ => 0))) := ⟨_, rfl⟩
  have hg : hw D hC AX g_5 H := by rw [eg_5]; exact hg
  have f5_0 : g_5 a1 = some (.inl (cI, 6, .inl (fun _ => 0))) := by rw [eg_5, hs_n _ _ n_a1_a3]; exact f4_0
  have f5_1 : g_5 a2 = some (.inl (cI, 360, .inl (fun _ => 0))) := by rw [eg_5, hs_n _ _ n_a2_a3]; exact f4_1
  have f5_2 : g_5 mm = some (.inr (8, [.int (nI 0), .ref a1, .ref a2, .int (nI 0), .int (nI 0), .null, .null, .null, .null, .int (nI 0), .null, .null, .int (nI 0), .null, .int (nI 0), .null, .int (nI 0), .int (nI 0), .null, .null, .null, .int (nI 0), .null, .int (nI 0), .null, .int (nI 0), .null, .null, .null])) := by rw [eg_5, hs_n _ _ n_mm_a3]; exact f4_2
  have f5_3 : g_5 a3 = some (.inl (cI, 60, .inl (fun _ => 0))) := by rw [eg_5]; exact hs_s _ _ _
  have fr := fr.putN eg_5 z_a3
  refine hw_putF S0 hK hg hS f5_2 rfl inMM tyMM tokMM nmMM 5 (by decide) lf_MM_16 rfl rfl hnm rfl rfl rfl (Nat.le_of_ble_eq_true rfl) dMM_init_26 (fun H locs hg hS => ?_)
  obtain ⟨g_6, eg_6⟩ : ∃ z, z = hs g_5 mm (.inr (8, [.int (nI 0), .ref a1, .ref a2, .int (nI 0), .int (nI 0), .ref a3, .null, .null, .null, .int (nI 0), .null, .null, .int (nI 0), .null, .int (nI 0), .null, .int (nI 0), .int (nI 0), .null, .null, .null, .int (nI 0), .null, .int (nI 0), .null, .int (nI 0), .null, .null, .null])) := ⟨_, rfl⟩
  have hg : hw D hC AX g_6 H := by rw [eg_6]; exact hg
  have f6_0 : g_6 a1 = some (.inl (cI, 6, .inl (fun _ => 0))) := by rw [eg_6, hs_n _ _ (Ne.symm n_mm_a1)]; exact f5_0
  have f6_1 : g_6 a2 = some (.inl (cI, 360, .inl (fun _ => 0))) := by rw [eg_6, hs_n _ _ (Ne.symm n_mm_a2)]; exact f5_1
  have f6_2 : g_6 a3 = some (.inl (cI, 60, .inl (fun _ => 0))) := by rw [eg_6, hs_n _ _ (Ne.symm n_mm_a3)]; exact f5_3
  have f6_3 : g_6 mm = some (.inr (8, [.int (nI 0), .ref a1, .ref a2, .int (nI 0), .int (nI 0), .ref a3, .null, .null, .null, .int (nI 0), .null, .null, .int (nI 0), .null, .int (nI 0), .null, .int (nI 0), .int (nI 0), .null, .null, .null, .int (nI 0), .null, .int (nI 0), .null, .int (nI 0), .null, .null, .null])) := by rw [eg_6]; exact hs_s _ _ _
  have fr := fr.put eg_6 (by simp)
  refine lv_aload_n S0.1 S0.2.1 dMM_init_29 rfl (lv_at hl 0 rfl) ?_
  refine lv_bipush (v := nI 60) S0.1 S0.2.1 dMM_init_30 (by decide) ?_
  refine hw_newa (ty := .int) (a0 := (60, .inl (fun _ => 0))) S0 hK hg hS hA0 rfl wI_arr 0 rfl (fun C h => by cases h) (fun _ => rfl) (by omega) (by show 60 * 4 ≤ 536870912; omega) (Nat.le_trans (Nat.le_of_ble_eq_true rfl) hR.2.2.1) (Nat.le_trans (Nat.le_of_ble_eq_true rfl) hR.2.2.2) dMM_init_32 (fun a4 H ha4 hg hS => ?_)
  have n_a1_a4 : a1 ≠ a4 := h_nn f6_0 ha4
  have n_a2_a4 : a2 ≠ a4 := h_nn f6_1 ha4
  have n_a3_a4 : a3 ≠ a4 := h_nn f6_2 ha4
  have n_mm_a4 : mm ≠ a4 := h_nn f6_3 ha4
  have z_a4 : g a4 = none := fr.nn ha4 (h_nm (Ne.symm n_mm_a4) h_n0)
  obtain ⟨g_7, eg_7⟩ : ∃ z, z = hs g_6 a4 (.inl (cI, 60, .inl (fun _ => 0))) := ⟨_, rfl⟩
  have hg : hw D hC AX g_7 H := by rw [eg_7]; exact hg
  have f7_0 : g_7 a1 = some (.inl (cI, 6, .inl (fun _ => 0))) := by rw [eg_7, hs_n _ _ n_a1_a4]; exact f6_0
  have f7_1 : g_7 a2 = some (.inl (cI, 360, .inl (fun _ => 0))) := by rw [eg_7, hs_n _ _ n_a2_a4]; exact f6_1
  have f7_2 : g_7 a3 = some (.inl (cI, 60, .inl (fun _ => 0))) := by rw [eg_7, hs_n _ _ n_a3_a4]; exact f6_2
  have f7_3 : g_7 mm = some (.inr (8, [.int (nI 0), .ref a1, .ref a2, .int (nI 0), .int (nI 0), .ref a3, .null, .null, .null, .int (nI 0), .null, .null, .int (nI 0), .null, .int (nI 0), .null, .int (nI 0), .int (nI 0), .null, .null, .null, .int (nI 0), .null, .int (nI 0), .null, .int (nI 0), .null, .null, .null])) := by rw [eg_7, hs_n _ _ n_mm_a4]; exact f6_3
  have f7_4 : g_7 a4 = some (.inl (cI, 60, .inl (fun _ => 0))) := by rw [eg_7]; exact hs_s _ _ _
  have fr := fr.putN eg_7 z_a4
  refine hw_putF S0 hK hg hS f7_3 rfl inMM tyMM tokMM nmMM 6 (by decide) lf_MM_19 rfl rfl hnm rfl rfl rfl (Nat.le_of_ble_eq_true rfl) dMM_init_34 (fun H locs hg hS => ?_)
  obtain ⟨g_8, eg_8⟩ : ∃ z, z = hs g_7 mm (.inr (8, [.int (nI 0), .ref a1, .ref a2, .int (nI 0), .int (nI 0), .ref a3, .ref a4, .null, .null, .int (nI 0), .null, .null, .int (nI 0), .null, .int (nI 0), .null, .int (nI 0), .int (nI 0), .null, .null, .null, .int (nI 0), .null, .int (nI 0), .null, .int (nI 0), .null, .null, .null])) := ⟨_, rfl⟩
  have hg : hw D hC AX g_8 H := by rw [eg_8]; exact hg
  have f8_0 : g_8 a1 = some (.inl (cI, 6, .inl (fun _ => 0))) := by rw [eg_8, hs_n _ _ (Ne.symm n_mm_a1)]; exact f7_0
  have f8_1 : g_8 a2 = some (.inl (cI, 360, .inl (fun _ => 0))) := by rw [eg_8, hs_n _ _ (Ne.symm n_mm_a2)]; exact f7_1
  have f8_2 : g_8 a3 = some (.inl (cI, 60, .inl (fun _ => 0))) := by rw [eg_8, hs_n _ _ (Ne.symm n_mm_a3)]; exact f7_2
  have f8_3 : g_8 a4 = some (.inl (cI, 60, .inl (fun _ => 0))) := by rw [eg_8, hs_n _ _ (Ne.symm n_mm_a4)]; exact f7_4
  have f8_4 : g_8 mm = some (.inr (8, [.int (nI 0), .ref a1, .ref a2, .int (nI 0), .int (nI 0), .ref a3, .ref a4, .null, .null, .int (nI 0), .null, .null, .int (nI 0), .null, .int (nI 0), .null, .int (nI 0), .int (nI 0), .null, .null, .null, .int (nI 0), .null, .int (nI 0), .null, .int (nI 0), .null, .null, .null])) := by rw [eg_8]; exact hs_s _ _ _
  have fr := fr.put eg_8 (by simp)
  refine lv_aload_n S0.1 S0.2.1 dMM_init_37 rfl (lv_at hl 0 rfl) ?_
  refine lv_sipush (v := nI 3721) S0.1 S0.2.1 dMM_init_38 (by decide) ?_
  refine hw_newa (ty := .int) (a0 := (3721, .inl (fun _ => 0))) S0 hK hg hS hA0 rfl wI_arr 0 rfl (fun C h => by cases h) (fun _ => rfl) (by omega) (by show 3721 * 4 ≤ 536870912; omega) (Nat.le_trans (Nat.le_of_ble_eq_true rfl) hR.2.2.1) (Nat.le_trans (Nat.le_of_ble_eq_true rfl) hR.2.2.2) dMM_init_41 (fun a5 H ha5 hg hS => ?_)
  have n_a1_a5 : a1 ≠ a5 := h_nn f8_0 ha5
  have n_a2_a5 : a2 ≠ a5 := h_nn f8_1 ha5
  have n_a3_a5 : a3 ≠ a5 := h_nn f8_2 ha5
  have n_a4_a5 : a4 ≠ a5 := h_nn f8_3 ha5
  have n_mm_a5 : mm ≠ a5 := h_nn f8_4 ha5
  have z_a5 : g a5 = none := fr.nn ha5 (h_nm (Ne.symm n_mm_a5) h_n0)
  obtain ⟨g_9, eg_9⟩ : ∃ z, z = hs g_8 a5 (.inl (cI, 3721, .inl (fun _ => 0))) := ⟨_, rfl⟩
  have hg : hw D hC AX g_9 H := by rw [eg_9]; exact hg
  have f9_0 : g_9 a1 = some (.inl (cI, 6, .inl (fun _ => 0))) := by rw [eg_9, hs_n _ _ n_a1_a5]; exact f8_0
  have f9_1 : g_9 a2 = some (.inl (cI, 360, .inl (fun _ => 0))) := by rw [eg_9, hs_n _ _ n_a2_a5]; exact f8_1
  have f9_2 : g_9 a3 = some (.inl (cI, 60, .inl (fun _ => 0))) := by rw [eg_9, hs_n _ _ n_a3_a5]; exact f8_2
  have f9_3 : g_9 a4 = some (.inl (cI, 60, .inl (fun _ => 0))) := by rw [eg_9, hs_n _ _ n_a4_a5]; exact f8_3
  have f9_4 : g_9 mm = some (.inr (8, [.int (nI 0), .ref a1, .ref a2, .int (nI 0), .int (nI 0), .ref a3, .ref a4, .null, .null, .int (nI 0), .null, .null, .int (nI 0), .null, .int (nI 0), .null, .int (nI 0), .int (nI 0), .null, .null, .null, .int (nI 0), .null, .int (nI 0), .null, .int (nI 0), .null, .null, .null])) := by rw [eg_9, hs_n _ _ n_mm_a5]; exact f8_4
  have f9_5 : g_9 a5 = some (.inl (cI, 3721, .inl (fun _ => 0))) := by rw [eg_9]; exact hs_s _ _ _
  have fr := fr.putN eg_9 z_a5
  refine hw_putF S0 hK hg hS f9_4 rfl inMM tyMM tokMM nmMM 7 (by decide) lf_MM_22 rfl rfl hnm rfl rfl rfl (Nat.le_of_ble_eq_true rfl) dMM_init_43 (fun H locs hg hS => ?_)
  obtain ⟨g_10, eg_10⟩ : ∃ z, z = hs g_9 mm (.inr (8, [.int (nI 0), .ref a1, .ref a2, .int (nI 0), .int (nI 0), .ref a3, .ref a4, .ref a5, .null, .int (nI 0), .null, .null, .int (nI 0), .null, .int (nI 0), .null, .int (nI 0), .int (nI 0), .null, .null, .null, .int (nI 0), .null, .int (nI 0), .null, .int (nI 0), .null, .null, .null])) := ⟨_, rfl⟩
  have hg : hw D hC AX g_10 H := by rw [eg_10]; exact hg
  have f10_0 : g_10 a1 = some (.inl (cI, 6, .inl (fun _ => 0))) := by rw [eg_10, hs_n _ _ (Ne.symm n_mm_a1)]; exact f9_0
  have f10_1 : g_10 a2 = some (.inl (cI, 360, .inl (fun _ => 0))) := by rw [eg_10, hs_n _ _ (Ne.symm n_mm_a2)]; exact f9_1
  have f10_2 : g_10 a3 = some (.inl (cI, 60, .inl (fun _ => 0))) := by rw [eg_10, hs_n _ _ (Ne.symm n_mm_a3)]; exact f9_2
  have f10_3 : g_10 a4 = some (.inl (cI, 60, .inl (fun _ => 0))) := by rw [eg_10, hs_n _ _ (Ne.symm n_mm_a4)]; exact f9_3
  have f10_4 : g_10 a5 = some (.inl (cI, 3721, .inl (fun _ => 0))) := by rw [eg_10, hs_n _ _ (Ne.symm n_mm_a5)]; exact f9_5
  have f10_5 : g_10 mm = some (.inr (8, [.int (nI 0), .ref a1, .ref a2, .int (nI 0), .int (nI 0), .ref a3, .ref a4, .ref a5, .null, .int (nI 0), .null, .null, .int (nI 0), .null, .int (nI 0), .null, .int (nI 0), .int (nI 0), .null, .null, .null, .int (nI 0), .null, .int (nI 0), .null, .int (nI 0), .null, .null, .null])) := by rw [eg_10]; exact hs_s _ _ _
  have fr := fr.put eg_10 (by simp)
  refine lv_aload_n S0.1 S0.2.1 dMM_init_46 rfl (lv_at hl 0 rfl) ?_
  refine lv_bipush (v := nI 60) S0.1 S0.2.1 dMM_init_47 (by decide) ?_
  refine hw_newa (ty := .int) (a0 := (60, .inl (fun _ => 0))) S0 hK hg hS hA0 rfl wI_arr 0 rfl (fun C h => by cases h) (fun _ => rfl) (by omega) (by show 60 * 4 ≤ 536870912; omega) (Nat.le_trans (Nat.le_of_ble_eq_true rfl) hR.2.2.1) (Nat.le_trans (Nat.le_of_ble_eq_true rfl) hR.2.2.2) dMM_init_49 (fun a6 H ha6 hg hS => ?_)
  have n_a1_a6 : a1 ≠ a6 := h_nn f10_0 ha6
  have n_a2_a6 : a2 ≠ a6 := h_nn f10_1 ha6
  have n_a3_a6 : a3 ≠ a6 := h_nn f10_2 ha6
  have n_a4_a6 : a4 ≠ a6 := h_nn f10_3 ha6
  have n_a5_a6 : a5 ≠ a6 := h_nn f10_4 ha6
  have n_mm_a6 : mm ≠ a6 := h_nn f10_5 ha6
  have z_a6 : g a6 = none := fr.nn ha6 (h_nm (Ne.symm n_mm_a6) h_n0)
  obtain ⟨g_11, eg_11⟩ : ∃ z, z = hs g_10 a6 (.inl (cI, 60, .inl (fun _ => 0))) := ⟨_, rfl⟩
  have hg : hw D hC AX g_11 H := by rw [eg_11]; exact hg
  have f11_0 : g_11 a1 = some (.inl (cI, 6, .inl (fun _ => 0))) := by rw [eg_11, hs_n _ _ n_a1_a6]; exact f10_0
  have f11_1 : g_11 a2 = some (.inl (cI, 360, .inl (fun _ => 0))) := by rw [eg_11, hs_n _ _ n_a2_a6]; exact f10_1
  have f11_2 : g_11 a3 = some (.inl (cI, 60, .inl (fun _ => 0))) := by rw [eg_11, hs_n _ _ n_a3_a6]; exact f10_2
  have f11_3 : g_11 a4 = some (.inl (cI, 60, .inl (fun _ => 0))) := by rw [eg_11, hs_n _ _ n_a4_a6]; exact f10_3
  have f11_4 : g_11 a5 = some (.inl (cI, 3721, .inl (fun _ => 0))) := by rw [eg_11, hs_n _ _ n_a5_a6]; exact f10_4
  have f11_5 : g_11 mm = some (.inr (8, [.int (nI 0), .ref a1, .ref a2, .int (nI 0), .int (nI 0), .ref a3, .ref a4, .ref a5, .null, .int (nI 0), .null, .null, .int (nI 0), .null, .int (nI 0), .null, .int (nI 0), .int (nI 0), .null, .null, .null, .int (nI 0), .null, .int (nI 0), .null, .int (nI 0), .null, .null, .null])) := by rw [eg_11, hs_n _ _ n_mm_a6]; exact f10_5
  have f11_6 : g_11 a6 = some (.inl (cI, 60, .inl (fun _ => 0))) := by rw [eg_11]; exact hs_s _ _ _
  have fr := fr.putN eg_11 z_a6
  refine hw_putF S0 hK hg hS f11_5 rfl inMM tyMM tokMM nmMM 8 (by decide) lf_MM_25 rfl rfl hnm rfl rfl rfl (Nat.le_of_ble_eq_true rfl) dMM_init_51 (fun H locs hg hS => ?_)
  obtain ⟨g_12, eg_12⟩ : ∃ z, z = hs g_11 mm (.inr (8, [.int (nI 0), .ref a1, .ref a2, .int (nI 0), .int (nI 0), .ref a3, .ref a4, .ref a5, .ref a6, .int (nI 0), .null, .null, .int (nI 0), .null, .int (nI 0), .null, .int (nI 0), .int (nI 0), .null, .null, .null, .int (nI 0), .null, .int (nI 0), .null, .int (nI 0), .null, .null, .null])) := ⟨_, rfl⟩
  have hg : hw D hC AX g_12 H := by rw [eg_12]; exact hg
  have f12_0 : g_12 a1 = some (.inl (cI, 6, .inl (fun _ => 0))) := by rw [eg_12, hs_n _ _ (Ne.symm n_mm_a1)]; exact f11_0
  have f12_1 : g_12 a2 = some (.inl (cI, 360, .inl (fun _ => 0))) := by rw [eg_12, hs_n _ _ (Ne.symm n_mm_a2)]; exact f11_1
  have f12_2 : g_12 a3 = some (.inl (cI, 60, .inl (fun _ => 0))) := by rw [eg_12, hs_n _ _ (Ne.symm n_mm_a3)]; exact f11_2
  have f12_3 : g_12 a4 = some (.inl (cI, 60, .inl (fun _ => 0))) := by rw [eg_12, hs_n _ _ (Ne.symm n_mm_a4)]; exact f11_3
  have f12_4 : g_12 a5 = some (.inl (cI, 3721, .inl (fun _ => 0))) := by rw [eg_12, hs_n _ _ (Ne.symm n_mm_a5)]; exact f11_4
  have f12_5 : g_12 a6 = some (.inl (cI, 60, .inl (fun _ => 0))) := by rw [eg_12, hs_n _ _ (Ne.symm n_mm_a6)]; exact f11_6
  have f12_6 : g_12 mm = some (.inr (8, [.int (nI 0), .ref a1, .ref a2, .int (nI 0), .int (nI 0), .ref a3, .ref a4, .ref a5, .ref a6, .int (nI 0), .null, .null, .int (nI 0), .null, .int (nI 0), .null, .int (nI 0), .int (nI 0), .null, .null, .null, .int (nI 0), .null, .int (nI 0), .null, .int (nI 0), .null, .null, .null])) := by rw [eg_12]; exact hs_s _ _ _
  have fr := fr.put eg_12 (by simp)
  refine lv_aload_n S0.1 S0.2.1 dMM_init_54 rfl (lv_at hl 0 rfl) ?_
  refine lv_bipush (v := nI 60) S0.1 S0.2.1 dMM_init_55 (by decide) ?_
  refine hw_newa (ty := .int) (a0 := (60, .inl (fun _ => 0))) S0 hK hg hS hA0 rfl wI_arr 0 rfl (fun C h => by cases h) (fun _ => rfl) (by omega) (by show 60 * 4 ≤ 536870912; omega) (Nat.le_trans (Nat.le_of_ble_eq_true rfl) hR.2.2.1) (Nat.le_trans (Nat.le_of_ble_eq_true rfl) hR.2.2.2) dMM_init_57 (fun a7 H ha7 hg hS => ?_)
  have n_a1_a7 : a1 ≠ a7 := h_nn f12_0 ha7
  have n_a2_a7 : a2 ≠ a7 := h_nn f12_1 ha7
  have n_a3_a7 : a3 ≠ a7 := h_nn f12_2 ha7
  have n_a4_a7 : a4 ≠ a7 := h_nn f12_3 ha7
  have n_a5_a7 : a5 ≠ a7 := h_nn f12_4 ha7
  have n_a6_a7 : a6 ≠ a7 := h_nn f12_5 ha7
  have n_mm_a7 : mm ≠ a7 := h_nn f12_6 ha7
  have z_a7 : g a7 = none := fr.nn ha7 (h_nm (Ne.symm n_mm_a7) h_n0)
  obtain ⟨g_13, eg_13⟩ : ∃ z, z = hs g_12 a7 (.inl (cI, 60, .inl (fun _ => 0))) := ⟨_, rfl⟩
  have hg : hw D hC AX g_13 H := by rw [eg_13]; exact hg
  have f13_0 : g_13 a1 = some (.inl (cI, 6, .inl (fun _ => 0))) := by rw [eg_13, hs_n _ _ n_a1_a7]; exact f12_0
  have f13_1 : g_13 a2 = some (.inl (cI, 360, .inl (fun _ => 0))) := by rw [eg_13, hs_n _ _ n_a2_a7]; exact f12_1
  have f13_2 : g_13 a3 = some (.inl (cI, 60, .inl (fun _ => 0))) := by rw [eg_13, hs_n _ _ n_a3_a7]; exact f12_2
  have f13_3 : g_13 a4 = some (.inl (cI, 60, .inl (fun _ => 0))) := by rw [eg_13, hs_n _ _ n_a4_a7]; exact f12_3
  have f13_4 : g_13 a5 = some (.inl (cI, 3721, .inl (fun _ => 0))) := by rw [eg_13, hs_n _ _ n_a5_a7]; exact f12_4
  have f13_5 : g_13 a6 = some (.inl (cI, 60, .inl (fun _ => 0))) := by rw [eg_13, hs_n _ _ n_a6_a7]; exact f12_5
  have f13_6 : g_13 mm = some (.inr (8, [.int (nI 0), .ref a1, .ref a2, .int (nI 0), .int (nI 0), .ref a3, .ref a4, .ref a5, .ref a6, .int (nI 0), .null, .null, .int (nI 0), .null, .int (nI 0), .null, .int (nI 0), .int (nI 0), .null, .null, .null, .int (nI 0), .null, .int (nI 0), .null, .int (nI 0), .null, .null, .null])) := by rw [eg_13, hs_n _ _ n_mm_a7]; exact f12_6
  have f13_7 : g_13 a7 = some (.inl (cI, 60, .inl (fun _ => 0))) := by rw [eg_13]; exact hs_s _ _ _
  have fr := fr.putN eg_13 z_a7
  refine hw_putF S0 hK hg hS f13_6 rfl inMM tyMM tokMM nmMM 10 (by decide) lf_MM_28 rfl rfl hnm rfl rfl rfl (Nat.le_of_ble_eq_true rfl) dMM_init_59 (fun H locs hg hS => ?_)
  obtain ⟨g_14, eg_14⟩ : ∃ z, z = hs g_13 mm (.inr (8, [.int (nI 0), .ref a1, .ref a2, .int (nI 0), .int (nI 0), .ref a3, .ref a4, .ref a5, .ref a6, .int (nI 0), .ref a7, .null, .int (nI 0), .null, .int (nI 0), .null, .int (nI 0), .int (nI 0), .null, .null, .null, .int (nI 0), .null, .int (nI 0), .null, .int (nI 0), .null, .null, .null])) := ⟨_, rfl⟩
  have hg : hw D hC AX g_14 H := by rw [eg_14]; exact hg
  have f14_0 : g_14 a1 = some (.inl (cI, 6, .inl (fun _ => 0))) := by rw [eg_14, hs_n _ _ (Ne.symm n_mm_a1)]; exact f13_0
  have f14_1 : g_14 a2 = some (.inl (cI, 360, .inl (fun _ => 0))) := by rw [eg_14, hs_n _ _ (Ne.symm n_mm_a2)]; exact f13_1
  have f14_2 : g_14 a3 = some (.inl (cI, 60, .inl (fun _ => 0))) := by rw [eg_14, hs_n _ _ (Ne.symm n_mm_a3)]; exact f13_2
  have f14_3 : g_14 a4 = some (.inl (cI, 60, .inl (fun _ => 0))) := by rw [eg_14, hs_n _ _ (Ne.symm n_mm_a4)]; exact f13_3
  have f14_4 : g_14 a5 = some (.inl (cI, 3721, .inl (fun _ => 0))) := by rw [eg_14, hs_n _ _ (Ne.symm n_mm_a5)]; exact f13_4
  have f14_5 : g_14 a6 = some (.inl (cI, 60, .inl (fun _ => 0))) := by rw [eg_14, hs_n _ _ (Ne.symm n_mm_a6)]; exact f13_5
  have f14_6 : g_14 a7 = some (.inl (cI, 60, .inl (fun _ => 0))) := by rw [eg_14, hs_n _ _ (Ne.symm n_mm_a7)]; exact f13_7
  have f14_7 : g_14 mm = some (.inr (8, [.int (nI 0), .ref a1, .ref a2, .int (nI 0), .int (nI 0), .ref a3, .ref a4, .ref a5, .ref a6, .int (nI 0), .ref a7, .null, .int (nI 0), .null, .int (nI 0), .null, .int (nI 0), .int (nI 0), .null, .null, .null, .int (nI 0), .null, .int (nI 0), .null, .int (nI 0), .null, .null, .null])) := by rw [eg_14]; exact hs_s _ _ _
  have fr := fr.put eg_14 (by simp)
  refine lv_aload_n S0.1 S0.2.1 dMM_init_62 rfl (lv_at hl 0 rfl) ?_
  refine lv_bipush (v := nI 60) S0.1 S0.2.1 dMM_init_63 (by decide) ?_
  refine hw_newa (ty := .int) (a0 := (60, .inl (fun _ => 0))) S0 hK hg hS hA0 rfl wI_arr 0 rfl (fun C h => by cases h) (fun _ => rfl) (by omega) (by show 60 * 4 ≤ 536870912; omega) (Nat.le_trans (Nat.le_of_ble_eq_true rfl) hR.2.2.1) (Nat.le_trans (Nat.le_of_ble_eq_true rfl) hR.2.2.2) dMM_init_65 (fun a8 H ha8 hg hS => ?_)
  have n_a1_a8 : a1 ≠ a8 := h_nn f14_0 ha8
  have n_a2_a8 : a2 ≠ a8 := h_nn f14_1 ha8
  have n_a3_a8 : a3 ≠ a8 := h_nn f14_2 ha8
  have n_a4_a8 : a4 ≠ a8 := h_nn f14_3 ha8
  have n_a5_a8 : a5 ≠ a8 := h_nn f14_4 ha8
  have n_a6_a8 : a6 ≠ a8 := h_nn f14_5 ha8
  have n_a7_a8 : a7 ≠ a8 := h_nn f14_6 ha8
  have n_mm_a8 : mm ≠ a8 := h_nn f14_7 ha8
  have z_a8 : g a8 = none := fr.nn ha8 (h_nm (Ne.symm n_mm_a8) h_n0)
  obtain ⟨g_15, eg_15⟩ : ∃ z, z = hs g_14 a8 (.inl (cI, 60, .inl (fun _ => 0))) := ⟨_, rfl⟩
  have hg : hw D hC AX g_15 H := by rw [eg_15]; exact hg
  have f15_0 : g_15 a1 = some (.inl (cI, 6, .inl (fun _ => 0))) := by rw [eg_15, hs_n _ _ n_a1_a8]; exact f14_0
  have f15_1 : g_15 a2 = some (.inl (cI, 360, .inl (fun _ => 0))) := by rw [eg_15, hs_n _ _ n_a2_a8]; exact f14_1
  have f15_2 : g_15 a3 = some (.inl (cI, 60, .inl (fun _ => 0))) := by rw [eg_15, hs_n _ _ n_a3_a8]; exact f14_2
  have f15_3 : g_15 a4 = some (.inl (cI, 60, .inl (fun _ => 0))) := by rw [eg_15, hs_n _ _ n_a4_a8]; exact f14_3
  have f15_4 : g_15 a5 = some (.inl (cI, 3721, .inl (fun _ => 0))) := by rw [eg_15, hs_n _ _ n_a5_a8]; exact f14_4
  have f15_5 : g_15 a6 = some (.inl (cI, 60, .inl (fun _ => 0))) := by rw [eg_15, hs_n _ _ n_a6_a8]; exact f14_5
  have f15_6 : g_15 a7 = some (.inl (cI, 60, .inl (fun _ => 0))) := by rw [eg_15, hs_n _ _ n_a7_a8]; exact f14_6
  have f15_7 : g_15 mm = some (.inr (8, [.int (nI 0), .ref a1, .ref a2, .int (nI 0), .int (nI 0), .ref a3, .ref a4, .ref a5, .ref a6, .int (nI 0), .ref a7, .null, .int (nI 0), .null, .int (nI 0), .null, .int (nI 0), .int (nI 0), .null, .null, .null, .int (nI 0), .null, .int (nI 0), .null, .int (nI 0), .null, .null, .null])) := by rw [eg_15, hs_n _ _ n_mm_a8]; exact f14_7
  have f15_8 : g_15 a8 = some (.inl (cI, 60, .inl (fun _ => 0))) := by rw [eg_15]; exact hs_s _ _ _
  have fr := fr.putN eg_15 z_a8
  refine hw_putF S0 hK hg hS f15_7 rfl inMM tyMM tokMM nmMM 11 (by decide) lf_MM_31 rfl rfl hnm rfl rfl rfl (Nat.le_of_ble_eq_true rfl) dMM_init_67 (fun H locs hg hS => ?_)
  obtain ⟨g_16, eg_16⟩ : ∃ z, z = hs g_15 mm (.inr (8, [.int (nI 0), .ref a1, .ref a2, .int (nI 0), .int (nI 0), .ref a3, .ref a4, .ref a5, .ref a6, .int (nI 0), .ref a7, .ref a8, .int (nI 0), .null, .int (nI 0), .null, .int (nI 0), .int (nI 0), .null, .null, .null, .int (nI 0), .null, .int (nI 0), .null, .int (nI 0), .null, .null, .null])) := ⟨_, rfl⟩
  have hg : hw D hC AX g_16 H := by rw [eg_16]; exact hg
  have f16_0 : g_16 a1 = some (.inl (cI, 6, .inl (fun _ => 0))) := by rw [eg_16, hs_n _ _ (Ne.symm n_mm_a1)]; exact f15_0
  have f16_1 : g_16 a2 = some (.inl (cI, 360, .inl (fun _ => 0))) := by rw [eg_16, hs_n _ _ (Ne.symm n_mm_a2)]; exact f15_1
  have f16_2 : g_16 a3 = some (.inl (cI, 60, .inl (fun _ => 0))) := by rw [eg_16, hs_n _ _ (Ne.symm n_mm_a3)]; exact f15_2
  have f16_3 : g_16 a4 = some (.inl (cI, 60, .inl (fun _ => 0))) := by rw [eg_16, hs_n _ _ (Ne.symm n_mm_a4)]; exact f15_3
  have f16_4 : g_16 a5 = some (.inl (cI, 3721, .inl (fun _ => 0))) := by rw [eg_16, hs_n _ _ (Ne.symm n_mm_a5)]; exact f15_4
  have f16_5 : g_16 a6 = some (.inl (cI, 60, .inl (fun _ => 0))) := by rw [eg_16, hs_n _ _ (Ne.symm n_mm_a6)]; exact f15_5
  have f16_6 : g_16 a7 = some (.inl (cI, 60, .inl (fun _ => 0))) := by rw [eg_16, hs_n _ _ (Ne.symm n_mm_a7)]; exact f15_6
  have f16_7 : g_16 a8 = some (.inl (cI, 60, .inl (fun _ => 0))) := by rw [eg_16, hs_n _ _ (Ne.symm n_mm_a8)]; exact f15_8
  have f16_8 : g_16 mm = some (.inr (8, [.int (nI 0), .ref a1, .ref a2, .int (nI 0), .int (nI 0), .ref a3, .ref a4, .ref a5, .ref a6, .int (nI 0), .ref a7, .ref a8, .int (nI 0), .null, .int (nI 0), .null, .int (nI 0), .int (nI 0), .null, .null, .null, .int (nI 0), .null, .int (nI 0), .null, .int (nI 0), .null, .null, .null])) := by rw [eg_16]; exact hs_s _ _ _
  have fr := fr.put eg_16 (by simp)
  refine lv_aload_n S0.1 S0.2.1 dMM_init_70 rfl (lv_at hl 0 rfl) ?_
  refine lv_sipush (v := nI 250) S0.1 S0.2.1 dMM_init_71 (by decide) ?_
  refine hw_newa (ty := .int) (a0 := (250, .inl (fun _ => 0))) S0 hK hg hS hA0 rfl wI_arr 0 rfl (fun C h => by cases h) (fun _ => rfl) (by omega) (by show 250 * 4 ≤ 536870912; omega) (Nat.le_trans (Nat.le_of_ble_eq_true rfl) hR.2.2.1) (Nat.le_trans (Nat.le_of_ble_eq_true rfl) hR.2.2.2) dMM_init_74 (fun a9 H ha9 hg hS => ?_)
  have n_a1_a9 : a1 ≠ a9 := h_nn f16_0 ha9
  have n_a2_a9 : a2 ≠ a9 := h_nn f16_1 ha9
  have n_a3_a9 : a3 ≠ a9 := h_nn f16_2 ha9
  have n_a4_a9 : a4 ≠ a9 := h_nn f16_3 ha9
  have n_a5_a9 : a5 ≠ a9 := h_nn f16_4 ha9
  have n_a6_a9 : a6 ≠ a9 := h_nn f16_5 ha9
  have n_a7_a9 : a7 ≠ a9 := h_nn f16_6 ha9
  have n_a8_a9 : a8 ≠ a9 := h_nn f16_7 ha9
  have n_mm_a9 : mm ≠ a9 := h_nn f16_8 ha9
  have z_a9 : g a9 = none := fr.nn ha9 (h_nm (Ne.symm n_mm_a9) h_n0)
  obtain ⟨g_17, eg_17⟩ : ∃ z, z = hs g_16 a9 (.inl (cI, 250, .inl (fun _ => 0))) := ⟨_, rfl⟩
  have hg : hw D hC AX g_17 H := by rw [eg_17]; exact hg
  have f17_0 : g_17 a1 = some (.inl (cI, 6, .inl (fun _ => 0))) := by rw [eg_17, hs_n _ _ n_a1_a9]; exact f16_0
  have f17_1 : g_17 a2 = some (.inl (cI, 360, .inl (fun _ => 0))) := by rw [eg_17, hs_n _ _ n_a2_a9]; exact f16_1
  have f17_2 : g_17 a3 = some (.inl (cI, 60, .inl (fun _ => 0))) := by rw [eg_17, hs_n _ _ n_a3_a9]; exact f16_2
  have f17_3 : g_17 a4 = some (.inl (cI, 60, .inl (fun _ => 0))) := by rw [eg_17, hs_n _ _ n_a4_a9]; exact f16_3
  have f17_4 : g_17 a5 = some (.inl (cI, 3721, .inl (fun _ => 0))) := by rw [eg_17, hs_n _ _ n_a5_a9]; exact f16_4
  have f17_5 : g_17 a6 = some (.inl (cI, 60, .inl (fun _ => 0))) := by rw [eg_17, hs_n _ _ n_a6_a9]; exact f16_5
  have f17_6 : g_17 a7 = some (.inl (cI, 60, .inl (fun _ => 0))) := by rw [eg_17, hs_n _ _ n_a7_a9]; exact f16_6
  have f17_7 : g_17 a8 = some (.inl (cI, 60, .inl (fun _ => 0))) := by rw [eg_17, hs_n _ _ n_a8_a9]; exact f16_7
  have f17_8 : g_17 mm = some (.inr (8, [.int (nI 0), .ref a1, .ref a2, .int (nI 0), .int (nI 0), .ref a3, .ref a4, .ref a5, .ref a6, .int (nI 0), .ref a7, .ref a8, .int (nI 0), .null, .int (nI 0), .null, .int (nI 0), .int (nI 0), .null, .null, .null, .int (nI 0), .null, .int (nI 0), .null, .int (nI 0), .null, .null, .null])) := by rw [eg_17, hs_n _ _ n_mm_a9]; exact f16_8
  have f17_9 : g_17 a9 = some (.inl (cI, 250, .inl (fun _ => 0))) := by rw [eg_17]; exact hs_s _ _ _
  have fr := fr.putN eg_17 z_a9
  refine hw_putF S0 hK hg hS f17_8 rfl inMM tyMM tokMM nmMM 13 (by decide) lf_MM_34 rfl rfl hnm rfl rfl rfl (Nat.le_of_ble_eq_true rfl) dMM_init_76 (fun H locs hg hS => ?_)
  obtain ⟨g_18, eg_18⟩ : ∃ z, z = hs g_17 mm (.inr (8, [.int (nI 0), .ref a1, .ref a2, .int (nI 0), .int (nI 0), .ref a3, .ref a4, .ref a5, .ref a6, .int (nI 0), .ref a7, .ref a8, .int (nI 0), .ref a9, .int (nI 0), .null, .int (nI 0), .int (nI 0), .null, .null, .null, .int (nI 0), .null, .int (nI 0), .null, .int (nI 0), .null, .null, .null])) := ⟨_, rfl⟩
  have hg : hw D hC AX g_18 H := by rw [eg_18]; exact hg
  have f18_0 : g_18 a1 = some (.inl (cI, 6, .inl (fun _ => 0))) := by rw [eg_18, hs_n _ _ (Ne.symm n_mm_a1)]; exact f17_0
  have f18_1 : g_18 a2 = some (.inl (cI, 360, .inl (fun _ => 0))) := by rw [eg_18, hs_n _ _ (Ne.symm n_mm_a2)]; exact f17_1
  have f18_2 : g_18 a3 = some (.inl (cI, 60, .inl (fun _ => 0))) := by rw [eg_18, hs_n _ _ (Ne.symm n_mm_a3)]; exact f17_2
  have f18_3 : g_18 a4 = some (.inl (cI, 60, .inl (fun _ => 0))) := by rw [eg_18, hs_n _ _ (Ne.symm n_mm_a4)]; exact f17_3
  have f18_4 : g_18 a5 = some (.inl (cI, 3721, .inl (fun _ => 0))) := by rw [eg_18, hs_n _ _ (Ne.symm n_mm_a5)]; exact f17_4
  have f18_5 : g_18 a6 = some (.inl (cI, 60, .inl (fun _ => 0))) := by rw [eg_18, hs_n _ _ (Ne.symm n_mm_a6)]; exact f17_5
  have f18_6 : g_18 a7 = some (.inl (cI, 60, .inl (fun _ => 0))) := by rw [eg_18, hs_n _ _ (Ne.symm n_mm_a7)]; exact f17_6
  have f18_7 : g_18 a8 = some (.inl (cI, 60, .inl (fun _ => 0))) := by rw [eg_18, hs_n _ _ (Ne.symm n_mm_a8)]; exact f17_7
  have f18_8 : g_18 a9 = some (.inl (cI, 250, .inl (fun _ => 0))) := by rw [eg_18, hs_n _ _ (Ne.symm n_mm_a9)]; exact f17_9
  have f18_9 : g_18 mm = some (.inr (8, [.int (nI 0), .ref a1, .ref a2, .int (nI 0), .int (nI 0), .ref a3, .ref a4, .ref a5, .ref a6, .int (nI 0), .ref a7, .ref a8, .int (nI 0), .ref a9, .int (nI 0), .null, .int (nI 0), .int (nI 0), .null, .null, .null, .int (nI 0), .null, .int (nI 0), .null, .int (nI 0), .null, .null, .null])) := by rw [eg_18]; exact hs_s _ _ _
  have fr := fr.put eg_18 (by simp)
  refine lv_aload_n S0.1 S0.2.1 dMM_init_79 rfl (lv_at hl 0 rfl) ?_
  refine lv_sipush (v := nI 250) S0.1 S0.2.1 dMM_init_80 (by decide) ?_
  refine hw_newa (ty := .int) (a0 := (250, .inl (fun _ => 0))) S0 hK hg hS hA0 rfl wI_arr 0 rfl (fun C h => by cases h) (fun _ => rfl) (by omega) (by show 250 * 4 ≤ 536870912; omega) (Nat.le_trans (Nat.le_of_ble_eq_true rfl) hR.2.2.1) (Nat.le_trans (Nat.le_of_ble_eq_true rfl) hR.2.2.2) dMM_init_83 (fun a10 H ha10 hg hS => ?_)
  have n_a1_a10 : a1 ≠ a10 := h_nn f18_0 ha10
  have n_a2_a10 : a2 ≠ a10 := h_nn f18_1 ha10
  have n_a3_a10 : a3 ≠ a10 := h_nn f18_2 ha10
  have n_a4_a10 : a4 ≠ a10 := h_nn f18_3 ha10
  have n_a5_a10 : a5 ≠ a10 := h_nn f18_4 ha10
  have n_a6_a10 : a6 ≠ a10 := h_nn f18_5 ha10
  have n_a7_a10 : a7 ≠ a10 := h_nn f18_6 ha10
  have n_a8_a10 : a8 ≠ a10 := h_nn f18_7 ha10
  have n_a9_a10 : a9 ≠ a10 := h_nn f18_8 ha10
  have n_mm_a10 : mm ≠ a10 := h_nn f18_9 ha10
  have z_a10 : g a10 = none := fr.nn ha10 (h_nm (Ne.symm n_mm_a10) h_n0)
  obtain ⟨g_19, eg_19⟩ : ∃ z, z = hs g_18 a10 (.inl (cI, 250, .inl (fun _ => 0))) := ⟨_, rfl⟩
  have hg : hw D hC AX g_19 H := by rw [eg_19]; exact hg
  have f19_0 : g_19 a1 = some (.inl (cI, 6, .inl (fun _ => 0))) := by rw [eg_19, hs_n _ _ n_a1_a10]; exact f18_0
  have f19_1 : g_19 a2 = some (.inl (cI, 360, .inl (fun _ => 0))) := by rw [eg_19, hs_n _ _ n_a2_a10]; exact f18_1
  have f19_2 : g_19 a3 = some (.inl (cI, 60, .inl (fun _ => 0))) := by rw [eg_19, hs_n _ _ n_a3_a10]; exact f18_2
  have f19_3 : g_19 a4 = some (.inl (cI, 60, .inl (fun _ => 0))) := by rw [eg_19, hs_n _ _ n_a4_a10]; exact f18_3
  have f19_4 : g_19 a5 = some (.inl (cI, 3721, .inl (fun _ => 0))) := by rw [eg_19, hs_n _ _ n_a5_a10]; exact f18_4
  have f19_5 : g_19 a6 = some (.inl (cI, 60, .inl (fun _ => 0))) := by rw [eg_19, hs_n _ _ n_a6_a10]; exact f18_5
  have f19_6 : g_19 a7 = some (.inl (cI, 60, .inl (fun _ => 0))) := by rw [eg_19, hs_n _ _ n_a7_a10]; exact f18_6
  have f19_7 : g_19 a8 = some (.inl (cI, 60, .inl (fun _ => 0))) := by rw [eg_19, hs_n _ _ n_a8_a10]; exact f18_7
  have f19_8 : g_19 a9 = some (.inl (cI, 250, .inl (fun _ => 0))) := by rw [eg_19, hs_n _ _ n_a9_a10]; exact f18_8
  have f19_9 : g_19 mm = some (.inr (8, [.int (nI 0), .ref a1, .ref a2, .int (nI 0), .int (nI 0), .ref a3, .ref a4, .ref a5, .ref a6, .int (nI 0), .ref a7, .ref a8, .int (nI 0), .ref a9, .int (nI 0), .null, .int (nI 0), .int (nI 0), .null, .null, .null, .int (nI 0), .null, .int (nI 0), .null, .int (nI 0), .null, .null, .null])) := by rw [eg_19, hs_n _ _ n_mm_a10]; exact f18_9
  have f19_10 : g_19 a10 = some (.inl (cI, 250, .inl (fun _ => 0))) := by rw [eg_19]; exact hs_s _ _ _
  have fr := fr.putN eg_19 z_a10
  refine hw_putF S0 hK hg hS f19_9 rfl inMM tyMM tokMM nmMM 15 (by decide) lf_MM_37 rfl rfl hnm rfl rfl rfl (Nat.le_of_ble_eq_true rfl) dMM_init_85 (fun H locs hg hS => ?_)
  obtain ⟨g_20, eg_20⟩ : ∃ z, z = hs g_19 mm (.inr (8, [.int (nI 0), .ref a1, .ref a2, .int (nI 0), .int (nI 0), .ref a3, .ref a4, .ref a5, .ref a6, .int (nI 0), .ref a7, .ref a8, .int (nI 0), .ref a9, .int (nI 0), .ref a10, .int (nI 0), .int (nI 0), .null, .null, .null, .int (nI 0), .null, .int (nI 0), .null, .int (nI 0), .null, .null, .null])) := ⟨_, rfl⟩
  have hg : hw D hC AX g_20 H := by rw [eg_20]; exact hg
  have f20_0 : g_20 a1 = some (.inl (cI, 6, .inl (fun _ => 0))) := by rw [eg_20, hs_n _ _ (Ne.symm n_mm_a1)]; exact f19_0
  have f20_1 : g_20 a2 = some (.inl (cI, 360, .inl (fun _ => 0))) := by rw [eg_20, hs_n _ _ (Ne.symm n_mm_a2)]; exact f19_1
  have f20_2 : g_20 a3 = some (.inl (cI, 60, .inl (fun _ => 0))) := by rw [eg_20, hs_n _ _ (Ne.symm n_mm_a3)]; exact f19_2
  have f20_3 : g_20 a4 = some (.inl (cI, 60, .inl (fun _ => 0))) := by rw [eg_20, hs_n _ _ (Ne.symm n_mm_a4)]; exact f19_3
  have f20_4 : g_20 a5 = some (.inl (cI, 3721, .inl (fun _ => 0))) := by rw [eg_20, hs_n _ _ (Ne.symm n_mm_a5)]; exact f19_4
  have f20_5 : g_20 a6 = some (.inl (cI, 60, .inl (fun _ => 0))) := by rw [eg_20, hs_n _ _ (Ne.symm n_mm_a6)]; exact f19_5
  have f20_6 : g_20 a7 = some (.inl (cI, 60, .inl (fun _ => 0))) := by rw [eg_20, hs_n _ _ (Ne.symm n_mm_a7)]; exact f19_6
  have f20_7 : g_20 a8 = some (.inl (cI, 60, .inl (fun _ => 0))) := by rw [eg_20, hs_n _ _ (Ne.symm n_mm_a8)]; exact f19_7
  have f20_8 : g_20 a9 = some (.inl (cI, 250, .inl (fun _ => 0))) := by rw [eg_20, hs_n _ _ (Ne.symm n_mm_a9)]; exact f19_8
  have f20_9 : g_20 a10 = some (.inl (cI, 250, .inl (fun _ => 0))) := by rw [eg_20, hs_n _ _ (Ne.symm n_mm_a10)]; exact f19_10
  have f20_10 : g_20 mm = some (.inr (8, [.int (nI 0), .ref a1, .ref a2, .int (nI 0), .int (nI 0), .ref a3, .ref a4, .ref a5, .ref a6, .int (nI 0), .ref a7, .ref a8, .int (nI 0), .ref a9, .int (nI 0), .ref a10, .int (nI 0), .int (nI 0), .null, .null, .null, .int (nI 0), .null, .int (nI 0), .null, .int (nI 0), .null, .null, .null])) := by rw [eg_20]; exact hs_s _ _ _
  have fr := fr.put eg_20 (by simp)
  refine lv_aload_n S0.1 S0.2.1 dMM_init_88 rfl (lv_at hl 0 rfl) ?_
  refine lv_bipush (v := nI 60) S0.1 S0.2.1 dMM_init_89 (by decide) ?_
  refine hw_newa (ty := .int) (a0 := (60, .inl (fun _ => 0))) S0 hK hg hS hA0 rfl wI_arr 0 rfl (fun C h => by cases h) (fun _ => rfl) (by omega) (by show 60 * 4 ≤ 536870912; omega) (Nat.le_trans (Nat.le_of_ble_eq_true rfl) hR.2.2.1) (Nat.le_trans (Nat.le_of_ble_eq_true rfl) hR.2.2.2) dMM_init_91 (fun a11 H ha11 hg hS => ?_)
  have n_a1_a11 : a1 ≠ a11 := h_nn f20_0 ha11
  have n_a2_a11 : a2 ≠ a11 := h_nn f20_1 ha11
  have n_a3_a11 : a3 ≠ a11 := h_nn f20_2 ha11
  have n_a4_a11 : a4 ≠ a11 := h_nn f20_3 ha11
  have n_a5_a11 : a5 ≠ a11 := h_nn f20_4 ha11
  have n_a6_a11 : a6 ≠ a11 := h_nn f20_5 ha11
  have n_a7_a11 : a7 ≠ a11 := h_nn f20_6 ha11
  have n_a8_a11 : a8 ≠ a11 := h_nn f20_7 ha11
  have n_a9_a11 : a9 ≠ a11 := h_nn f20_8 ha11
  have n_a10_a11 : a10 ≠ a11 := h_nn f20_9 ha11
  have n_mm_a11 : mm ≠ a11 := h_nn f20_10 ha11
  have z_a11 : g a11 = none := fr.nn ha11 (h_nm (Ne.symm n_mm_a11) h_n0)
  obtain ⟨g_21, eg_21⟩ : ∃ z, z = hs g_20 a11 (.inl (cI, 60, .inl (fun _ => 0))) := ⟨_, rfl⟩
  have hg : hw D hC AX g_21 H := by rw [eg_21]; exact hg
  have f21_0 : g_21 a1 = some (.inl (cI, 6, .inl (fun _ => 0))) := by rw [eg_21, hs_n _ _ n_a1_a11]; exact f20_0
  have f21_1 : g_21 a2 = some (.inl (cI, 360, .inl (fun _ => 0))) := by rw [eg_21, hs_n _ _ n_a2_a11]; exact f20_1
  have f21_2 : g_21 a3 = some (.inl (cI, 60, .inl (fun _ => 0))) := by rw [eg_21, hs_n _ _ n_a3_a11]; exact f20_2
  have f21_3 : g_21 a4 = some (.inl (cI, 60, .inl (fun _ => 0))) := by rw [eg_21, hs_n _ _ n_a4_a11]; exact f20_3
  have f21_4 : g_21 a5 = some (.inl (cI, 3721, .inl (fun _ => 0))) := by rw [eg_21, hs_n _ _ n_a5_a11]; exact f20_4
  have f21_5 : g_21 a6 = some (.inl (cI, 60, .inl (fun _ => 0))) := by rw [eg_21, hs_n _ _ n_a6_a11]; exact f20_5
  have f21_6 : g_21 a7 = some (.inl (cI, 60, .inl (fun _ => 0))) := by rw [eg_21, hs_n _ _ n_a7_a11]; exact f20_6
  have f21_7 : g_21 a8 = some (.inl (cI, 60, .inl (fun _ => 0))) := by rw [eg_21, hs_n _ _ n_a8_a11]; exact f20_7
  have f21_8 : g_21 a9 = some (.inl (cI, 250, .inl (fun _ => 0))) := by rw [eg_21, hs_n _ _ n_a9_a11]; exact f20_8
  have f21_9 : g_21 a10 = some (.inl (cI, 250, .inl (fun _ => 0))) := by rw [eg_21, hs_n _ _ n_a10_a11]; exact f20_9
  have f21_10 : g_21 mm = some (.inr (8, [.int (nI 0), .ref a1, .ref a2, .int (nI 0), .int (nI 0), .ref a3, .ref a4, .ref a5, .ref a6, .int (nI 0), .ref a7, .ref a8, .int (nI 0), .ref a9, .int (nI 0), .ref a10, .int (nI 0), .int (nI 0), .null, .null, .null, .int (nI 0), .null, .int (nI 0), .null, .int (nI 0), .null, .null, .null])) := by rw [eg_21, hs_n _ _ n_mm_a11]; exact f20_10
  have f21_11 : g_21 a11 = some (.inl (cI, 60, .inl (fun _ => 0))) := by rw [eg_21]; exact hs_s _ _ _
  have fr := fr.putN eg_21 z_a11
  refine hw_putF S0 hK hg hS f21_10 rfl inMM tyMM tokMM nmMM 18 (by decide) lf_MM_40 rfl rfl hnm rfl rfl rfl (Nat.le_of_ble_eq_true rfl) dMM_init_93 (fun H locs hg hS => ?_)
  obtain ⟨g_22, eg_22⟩ : ∃ z, z = hs g_21 mm (.inr (8, [.int (nI 0), .ref a1, .ref a2, .int (nI 0), .int (nI 0), .ref a3, .ref a4, .ref a5, .ref a6, .int (nI 0), .ref a7, .ref a8, .int (nI 0), .ref a9, .int (nI 0), .ref a10, .int (nI 0), .int (nI 0), .ref a11, .null, .null, .int (nI 0), .null, .int (nI 0), .null, .int (nI 0), .null, .null, .null])) := ⟨_, rfl⟩
  have hg : hw D hC AX g_22 H := by rw [eg_22]; exact hg
  have f22_0 : g_22 a1 = some (.inl (cI, 6, .inl (fun _ => 0))) := by rw [eg_22, hs_n _ _ (Ne.symm n_mm_a1)]; exact f21_0
  have f22_1 : g_22 a2 = some (.inl (cI, 360, .inl (fun _ => 0))) := by rw [eg_22, hs_n _ _ (Ne.symm n_mm_a2)]; exact f21_1
  have f22_2 : g_22 a3 = some (.inl (cI, 60, .inl (fun _ => 0))) := by rw [eg_22, hs_n _ _ (Ne.symm n_mm_a3)]; exact f21_2
  have f22_3 : g_22 a4 = some (.inl (cI, 60, .inl (fun _ => 0))) := by rw [eg_22, hs_n _ _ (Ne.symm n_mm_a4)]; exact f21_3
  have f22_4 : g_22 a5 = some (.inl (cI, 3721, .inl (fun _ => 0))) := by rw [eg_22, hs_n _ _ (Ne.symm n_mm_a5)]; exact f21_4
  have f22_5 : g_22 a6 = some (.inl (cI, 60, .inl (fun _ => 0))) := by rw [eg_22, hs_n _ _ (Ne.symm n_mm_a6)]; exact f21_5
  have f22_6 : g_22 a7 = some (.inl (cI, 60, .inl (fun _ => 0))) := by rw [eg_22, hs_n _ _ (Ne.symm n_mm_a7)]; exact f21_6
  have f22_7 : g_22 a8 = some (.inl (cI, 60, .inl (fun _ => 0))) := by rw [eg_22, hs_n _ _ (Ne.symm n_mm_a8)]; exact f21_7
  have f22_8 : g_22 a9 = some (.inl (cI, 250, .inl (fun _ => 0))) := by rw [eg_22, hs_n _ _ (Ne.symm n_mm_a9)]; exact f21_8
  have f22_9 : g_22 a10 = some (.inl (cI, 250, .inl (fun _ => 0))) := by rw [eg_22, hs_n _ _ (Ne.symm n_mm_a10)]; exact f21_9
  have f22_10 : g_22 a11 = some (.inl (cI, 60, .inl (fun _ => 0))) := by rw [eg_22, hs_n _ _ (Ne.symm n_mm_a11)]; exact f21_11
  have f22_11 : g_22 mm = some (.inr (8, [.int (nI 0), .ref a1, .ref a2, .int (nI 0), .int (nI 0), .ref a3, .ref a4, .ref a5, .ref a6, .int (nI 0), .ref a7, .ref a8, .int (nI 0), .ref a9, .int (nI 0), .ref a10, .int (nI 0), .int (nI 0), .ref a11, .null, .null, .int (nI 0), .null, .int (nI 0), .null, .int (nI 0), .null, .null, .null])) := by rw [eg_22]; exact hs_s _ _ _
  have fr := fr.put eg_22 (by simp)
  refine lv_aload_n S0.1 S0.2.1 dMM_init_96 rfl (lv_at hl 0 rfl) ?_
  refine lv_bipush (v := nI 60) S0.1 S0.2.1 dMM_init_97 (by decide) ?_
  refine hw_newa (ty := .int) (a0 := (60, .inl (fun _ => 0))) S0 hK hg hS hA0 rfl wI_arr 0 rfl (fun C h => by cases h) (fun _ => rfl) (by omega) (by show 60 * 4 ≤ 536870912; omega) (Nat.le_trans (Nat.le_of_ble_eq_true rfl) hR.2.2.1) (Nat.le_trans (Nat.le_of_ble_eq_true rfl) hR.2.2.2) dMM_init_99 (fun a12 H ha12 hg hS => ?_)
  have n_a1_a12 : a1 ≠ a12 := h_nn f22_0 ha12
  have n_a2_a12 : a2 ≠ a12 := h_nn f22_1 ha12
  have n_a3_a12 : a3 ≠ a12 := h_nn f22_2 ha12
  have n_a4_a12 : a4 ≠ a12 := h_nn f22_3 ha12
  have n_a5_a12 : a5 ≠ a12 := h_nn f22_4 ha12
  have n_a6_a12 : a6 ≠ a12 := h_nn f22_5 ha12
  have n_a7_a12 : a7 ≠ a12 := h_nn f22_6 ha12
  have n_a8_a12 : a8 ≠ a12 := h_nn f22_7 ha12
  have n_a9_a12 : a9 ≠ a12 := h_nn f22_8 ha12
  have n_a10_a12 : a10 ≠ a12 := h_nn f22_9 ha12
  have n_a11_a12 : a11 ≠ a12 := h_nn f22_10 ha12
  have n_mm_a12 : mm ≠ a12 := h_nn f22_11 ha12
  have z_a12 : g a12 = none := fr.nn ha12 (h_nm (Ne.symm n_mm_a12) h_n0)
  obtain ⟨g_23, eg_23⟩ : ∃ z, z = hs g_22 a12 (.inl (cI, 60, .inl (fun _ => 0))) := ⟨_, rfl⟩
  have hg : hw D hC AX g_23 H := by rw [eg_23]; exact hg
  have f23_0 : g_23 a1 = some (.inl (cI, 6, .inl (fun _ => 0))) := by rw [eg_23, hs_n _ _ n_a1_a12]; exact f22_0
  have f23_1 : g_23 a2 = some (.inl (cI, 360, .inl (fun _ => 0))) := by rw [eg_23, hs_n _ _ n_a2_a12]; exact f22_1
  have f23_2 : g_23 a3 = some (.inl (cI, 60, .inl (fun _ => 0))) := by rw [eg_23, hs_n _ _ n_a3_a12]; exact f22_2
  have f23_3 : g_23 a4 = some (.inl (cI, 60, .inl (fun _ => 0))) := by rw [eg_23, hs_n _ _ n_a4_a12]; exact f22_3
  have f23_4 : g_23 a5 = some (.inl (cI, 3721, .inl (fun _ => 0))) := by rw [eg_23, hs_n _ _ n_a5_a12]; exact f22_4
  have f23_5 : g_23 a6 = some (.inl (cI, 60, .inl (fun _ => 0))) := by rw [eg_23, hs_n _ _ n_a6_a12]; exact f22_5
  have f23_6 : g_23 a7 = some (.inl (cI, 60, .inl (fun _ => 0))) := by rw [eg_23, hs_n _ _ n_a7_a12]; exact f22_6
  have f23_7 : g_23 a8 = some (.inl (cI, 60, .inl (fun _ => 0))) := by rw [eg_23, hs_n _ _ n_a8_a12]; exact f22_7
  have f23_8 : g_23 a9 = some (.inl (cI, 250, .inl (fun _ => 0))) := by rw [eg_23, hs_n _ _ n_a9_a12]; exact f22_8
  have f23_9 : g_23 a10 = some (.inl (cI, 250, .inl (fun _ => 0))) := by rw [eg_23, hs_n _ _ n_a10_a12]; exact f22_9
  have f23_10 : g_23 a11 = some (.inl (cI, 60, .inl (fun _ => 0))) := by rw [eg_23, hs_n _ _ n_a11_a12]; exact f22_10
  have f23_11 : g_23 mm = some (.inr (8, [.int (nI 0), .ref a1, .ref a2, .int (nI 0), .int (nI 0), .ref a3, .ref a4, .ref a5, .ref a6, .int (nI 0), .ref a7, .ref a8, .int (nI 0), .ref a9, .int (nI 0), .ref a10, .int (nI 0), .int (nI 0), .ref a11, .null, .null, .int (nI 0), .null, .int (nI 0), .null, .int (nI 0), .null, .null, .null])) := by rw [eg_23, hs_n _ _ n_mm_a12]; exact f22_11
  have f23_12 : g_23 a12 = some (.inl (cI, 60, .inl (fun _ => 0))) := by rw [eg_23]; exact hs_s _ _ _
  have fr := fr.putN eg_23 z_a12
  refine hw_putF S0 hK hg hS f23_11 rfl inMM tyMM tokMM nmMM 19 (by decide) lf_MM_43 rfl rfl hnm rfl rfl rfl (Nat.le_of_ble_eq_true rfl) dMM_init_101 (fun H locs hg hS => ?_)
  obtain ⟨g_24, eg_24⟩ : ∃ z, z = hs g_23 mm (.inr (8, [.int (nI 0), .ref a1, .ref a2, .int (nI 0), .int (nI 0), .ref a3, .ref a4, .ref a5, .ref a6, .int (nI 0), .ref a7, .ref a8, .int (nI 0), .ref a9, .int (nI 0), .ref a10, .int (nI 0), .int (nI 0), .ref a11, .ref a12, .null, .int (nI 0), .null, .int (nI 0), .null, .int (nI 0), .null, .null, .null])) := ⟨_, rfl⟩
  have hg : hw D hC AX g_24 H := by rw [eg_24]; exact hg
  have f24_0 : g_24 a1 = some (.inl (cI, 6, .inl (fun _ => 0))) := by rw [eg_24, hs_n _ _ (Ne.symm n_mm_a1)]; exact f23_0
  have f24_1 : g_24 a2 = some (.inl (cI, 360, .inl (fun _ => 0))) := by rw [eg_24, hs_n _ _ (Ne.symm n_mm_a2)]; exact f23_1
  have f24_2 : g_24 a3 = some (.inl (cI, 60, .inl (fun _ => 0))) := by rw [eg_24, hs_n _ _ (Ne.symm n_mm_a3)]; exact f23_2
  have f24_3 : g_24 a4 = some (.inl (cI, 60, .inl (fun _ => 0))) := by rw [eg_24, hs_n _ _ (Ne.symm n_mm_a4)]; exact f23_3
  have f24_4 : g_24 a5 = some (.inl (cI, 3721, .inl (fun _ => 0))) := by rw [eg_24, hs_n _ _ (Ne.symm n_mm_a5)]; exact f23_4
  have f24_5 : g_24 a6 = some (.inl (cI, 60, .inl (fun _ => 0))) := by rw [eg_24, hs_n _ _ (Ne.symm n_mm_a6)]; exact f23_5
  have f24_6 : g_24 a7 = some (.inl (cI, 60, .inl (fun _ => 0))) := by rw [eg_24, hs_n _ _ (Ne.symm n_mm_a7)]; exact f23_6
  have f24_7 : g_24 a8 = some (.inl (cI, 60, .inl (fun _ => 0))) := by rw [eg_24, hs_n _ _ (Ne.symm n_mm_a8)]; exact f23_7
  have f24_8 : g_24 a9 = some (.inl (cI, 250, .inl (fun _ => 0))) := by rw [eg_24, hs_n _ _ (Ne.symm n_mm_a9)]; exact f23_8
  have f24_9 : g_24 a10 = some (.inl (cI, 250, .inl (fun _ => 0))) := by rw [eg_24, hs_n _ _ (Ne.symm n_mm_a10)]; exact f23_9
  have f24_10 : g_24 a11 = some (.inl (cI, 60, .inl (fun _ => 0))) := by rw [eg_24, hs_n _ _ (Ne.symm n_mm_a11)]; exact f23_10
  have f24_11 : g_24 a12 = some (.inl (cI, 60, .inl (fun _ => 0))) := by rw [eg_24, hs_n _ _ (Ne.symm n_mm_a12)]; exact f23_12
  have f24_12 : g_24 mm = some (.inr (8, [.int (nI 0), .ref a1, .ref a2, .int (nI 0), .int (nI 0), .ref a3, .ref a4, .ref a5, .ref a6, .int (nI 0), .ref a7, .ref a8, .int (nI 0), .ref a9, .int (nI 0), .ref a10, .int (nI 0), .int (nI 0), .ref a11, .ref a12, .null, .int (nI 0), .null, .int (nI 0), .null, .int (nI 0), .null, .null, .null])) := by rw [eg_24]; exact hs_s _ _ _
  have fr := fr.put eg_24 (by simp)
  refine lv_aload_n S0.1 S0.2.1 dMM_init_104 rfl (lv_at hl 0 rfl) ?_
  refine lv_bipush (v := nI 60) S0.1 S0.2.1 dMM_init_105 (by decide) ?_
  refine hw_newa (ty := .int) (a0 := (60, .inl (fun _ => 0))) S0 hK hg hS hA0 rfl wI_arr 0 rfl (fun C h => by cases h) (fun _ => rfl) (by omega) (by show 60 * 4 ≤ 536870912; omega) (Nat.le_trans (Nat.le_of_ble_eq_true rfl) hR.2.2.1) (Nat.le_trans (Nat.le_of_ble_eq_true rfl) hR.2.2.2) dMM_init_107 (fun a13 H ha13 hg hS => ?_)
  have n_a1_a13 : a1 ≠ a13 := h_nn f24_0 ha13
  have n_a2_a13 : a2 ≠ a13 := h_nn f24_1 ha13
  have n_a3_a13 : a3 ≠ a13 := h_nn f24_2 ha13
  have n_a4_a13 : a4 ≠ a13 := h_nn f24_3 ha13
  have n_a5_a13 : a5 ≠ a13 := h_nn f24_4 ha13
  have n_a6_a13 : a6 ≠ a13 := h_nn f24_5 ha13
  have n_a7_a13 : a7 ≠ a13 := h_nn f24_6 ha13
  have n_a8_a13 : a8 ≠ a13 := h_nn f24_7 ha13
  have n_a9_a13 : a9 ≠ a13 := h_nn f24_8 ha13
  have n_a10_a13 : a10 ≠ a13 := h_nn f24_9 ha13
  have n_a11_a13 : a11 ≠ a13 := h_nn f24_10 ha13
  have n_a12_a13 : a12 ≠ a13 := h_nn f24_11 ha13
  have n_mm_a13 : mm ≠ a13 := h_nn f24_12 ha13
  have z_a13 : g a13 = none := fr.nn ha13 (h_nm (Ne.symm n_mm_a13) h_n0)
  obtain ⟨g_25, eg_25⟩ : ∃ z, z = hs g_24 a13 (.inl (cI, 60, .inl (fun _ => 0))) := ⟨_, rfl⟩
  have hg : hw D hC AX g_25 H := by rw [eg_25]; exact hg
  have f25_0 : g_25 a1 = some (.inl (cI, 6, .inl (fun _ => 0))) := by rw [eg_25, hs_n _ _ n_a1_a13]; exact f24_0
  have f25_1 : g_25 a2 = some (.inl (cI, 360, .inl (fun _ => 0))) := by rw [eg_25, hs_n _ _ n_a2_a13]; exact f24_1
  have f25_2 : g_25 a3 = some (.inl (cI, 60, .inl (fun _ => 0))) := by rw [eg_25, hs_n _ _ n_a3_a13]; exact f24_2
  have f25_3 : g_25 a4 = some (.inl (cI, 60, .inl (fun _ => 0))) := by rw [eg_25, hs_n _ _ n_a4_a13]; exact f24_3
  have f25_4 : g_25 a5 = some (.inl (cI, 3721, .inl (fun _ => 0))) := by rw [eg_25, hs_n _ _ n_a5_a13]; exact f24_4
  have f25_5 : g_25 a6 = some (.inl (cI, 60, .inl (fun _ => 0))) := by rw [eg_25, hs_n _ _ n_a6_a13]; exact f24_5
  have f25_6 : g_25 a7 = some (.inl (cI, 60, .inl (fun _ => 0))) := by rw [eg_25, hs_n _ _ n_a7_a13]; exact f24_6
  have f25_7 : g_25 a8 = some (.inl (cI, 60, .inl (fun _ => 0))) := by rw [eg_25, hs_n _ _ n_a8_a13]; exact f24_7
  have f25_8 : g_25 a9 = some (.inl (cI, 250, .inl (fun _ => 0))) := by rw [eg_25, hs_n _ _ n_a9_a13]; exact f24_8
  have f25_9 : g_25 a10 = some (.inl (cI, 250, .inl (fun _ => 0))) := by rw [eg_25, hs_n _ _ n_a10_a13]; exact f24_9
  have f25_10 : g_25 a11 = some (.inl (cI, 60, .inl (fun _ => 0))) := by rw [eg_25, hs_n _ _ n_a11_a13]; exact f24_10
  have f25_11 : g_25 a12 = some (.inl (cI, 60, .inl (fun _ => 0))) := by rw [eg_25, hs_n _ _ n_a12_a13]; exact f24_11
  have f25_12 : g_25 mm = some (.inr (8, [.int (nI 0), .ref a1, .ref a2, .int (nI 0), .int (nI 0), .ref a3, .ref a4, .ref a5, .ref a6, .int (nI 0), .ref a7, .ref a8, .int (nI 0), .ref a9, .int (nI 0), .ref a10, .int (nI 0), .int (nI 0), .ref a11, .ref a12, .null, .int (nI 0), .null, .int (nI 0), .null, .int (nI 0), .null, .null, .null])) := by rw [eg_25, hs_n _ _ n_mm_a13]; exact f24_12
  have f25_13 : g_25 a13 = some (.inl (cI, 60, .inl (fun _ => 0))) := by rw [eg_25]; exact hs_s _ _ _
  have fr := fr.putN eg_25 z_a13
  refine hw_putF S0 hK hg hS f25_12 rfl inMM tyMM tokMM nmMM 20 (by decide) lf_MM_46 rfl rfl hnm rfl rfl rfl (Nat.le_of_ble_eq_true rfl) dMM_init_109 (fun H locs hg hS => ?_)
  obtain ⟨g_26, eg_26⟩ : ∃ z, z = hs g_25 mm (.inr (8, [.int (nI 0), .ref a1, .ref a2, .int (nI 0), .int (nI 0), .ref a3, .ref a4, .ref a5, .ref a6, .int (nI 0), .ref a7, .ref a8, .int (nI 0), .ref a9, .int (nI 0), .ref a10, .int (nI 0), .int (nI 0), .ref a11, .ref a12, .ref a13, .int (nI 0), .null, .int (nI 0), .null, .int (nI 0), .null, .null, .null])) := ⟨_, rfl⟩
  have hg : hw D hC AX g_26 H := by rw [eg_26]; exact hg
  have f26_0 : g_26 a1 = some (.inl (cI, 6, .inl (fun _ => 0))) := by rw [eg_26, hs_n _ _ (Ne.symm n_mm_a1)]; exact f25_0
  have f26_1 : g_26 a2 = some (.inl (cI, 360, .inl (fun _ => 0))) := by rw [eg_26, hs_n _ _ (Ne.symm n_mm_a2)]; exact f25_1
  have f26_2 : g_26 a3 = some (.inl (cI, 60, .inl (fun _ => 0))) := by rw [eg_26, hs_n _ _ (Ne.symm n_mm_a3)]; exact f25_2
  have f26_3 : g_26 a4 = some (.inl (cI, 60, .inl (fun _ => 0))) := by rw [eg_26, hs_n _ _ (Ne.symm n_mm_a4)]; exact f25_3
  have f26_4 : g_26 a5 = some (.inl (cI, 3721, .inl (fun _ => 0))) := by rw [eg_26, hs_n _ _ (Ne.symm n_mm_a5)]; exact f25_4
  have f26_5 : g_26 a6 = some (.inl (cI, 60, .inl (fun _ => 0))) := by rw [eg_26, hs_n _ _ (Ne.symm n_mm_a6)]; exact f25_5
  have f26_6 : g_26 a7 = some (.inl (cI, 60, .inl (fun _ => 0))) := by rw [eg_26, hs_n _ _ (Ne.symm n_mm_a7)]; exact f25_6
  have f26_7 : g_26 a8 = some (.inl (cI, 60, .inl (fun _ => 0))) := by rw [eg_26, hs_n _ _ (Ne.symm n_mm_a8)]; exact f25_7
  have f26_8 : g_26 a9 = some (.inl (cI, 250, .inl (fun _ => 0))) := by rw [eg_26, hs_n _ _ (Ne.symm n_mm_a9)]; exact f25_8
  have f26_9 : g_26 a10 = some (.inl (cI, 250, .inl (fun _ => 0))) := by rw [eg_26, hs_n _ _ (Ne.symm n_mm_a10)]; exact f25_9
  have f26_10 : g_26 a11 = some (.inl (cI, 60, .inl (fun _ => 0))) := by rw [eg_26, hs_n _ _ (Ne.symm n_mm_a11)]; exact f25_10
  have f26_11 : g_26 a12 = some (.inl (cI, 60, .inl (fun _ => 0))) := by rw [eg_26, hs_n _ _ (Ne.symm n_mm_a12)]; exact f25_11
  have f26_12 : g_26 a13 = some (.inl (cI, 60, .inl (fun _ => 0))) := by rw [eg_26, hs_n _ _ (Ne.symm n_mm_a13)]; exact f25_13
  have f26_13 : g_26 mm = some (.inr (8, [.int (nI 0), .ref a1, .ref a2, .int (nI 0), .int (nI 0), .ref a3, .ref a4, .ref a5, .ref a6, .int (nI 0), .ref a7, .ref a8, .int (nI 0), .ref a9, .int (nI 0), .ref a10, .int (nI 0), .int (nI 0), .ref a11, .ref a12, .ref a13, .int (nI 0), .null, .int (nI 0), .null, .int (nI 0), .null, .null, .null])) := by rw [eg_26]; exact hs_s _ _ _
  have fr := fr.put eg_26 (by simp)
  refine lv_aload_n S0.1 S0.2.1 dMM_init_112 rfl (lv_at hl 0 rfl) ?_
  refine lv_sipush (v := nI 400) S0.1 S0.2.1 dMM_init_113 (by decide) ?_
  refine hw_newa (ty := .int) (a0 := (400, .inl (fun _ => 0))) S0 hK hg hS hA0 rfl wI_arr 0 rfl (fun C h => by cases h) (fun _ => rfl) (by omega) (by show 400 * 4 ≤ 536870912; omega) (Nat.le_trans (Nat.le_of_ble_eq_true rfl) hR.2.2.1) (Nat.le_trans (Nat.le_of_ble_eq_true rfl) hR.2.2.2) dMM_init_116 (fun a14 H ha14 hg hS => ?_)
  have n_a1_a14 : a1 ≠ a14 := h_nn f26_0 ha14
  have n_a2_a14 : a2 ≠ a14 := h_nn f26_1 ha14
  have n_a3_a14 : a3 ≠ a14 := h_nn f26_2 ha14
  have n_a4_a14 : a4 ≠ a14 := h_nn f26_3 ha14
  have n_a5_a14 : a5 ≠ a14 := h_nn f26_4 ha14
  have n_a6_a14 : a6 ≠ a14 := h_nn f26_5 ha14
  have n_a7_a14 : a7 ≠ a14 := h_nn f26_6 ha14
  have n_a8_a14 : a8 ≠ a14 := h_nn f26_7 ha14
  have n_a9_a14 : a9 ≠ a14 := h_nn f26_8 ha14
  have n_a10_a14 : a10 ≠ a14 := h_nn f26_9 ha14
  have n_a11_a14 : a11 ≠ a14 := h_nn f26_10 ha14
  have n_a12_a14 : a12 ≠ a14 := h_nn f26_11 ha14
  have n_a13_a14 : a13 ≠ a14 := h_nn f26_12 ha14
  have n_mm_a14 : mm ≠ a14 := h_nn f26_13 ha14
  have z_a14 : g a14 = none := fr.nn ha14 (h_nm (Ne.symm n_mm_a14) h_n0)
  obtain ⟨g_27, eg_27⟩ : ∃ z, z = hs g_26 a14 (.inl (cI, 400, .inl (fun _ => 0))) := ⟨_, rfl⟩
  have hg : hw D hC AX g_27 H := by rw [eg_27]; exact hg
  have f27_0 : g_27 a1 = some (.inl (cI, 6, .inl (fun _ => 0))) := by rw [eg_27, hs_n _ _ n_a1_a14]; exact f26_0
  have f27_1 : g_27 a2 = some (.inl (cI, 360, .inl (fun _ => 0))) := by rw [eg_27, hs_n _ _ n_a2_a14]; exact f26_1
  have f27_2 : g_27 a3 = some (.inl (cI, 60, .inl (fun _ => 0))) := by rw [eg_27, hs_n _ _ n_a3_a14]; exact f26_2
  have f27_3 : g_27 a4 = some (.inl (cI, 60, .inl (fun _ => 0))) := by rw [eg_27, hs_n _ _ n_a4_a14]; exact f26_3
  have f27_4 : g_27 a5 = some (.inl (cI, 3721, .inl (fun _ => 0))) := by rw [eg_27, hs_n _ _ n_a5_a14]; exact f26_4
  have f27_5 : g_27 a6 = some (.inl (cI, 60, .inl (fun _ => 0))) := by rw [eg_27, hs_n _ _ n_a6_a14]; exact f26_5
  have f27_6 : g_27 a7 = some (.inl (cI, 60, .inl (fun _ => 0))) := by rw [eg_27, hs_n _ _ n_a7_a14]; exact f26_6
  have f27_7 : g_27 a8 = some (.inl (cI, 60, .inl (fun _ => 0))) := by rw [eg_27, hs_n _ _ n_a8_a14]; exact f26_7
  have f27_8 : g_27 a9 = some (.inl (cI, 250, .inl (fun _ => 0))) := by rw [eg_27, hs_n _ _ n_a9_a14]; exact f26_8
  have f27_9 : g_27 a10 = some (.inl (cI, 250, .inl (fun _ => 0))) := by rw [eg_27, hs_n _ _ n_a10_a14]; exact f26_9
  have f27_10 : g_27 a11 = some (.inl (cI, 60, .inl (fun _ => 0))) := by rw [eg_27, hs_n _ _ n_a11_a14]; exact f26_10
  have f27_11 : g_27 a12 = some (.inl (cI, 60, .inl (fun _ => 0))) := by rw [eg_27, hs_n _ _ n_a12_a14]; exact f26_11
  have f27_12 : g_27 a13 = some (.inl (cI, 60, .inl (fun _ => 0))) := by rw [eg_27, hs_n _ _ n_a13_a14]; exact f26_12
  have f27_13 : g_27 mm = some (.inr (8, [.int (nI 0), .ref a1, .ref a2, .int (nI 0), .int (nI 0), .ref a3, .ref a4, .ref a5, .ref a6, .int (nI 0), .ref a7, .ref a8, .int (nI 0), .ref a9, .int (nI 0), .ref a10, .int (nI 0), .int (nI 0), .ref a11, .ref a12, .ref a13, .int (nI 0), .null, .int (nI 0), .null, .int (nI 0), .null, .null, .null])) := by rw [eg_27, hs_n _ _ n_mm_a14]; exact f26_13
  have f27_14 : g_27 a14 = some (.inl (cI, 400, .inl (fun _ => 0))) := by rw [eg_27]; exact hs_s _ _ _
  have fr := fr.putN eg_27 z_a14
  refine hw_putF S0 hK hg hS f27_13 rfl inMM tyMM tokMM nmMM 22 (by decide) lf_MM_49 rfl rfl hnm rfl rfl rfl (Nat.le_of_ble_eq_true rfl) dMM_init_118 (fun H locs hg hS => ?_)
  obtain ⟨g_28, eg_28⟩ : ∃ z, z = hs g_27 mm (.inr (8, [.int (nI 0), .ref a1, .ref a2, .int (nI 0), .int (nI 0), .ref a3, .ref a4, .ref a5, .ref a6, .int (nI 0), .ref a7, .ref a8, .int (nI 0), .ref a9, .int (nI 0), .ref a10, .int (nI 0), .int (nI 0), .ref a11, .ref a12, .ref a13, .int (nI 0), .ref a14, .int (nI 0), .null, .int (nI 0), .null, .null, .null])) := ⟨_, rfl⟩
  have hg : hw D hC AX g_28 H := by rw [eg_28]; exact hg
  have f28_0 : g_28 a1 = some (.inl (cI, 6, .inl (fun _ => 0))) := by rw [eg_28, hs_n _ _ (Ne.symm n_mm_a1)]; exact f27_0
  have f28_1 : g_28 a2 = some (.inl (cI, 360, .inl (fun _ => 0))) := by rw [eg_28, hs_n _ _ (Ne.symm n_mm_a2)]; exact f27_1
  have f28_2 : g_28 a3 = some (.inl (cI, 60, .inl (fun _ => 0))) := by rw [eg_28, hs_n _ _ (Ne.symm n_mm_a3)]; exact f27_2
  have f28_3 : g_28 a4 = some (.inl (cI, 60, .inl (fun _ => 0))) := by rw [eg_28, hs_n _ _ (Ne.symm n_mm_a4)]; exact f27_3
  have f28_4 : g_28 a5 = some (.inl (cI, 3721, .inl (fun _ => 0))) := by rw [eg_28, hs_n _ _ (Ne.symm n_mm_a5)]; exact f27_4
  have f28_5 : g_28 a6 = some (.inl (cI, 60, .inl (fun _ => 0))) := by rw [eg_28, hs_n _ _ (Ne.symm n_mm_a6)]; exact f27_5
  have f28_6 : g_28 a7 = some (.inl (cI, 60, .inl (fun _ => 0))) := by rw [eg_28, hs_n _ _ (Ne.symm n_mm_a7)]; exact f27_6
  have f28_7 : g_28 a8 = some (.inl (cI, 60, .inl (fun _ => 0))) := by rw [eg_28, hs_n _ _ (Ne.symm n_mm_a8)]; exact f27_7
  have f28_8 : g_28 a9 = some (.inl (cI, 250, .inl (fun _ => 0))) := by rw [eg_28, hs_n _ _ (Ne.symm n_mm_a9)]; exact f27_8
  have f28_9 : g_28 a10 = some (.inl (cI, 250, .inl (fun _ => 0))) := by rw [eg_28, hs_n _ _ (Ne.symm n_mm_a10)]; exact f27_9
  have f28_10 : g_28 a11 = some (.inl (cI, 60, .inl (fun _ => 0))) := by rw [eg_28, hs_n _ _ (Ne.symm n_mm_a11)]; exact f27_10
  have f28_11 : g_28 a12 = some (.inl (cI, 60, .inl (fun _ => 0))) := by rw [eg_28, hs_n _ _ (Ne.symm n_mm_a12)]; exact f27_11
  have f28_12 : g_28 a13 = some (.inl (cI, 60, .inl (fun _ => 0))) := by rw [eg_28, hs_n _ _ (Ne.symm n_mm_a13)]; exact f27_12
  have f28_13 : g_28 a14 = some (.inl (cI, 400, .inl (fun _ => 0))) := by rw [eg_28, hs_n _ _ (Ne.symm n_mm_a14)]; exact f27_14
  have f28_14 : g_28 mm = some (.inr (8, [.int (nI 0), .ref a1, .ref a2, .int (nI 0), .int (nI 0), .ref a3, .ref a4, .ref a5, .ref a6, .int (nI 0), .ref a7, .ref a8, .int (nI 0), .ref a9, .int (nI 0), .ref a10, .int (nI 0), .int (nI 0), .ref a11, .ref a12, .ref a13, .int (nI 0), .ref a14, .int (nI 0), .null, .int (nI 0), .null, .null, .null])) := by rw [eg_28]; exact hs_s _ _ _
  have fr := fr.put eg_28 (by simp)
  refine lv_aload_n S0.1 S0.2.1 dMM_init_121 rfl (lv_at hl 0 rfl) ?_
  refine lv_sipush (v := nI 400) S0.1 S0.2.1 dMM_init_122 (by decide) ?_
  refine hw_newa (ty := .int) (a0 := (400, .inl (fun _ => 0))) S0 hK hg hS hA0 rfl wI_arr 0 rfl (fun C h => by cases h) (fun _ => rfl) (by omega) (by show 400 * 4 ≤ 536870912; omega) (Nat.le_trans (Nat.le_of_ble_eq_true rfl) hR.2.2.1) (Nat.le_trans (Nat.le_of_ble_eq_true rfl) hR.2.2.2) dMM_init_125 (fun a15 H ha15 hg hS => ?_)
  have n_a1_a15 : a1 ≠ a15 := h_nn f28_0 ha15
  have n_a2_a15 : a2 ≠ a15 := h_nn f28_1 ha15
  have n_a3_a15 : a3 ≠ a15 := h_nn f28_2 ha15
  have n_a4_a15 : a4 ≠ a15 := h_nn f28_3 ha15
  have n_a5_a15 : a5 ≠ a15 := h_nn f28_4 ha15
  have n_a6_a15 : a6 ≠ a15 := h_nn f28_5 ha15
  have n_a7_a15 : a7 ≠ a15 := h_nn f28_6 ha15
  have n_a8_a15 : a8 ≠ a15 := h_nn f28_7 ha15
  have n_a9_a15 : a9 ≠ a15 := h_nn f28_8 ha15
  have n_a10_a15 : a10 ≠ a15 := h_nn f28_9 ha15
  have n_a11_a15 : a11 ≠ a15 := h_nn f28_10 ha15
  have n_a12_a15 : a12 ≠ a15 := h_nn f28_11 ha15
  have n_a13_a15 : a13 ≠ a15 := h_nn f28_12 ha15
  have n_a14_a15 : a14 ≠ a15 := h_nn f28_13 ha15
  have n_mm_a15 : mm ≠ a15 := h_nn f28_14 ha15
  have z_a15 : g a15 = none := fr.nn ha15 (h_nm (Ne.symm n_mm_a15) h_n0)
  obtain ⟨g_29, eg_29⟩ : ∃ z, z = hs g_28 a15 (.inl (cI, 400, .inl (fun _ => 0))) := ⟨_, rfl⟩
  have hg : hw D hC AX g_29 H := by rw [eg_29]; exact hg
  have f29_0 : g_29 a1 = some (.inl (cI, 6, .inl (fun _ => 0))) := by rw [eg_29, hs_n _ _ n_a1_a15]; exact f28_0
  have f29_1 : g_29 a2 = some (.inl (cI, 360, .inl (fun _ => 0))) := by rw [eg_29, hs_n _ _ n_a2_a15]; exact f28_1
  have f29_2 : g_29 a3 = some (.inl (cI, 60, .inl (fun _ => 0))) := by rw [eg_29, hs_n _ _ n_a3_a15]; exact f28_2
  have f29_3 : g_29 a4 = some (.inl (cI, 60, .inl (fun _ => 0))) := by rw [eg_29, hs_n _ _ n_a4_a15]; exact f28_3
  have f29_4 : g_29 a5 = some (.inl (cI, 3721, .inl (fun _ => 0))) := by rw [eg_29, hs_n _ _ n_a5_a15]; exact f28_4
  have f29_5 : g_29 a6 = some (.inl (cI, 60, .inl (fun _ => 0))) := by rw [eg_29, hs_n _ _ n_a6_a15]; exact f28_5
  have f29_6 : g_29 a7 = some (.inl (cI, 60, .inl (fun _ => 0))) := by rw [eg_29, hs_n _ _ n_a7_a15]; exact f28_6
  have f29_7 : g_29 a8 = some (.inl (cI, 60, .inl (fun _ => 0))) := by rw [eg_29, hs_n _ _ n_a8_a15]; exact f28_7
  have f29_8 : g_29 a9 = some (.inl (cI, 250, .inl (fun _ => 0))) := by rw [eg_29, hs_n _ _ n_a9_a15]; exact f28_8
  have f29_9 : g_29 a10 = some (.inl (cI, 250, .inl (fun _ => 0))) := by rw [eg_29, hs_n _ _ n_a10_a15]; exact f28_9
  have f29_10 : g_29 a11 = some (.inl (cI, 60, .inl (fun _ => 0))) := by rw [eg_29, hs_n _ _ n_a11_a15]; exact f28_10
  have f29_11 : g_29 a12 = some (.inl (cI, 60, .inl (fun _ => 0))) := by rw [eg_29, hs_n _ _ n_a12_a15]; exact f28_11
  have f29_12 : g_29 a13 = some (.inl (cI, 60, .inl (fun _ => 0))) := by rw [eg_29, hs_n _ _ n_a13_a15]; exact f28_12
  have f29_13 : g_29 a14 = some (.inl (cI, 400, .inl (fun _ => 0))) := by rw [eg_29, hs_n _ _ n_a14_a15]; exact f28_13
  have f29_14 : g_29 mm = some (.inr (8, [.int (nI 0), .ref a1, .ref a2, .int (nI 0), .int (nI 0), .ref a3, .ref a4, .ref a5, .ref a6, .int (nI 0), .ref a7, .ref a8, .int (nI 0), .ref a9, .int (nI 0), .ref a10, .int (nI 0), .int (nI 0), .ref a11, .ref a12, .ref a13, .int (nI 0), .ref a14, .int (nI 0), .null, .int (nI 0), .null, .null, .null])) := by rw [eg_29, hs_n _ _ n_mm_a15]; exact f28_14
  have f29_15 : g_29 a15 = some (.inl (cI, 400, .inl (fun _ => 0))) := by rw [eg_29]; exact hs_s _ _ _
  have fr := fr.putN eg_29 z_a15
  refine hw_putF S0 hK hg hS f29_14 rfl inMM tyMM tokMM nmMM 24 (by decide) lf_MM_52 rfl rfl hnm rfl rfl rfl (Nat.le_of_ble_eq_true rfl) dMM_init_127 (fun H locs hg hS => ?_)
  obtain ⟨g_30, eg_30⟩ : ∃ z, z = hs g_29 mm (.inr (8, [.int (nI 0), .ref a1, .ref a2, .int (nI 0), .int (nI 0), .ref a3, .ref a4, .ref a5, .ref a6, .int (nI 0), .ref a7, .ref a8, .int (nI 0), .ref a9, .int (nI 0), .ref a10, .int (nI 0), .int (nI 0), .ref a11, .ref a12, .ref a13, .int (nI 0), .ref a14, .int (nI 0), .ref a15, .int (nI 0), .null, .null, .null])) := ⟨_, rfl⟩
  have hg : hw D hC AX g_30 H := by rw [eg_30]; exact hg
  have f30_0 : g_30 a1 = some (.inl (cI, 6, .inl (fun _ => 0))) := by rw [eg_30, hs_n _ _ (Ne.symm n_mm_a1)]; exact f29_0
  have f30_1 : g_30 a2 = some (.inl (cI, 360, .inl (fun _ => 0))) := by rw [eg_30, hs_n _ _ (Ne.symm n_mm_a2)]; exact f29_1
  have f30_2 : g_30 a3 = some (.inl (cI, 60, .inl (fun _ => 0))) := by rw [eg_30, hs_n _ _ (Ne.symm n_mm_a3)]; exact f29_2
  have f30_3 : g_30 a4 = some (.inl (cI, 60, .inl (fun _ => 0))) := by rw [eg_30, hs_n _ _ (Ne.symm n_mm_a4)]; exact f29_3
  have f30_4 : g_30 a5 = some (.inl (cI, 3721, .inl (fun _ => 0))) := by rw [eg_30, hs_n _ _ (Ne.symm n_mm_a5)]; exact f29_4
  have f30_5 : g_30 a6 = some (.inl (cI, 60, .inl (fun _ => 0))) := by rw [eg_30, hs_n _ _ (Ne.symm n_mm_a6)]; exact f29_5
  have f30_6 : g_30 a7 = some (.inl (cI, 60, .inl (fun _ => 0))) := by rw [eg_30, hs_n _ _ (Ne.symm n_mm_a7)]; exact f29_6
  have f30_7 : g_30 a8 = some (.inl (cI, 60, .inl (fun _ => 0))) := by rw [eg_30, hs_n _ _ (Ne.symm n_mm_a8)]; exact f29_7
  have f30_8 : g_30 a9 = some (.inl (cI, 250, .inl (fun _ => 0))) := by rw [eg_30, hs_n _ _ (Ne.symm n_mm_a9)]; exact f29_8
  have f30_9 : g_30 a10 = some (.inl (cI, 250, .inl (fun _ => 0))) := by rw [eg_30, hs_n _ _ (Ne.symm n_mm_a10)]; exact f29_9
  have f30_10 : g_30 a11 = some (.inl (cI, 60, .inl (fun _ => 0))) := by rw [eg_30, hs_n _ _ (Ne.symm n_mm_a11)]; exact f29_10
  have f30_11 : g_30 a12 = some (.inl (cI, 60, .inl (fun _ => 0))) := by rw [eg_30, hs_n _ _ (Ne.symm n_mm_a12)]; exact f29_11
  have f30_12 : g_30 a13 = some (.inl (cI, 60, .inl (fun _ => 0))) := by rw [eg_30, hs_n _ _ (Ne.symm n_mm_a13)]; exact f29_12
  have f30_13 : g_30 a14 = some (.inl (cI, 400, .inl (fun _ => 0))) := by rw [eg_30, hs_n _ _ (Ne.symm n_mm_a14)]; exact f29_13
  have f30_14 : g_30 a15 = some (.inl (cI, 400, .inl (fun _ => 0))) := by rw [eg_30, hs_n _ _ (Ne.symm n_mm_a15)]; exact f29_15
  have f30_15 : g_30 mm = some (.inr (8, [.int (nI 0), .ref a1, .ref a2, .int (nI 0), .int (nI 0), .ref a3, .ref a4, .ref a5, .ref a6, .int (nI 0), .ref a7, .ref a8, .int (nI 0), .ref a9, .int (nI 0), .ref a10, .int (nI 0), .int (nI 0), .ref a11, .ref a12, .ref a13, .int (nI 0), .ref a14, .int (nI 0), .ref a15, .int (nI 0), .null, .null, .null])) := by rw [eg_30]; exact hs_s _ _ _
  have fr := fr.put eg_30 (by simp)
  refine lv_aload_n S0.1 S0.2.1 dMM_init_130 rfl (lv_at hl 0 rfl) ?_
  refine lv_bipush (v := nI 30) S0.1 S0.2.1 dMM_init_131 (by decide) ?_
  refine hw_newa (ty := .int) (a0 := (30, .inl (fun _ => 0))) S0 hK hg hS hA0 rfl wI_arr 0 rfl (fun C h => by cases h) (fun _ => rfl) (by omega) (by show 30 * 4 ≤ 536870912; omega) (Nat.le_trans (Nat.le_of_ble_eq_true rfl) hR.2.2.1) (Nat.le_trans (Nat.le_of_ble_eq_true rfl) hR.2.2.2) dMM_init_133 (fun a16 H ha16 hg hS => ?_)
  have n_a1_a16 : a1 ≠ a16 := h_nn f30_0 ha16
  have n_a2_a16 : a2 ≠ a16 := h_nn f30_1 ha16
  have n_a3_a16 : a3 ≠ a16 := h_nn f30_2 ha16
  have n_a4_a16 : a4 ≠ a16 := h_nn f30_3 ha16
  have n_a5_a16 : a5 ≠ a16 := h_nn f30_4 ha16
  have n_a6_a16 : a6 ≠ a16 := h_nn f30_5 ha16
  have n_a7_a16 : a7 ≠ a16 := h_nn f30_6 ha16
  have n_a8_a16 : a8 ≠ a16 := h_nn f30_7 ha16
  have n_a9_a16 : a9 ≠ a16 := h_nn f30_8 ha16
  have n_a10_a16 : a10 ≠ a16 := h_nn f30_9 ha16
  have n_a11_a16 : a11 ≠ a16 := h_nn f30_10 ha16
  have n_a12_a16 : a12 ≠ a16 := h_nn f30_11 ha16
  have n_a13_a16 : a13 ≠ a16 := h_nn f30_12 ha16
  have n_a14_a16 : a14 ≠ a16 := h_nn f30_13 ha16
  have n_a15_a16 : a15 ≠ a16 := h_nn f30_14 ha16
  have n_mm_a16 : mm ≠ a16 := h_nn f30_15 ha16
  have z_a16 : g a16 = none := fr.nn ha16 (h_nm (Ne.symm n_mm_a16) h_n0)
  obtain ⟨g_31, eg_31⟩ : ∃ z, z = hs g_30 a16 (.inl (cI, 30, .inl (fun _ => 0))) := ⟨_, rfl⟩
  have hg : hw D hC AX g_31 H := by rw [eg_31]; exact hg
  have f31_0 : g_31 a1 = some (.inl (cI, 6, .inl (fun _ => 0))) := by rw [eg_31, hs_n _ _ n_a1_a16]; exact f30_0
  have f31_1 : g_31 a2 = some (.inl (cI, 360, .inl (fun _ => 0))) := by rw [eg_31, hs_n _ _ n_a2_a16]; exact f30_1
  have f31_2 : g_31 a3 = some (.inl (cI, 60, .inl (fun _ => 0))) := by rw [eg_31, hs_n _ _ n_a3_a16]; exact f30_2
  have f31_3 : g_31 a4 = some (.inl (cI, 60, .inl (fun _ => 0))) := by rw [eg_31, hs_n _ _ n_a4_a16]; exact f30_3
  have f31_4 : g_31 a5 = some (.inl (cI, 3721, .inl (fun _ => 0))) := by rw [eg_31, hs_n _ _ n_a5_a16]; exact f30_4
  have f31_5 : g_31 a6 = some (.inl (cI, 60, .inl (fun _ => 0))) := by rw [eg_31, hs_n _ _ n_a6_a16]; exact f30_5
  have f31_6 : g_31 a7 = some (.inl (cI, 60, .inl (fun _ => 0))) := by rw [eg_31, hs_n _ _ n_a7_a16]; exact f30_6
  have f31_7 : g_31 a8 = some (.inl (cI, 60, .inl (fun _ => 0))) := by rw [eg_31, hs_n _ _ n_a8_a16]; exact f30_7
  have f31_8 : g_31 a9 = some (.inl (cI, 250, .inl (fun _ => 0))) := by rw [eg_31, hs_n _ _ n_a9_a16]; exact f30_8
  have f31_9 : g_31 a10 = some (.inl (cI, 250, .inl (fun _ => 0))) := by rw [eg_31, hs_n _ _ n_a10_a16]; exact f30_9
  have f31_10 : g_31 a11 = some (.inl (cI, 60, .inl (fun _ => 0))) := by rw [eg_31, hs_n _ _ n_a11_a16]; exact f30_10
  have f31_11 : g_31 a12 = some (.inl (cI, 60, .inl (fun _ => 0))) := by rw [eg_31, hs_n _ _ n_a12_a16]; exact f30_11
  have f31_12 : g_31 a13 = some (.inl (cI, 60, .inl (fun _ => 0))) := by rw [eg_31, hs_n _ _ n_a13_a16]; exact f30_12
  have f31_13 : g_31 a14 = some (.inl (cI, 400, .inl (fun _ => 0))) := by rw [eg_31, hs_n _ _ n_a14_a16]; exact f30_13
  have f31_14 : g_31 a15 = some (.inl (cI, 400, .inl (fun _ => 0))) := by rw [eg_31, hs_n _ _ n_a15_a16]; exact f30_14
  have f31_15 : g_31 mm = some (.inr (8, [.int (nI 0), .ref a1, .ref a2, .int (nI 0), .int (nI 0), .ref a3, .ref a4, .ref a5, .ref a6, .int (nI 0), .ref a7, .ref a8, .int (nI 0), .ref a9, .int (nI 0), .ref a10, .int (nI 0), .int (nI 0), .ref a11, .ref a12, .ref a13, .int (nI 0), .ref a14, .int (nI 0), .ref a15, .int (nI 0), .null, .null, .null])) := by rw [eg_31, hs_n _ _ n_mm_a16]; exact f30_15
  have f31_16 : g_31 a16 = some (.inl (cI, 30, .inl (fun _ => 0))) := by rw [eg_31]; exact hs_s _ _ _
  have fr := fr.putN eg_31 z_a16
  refine hw_putF S0 hK hg hS f31_15 rfl inMM tyMM tokMM nmMM 26 (by decide) lf_MM_55 rfl rfl hnm rfl rfl rfl (Nat.le_of_ble_eq_true rfl) dMM_init_135 (fun H locs hg hS => ?_)
  obtain ⟨g_32, eg_32⟩ : ∃ z, z = hs g_31 mm (.inr (8, [.int (nI 0), .ref a1, .ref a2, .int (nI 0), .int (nI 0), .ref a3, .ref a4, .ref a5, .ref a6, .int (nI 0), .ref a7, .ref a8, .int (nI 0), .ref a9, .int (nI 0), .ref a10, .int (nI 0), .int (nI 0), .ref a11, .ref a12, .ref a13, .int (nI 0), .ref a14, .int (nI 0), .ref a15, .int (nI 0), .ref a16, .null, .null])) := ⟨_, rfl⟩
  have hg : hw D hC AX g_32 H := by rw [eg_32]; exact hg
  have f32_0 : g_32 a1 = some (.inl (cI, 6, .inl (fun _ => 0))) := by rw [eg_32, hs_n _ _ (Ne.symm n_mm_a1)]; exact f31_0
  have f32_1 : g_32 a2 = some (.inl (cI, 360, .inl (fun _ => 0))) := by rw [eg_32, hs_n _ _ (Ne.symm n_mm_a2)]; exact f31_1
  have f32_2 : g_32 a3 = some (.inl (cI, 60, .inl (fun _ => 0))) := by rw [eg_32, hs_n _ _ (Ne.symm n_mm_a3)]; exact f31_2
  have f32_3 : g_32 a4 = some (.inl (cI, 60, .inl (fun _ => 0))) := by rw [eg_32, hs_n _ _ (Ne.symm n_mm_a4)]; exact f31_3
  have f32_4 : g_32 a5 = some (.inl (cI, 3721, .inl (fun _ => 0))) := by rw [eg_32, hs_n _ _ (Ne.symm n_mm_a5)]; exact f31_4
  have f32_5 : g_32 a6 = some (.inl (cI, 60, .inl (fun _ => 0))) := by rw [eg_32, hs_n _ _ (Ne.symm n_mm_a6)]; exact f31_5
  have f32_6 : g_32 a7 = some (.inl (cI, 60, .inl (fun _ => 0))) := by rw [eg_32, hs_n _ _ (Ne.symm n_mm_a7)]; exact f31_6
  have f32_7 : g_32 a8 = some (.inl (cI, 60, .inl (fun _ => 0))) := by rw [eg_32, hs_n _ _ (Ne.symm n_mm_a8)]; exact f31_7
  have f32_8 : g_32 a9 = some (.inl (cI, 250, .inl (fun _ => 0))) := by rw [eg_32, hs_n _ _ (Ne.symm n_mm_a9)]; exact f31_8
  have f32_9 : g_32 a10 = some (.inl (cI, 250, .inl (fun _ => 0))) := by rw [eg_32, hs_n _ _ (Ne.symm n_mm_a10)]; exact f31_9
  have f32_10 : g_32 a11 = some (.inl (cI, 60, .inl (fun _ => 0))) := by rw [eg_32, hs_n _ _ (Ne.symm n_mm_a11)]; exact f31_10
  have f32_11 : g_32 a12 = some (.inl (cI, 60, .inl (fun _ => 0))) := by rw [eg_32, hs_n _ _ (Ne.symm n_mm_a12)]; exact f31_11
  have f32_12 : g_32 a13 = some (.inl (cI, 60, .inl (fun _ => 0))) := by rw [eg_32, hs_n _ _ (Ne.symm n_mm_a13)]; exact f31_12
  have f32_13 : g_32 a14 = some (.inl (cI, 400, .inl (fun _ => 0))) := by rw [eg_32, hs_n _ _ (Ne.symm n_mm_a14)]; exact f31_13
  have f32_14 : g_32 a15 = some (.inl (cI, 400, .inl (fun _ => 0))) := by rw [eg_32, hs_n _ _ (Ne.symm n_mm_a15)]; exact f31_14
  have f32_15 : g_32 a16 = some (.inl (cI, 30, .inl (fun _ => 0))) := by rw [eg_32, hs_n _ _ (Ne.symm n_mm_a16)]; exact f31_16
  have f32_16 : g_32 mm = some (.inr (8, [.int (nI 0), .ref a1, .ref a2, .int (nI 0), .int (nI 0), .ref a3, .ref a4, .ref a5, .ref a6, .int (nI 0), .ref a7, .ref a8, .int (nI 0), .ref a9, .int (nI 0), .ref a10, .int (nI 0), .int (nI 0), .ref a11, .ref a12, .ref a13, .int (nI 0), .ref a14, .int (nI 0), .ref a15, .int (nI 0), .ref a16, .null, .null])) := by rw [eg_32]; exact hs_s _ _ _
  have fr := fr.put eg_32 (by simp)
  refine lv_aload_n S0.1 S0.2.1 dMM_init_138 rfl (lv_at hl 0 rfl) ?_
  refine lv_sipush (v := nI 1800) S0.1 S0.2.1 dMM_init_139 (by decide) ?_
  refine hw_newa (ty := .int) (a0 := (1800, .inl (fun _ => 0))) S0 hK hg hS hA0 rfl wI_arr 0 rfl (fun C h => by cases h) (fun _ => rfl) (by omega) (by show 1800 * 4 ≤ 536870912; omega) (Nat.le_trans (Nat.le_of_ble_eq_true rfl) hR.2.2.1) (Nat.le_trans (Nat.le_of_ble_eq_true rfl) hR.2.2.2) dMM_init_142 (fun a17 H ha17 hg hS => ?_)
  have n_a1_a17 : a1 ≠ a17 := h_nn f32_0 ha17
  have n_a2_a17 : a2 ≠ a17 := h_nn f32_1 ha17
  have n_a3_a17 : a3 ≠ a17 := h_nn f32_2 ha17
  have n_a4_a17 : a4 ≠ a17 := h_nn f32_3 ha17
  have n_a5_a17 : a5 ≠ a17 := h_nn f32_4 ha17
  have n_a6_a17 : a6 ≠ a17 := h_nn f32_5 ha17
  have n_a7_a17 : a7 ≠ a17 := h_nn f32_6 ha17
  have n_a8_a17 : a8 ≠ a17 := h_nn f32_7 ha17
  have n_a9_a17 : a9 ≠ a17 := h_nn f32_8 ha17
  have n_a10_a17 : a10 ≠ a17 := h_nn f32_9 ha17
  have n_a11_a17 : a11 ≠ a17 := h_nn f32_10 ha17
  have n_a12_a17 : a12 ≠ a17 := h_nn f32_11 ha17
  have n_a13_a17 : a13 ≠ a17 := h_nn f32_12 ha17
  have n_a14_a17 : a14 ≠ a17 := h_nn f32_13 ha17
  have n_a15_a17 : a15 ≠ a17 := h_nn f32_14 ha17
  have n_a16_a17 : a16 ≠ a17 := h_nn f32_15 ha17
  have n_mm_a17 : mm ≠ a17 := h_nn f32_16 ha17
  have z_a17 : g a17 = none := fr.nn ha17 (h_nm (Ne.symm n_mm_a17) h_n0)
  obtain ⟨g_33, eg_33⟩ : ∃ z, z = hs g_32 a17 (.inl (cI, 1800, .inl (fun _ => 0))) := ⟨_, rfl⟩
  have hg : hw D hC AX g_33 H := by rw [eg_33]; exact hg
  have f33_0 : g_33 a1 = some (.inl (cI, 6, .inl (fun _ => 0))) := by rw [eg_33, hs_n _ _ n_a1_a17]; exact f32_0
  have f33_1 : g_33 a2 = some (.inl (cI, 360, .inl (fun _ => 0))) := by rw [eg_33, hs_n _ _ n_a2_a17]; exact f32_1
  have f33_2 : g_33 a3 = some (.inl (cI, 60, .inl (fun _ => 0))) := by rw [eg_33, hs_n _ _ n_a3_a17]; exact f32_2
  have f33_3 : g_33 a4 = some (.inl (cI, 60, .inl (fun _ => 0))) := by rw [eg_33, hs_n _ _ n_a4_a17]; exact f32_3
  have f33_4 : g_33 a5 = some (.inl (cI, 3721, .inl (fun _ => 0))) := by rw [eg_33, hs_n _ _ n_a5_a17]; exact f32_4
  have f33_5 : g_33 a6 = some (.inl (cI, 60, .inl (fun _ => 0))) := by rw [eg_33, hs_n _ _ n_a6_a17]; exact f32_5
  have f33_6 : g_33 a7 = some (.inl (cI, 60, .inl (fun _ => 0))) := by rw [eg_33, hs_n _ _ n_a7_a17]; exact f32_6
  have f33_7 : g_33 a8 = some (.inl (cI, 60, .inl (fun _ => 0))) := by rw [eg_33, hs_n _ _ n_a8_a17]; exact f32_7
  have f33_8 : g_33 a9 = some (.inl (cI, 250, .inl (fun _ => 0))) := by rw [eg_33, hs_n _ _ n_a9_a17]; exact f32_8
  have f33_9 : g_33 a10 = some (.inl (cI, 250, .inl (fun _ => 0))) := by rw [eg_33, hs_n _ _ n_a10_a17]; exact f32_9
  have f33_10 : g_33 a11 = some (.inl (cI, 60, .inl (fun _ => 0))) := by rw [eg_33, hs_n _ _ n_a11_a17]; exact f32_10
  have f33_11 : g_33 a12 = some (.inl (cI, 60, .inl (fun _ => 0))) := by rw [eg_33, hs_n _ _ n_a12_a17]; exact f32_11
  have f33_12 : g_33 a13 = some (.inl (cI, 60, .inl (fun _ => 0))) := by rw [eg_33, hs_n _ _ n_a13_a17]; exact f32_12
  have f33_13 : g_33 a14 = some (.inl (cI, 400, .inl (fun _ => 0))) := by rw [eg_33, hs_n _ _ n_a14_a17]; exact f32_13
  have f33_14 : g_33 a15 = some (.inl (cI, 400, .inl (fun _ => 0))) := by rw [eg_33, hs_n _ _ n_a15_a17]; exact f32_14
  have f33_15 : g_33 a16 = some (.inl (cI, 30, .inl (fun _ => 0))) := by rw [eg_33, hs_n _ _ n_a16_a17]; exact f32_15
  have f33_16 : g_33 mm = some (.inr (8, [.int (nI 0), .ref a1, .ref a2, .int (nI 0), .int (nI 0), .ref a3, .ref a4, .ref a5, .ref a6, .int (nI 0), .ref a7, .ref a8, .int (nI 0), .ref a9, .int (nI 0), .ref a10, .int (nI 0), .int (nI 0), .ref a11, .ref a12, .ref a13, .int (nI 0), .ref a14, .int (nI 0), .ref a15, .int (nI 0), .ref a16, .null, .null])) := by rw [eg_33, hs_n _ _ n_mm_a17]; exact f32_16
  have f33_17 : g_33 a17 = some (.inl (cI, 1800, .inl (fun _ => 0))) := by rw [eg_33]; exact hs_s _ _ _
  have fr := fr.putN eg_33 z_a17
  refine hw_putF S0 hK hg hS f33_16 rfl inMM tyMM tokMM nmMM 27 (by decide) lf_MM_58 rfl rfl hnm rfl rfl rfl (Nat.le_of_ble_eq_true rfl) dMM_init_144 (fun H locs hg hS => ?_)
  obtain ⟨g_34, eg_34⟩ : ∃ z, z = hs g_33 mm (.inr (8, [.int (nI 0), .ref a1, .ref a2, .int (nI 0), .int (nI 0), .ref a3, .ref a4, .ref a5, .ref a6, .int (nI 0), .ref a7, .ref a8, .int (nI 0), .ref a9, .int (nI 0), .ref a10, .int (nI 0), .int (nI 0), .ref a11, .ref a12, .ref a13, .int (nI 0), .ref a14, .int (nI 0), .ref a15, .int (nI 0), .ref a16, .ref a17, .null])) := ⟨_, rfl⟩
  have hg : hw D hC AX g_34 H := by rw [eg_34]; exact hg
  have f34_0 : g_34 a1 = some (.inl (cI, 6, .inl (fun _ => 0))) := by rw [eg_34, hs_n _ _ (Ne.symm n_mm_a1)]; exact f33_0
  have f34_1 : g_34 a2 = some (.inl (cI, 360, .inl (fun _ => 0))) := by rw [eg_34, hs_n _ _ (Ne.symm n_mm_a2)]; exact f33_1
  have f34_2 : g_34 a3 = some (.inl (cI, 60, .inl (fun _ => 0))) := by rw [eg_34, hs_n _ _ (Ne.symm n_mm_a3)]; exact f33_2
  have f34_3 : g_34 a4 = some (.inl (cI, 60, .inl (fun _ => 0))) := by rw [eg_34, hs_n _ _ (Ne.symm n_mm_a4)]; exact f33_3
  have f34_4 : g_34 a5 = some (.inl (cI, 3721, .inl (fun _ => 0))) := by rw [eg_34, hs_n _ _ (Ne.symm n_mm_a5)]; exact f33_4
  have f34_5 : g_34 a6 = some (.inl (cI, 60, .inl (fun _ => 0))) := by rw [eg_34, hs_n _ _ (Ne.symm n_mm_a6)]; exact f33_5
  have f34_6 : g_34 a7 = some (.inl (cI, 60, .inl (fun _ => 0))) := by rw [eg_34, hs_n _ _ (Ne.symm n_mm_a7)]; exact f33_6
  have f34_7 : g_34 a8 = some (.inl (cI, 60, .inl (fun _ => 0))) := by rw [eg_34, hs_n _ _ (Ne.symm n_mm_a8)]; exact f33_7
  have f34_8 : g_34 a9 = some (.inl (cI, 250, .inl (fun _ => 0))) := by rw [eg_34, hs_n _ _ (Ne.symm n_mm_a9)]; exact f33_8
  have f34_9 : g_34 a10 = some (.inl (cI, 250, .inl (fun _ => 0))) := by rw [eg_34, hs_n _ _ (Ne.symm n_mm_a10)]; exact f33_9
  have f34_10 : g_34 a11 = some (.inl (cI, 60, .inl (fun _ => 0))) := by rw [eg_34, hs_n _ _ (Ne.symm n_mm_a11)]; exact f33_10
  have f34_11 : g_34 a12 = some (.inl (cI, 60, .inl (fun _ => 0))) := by rw [eg_34, hs_n _ _ (Ne.symm n_mm_a12)]; exact f33_11
  have f34_12 : g_34 a13 = some (.inl (cI, 60, .inl (fun _ => 0))) := by rw [eg_34, hs_n _ _ (Ne.symm n_mm_a13)]; exact f33_12
  have f34_13 : g_34 a14 = some (.inl (cI, 400, .inl (fun _ => 0))) := by rw [eg_34, hs_n _ _ (Ne.symm n_mm_a14)]; exact f33_13
  have f34_14 : g_34 a15 = some (.inl (cI, 400, .inl (fun _ => 0))) := by rw [eg_34, hs_n _ _ (Ne.symm n_mm_a15)]; exact f33_14
  have f34_15 : g_34 a16 = some (.inl (cI, 30, .inl (fun _ => 0))) := by rw [eg_34, hs_n _ _ (Ne.symm n_mm_a16)]; exact f33_15
  have f34_16 : g_34 a17 = some (.inl (cI, 1800, .inl (fun _ => 0))) := by rw [eg_34, hs_n _ _ (Ne.symm n_mm_a17)]; exact f33_17
  have f34_17 : g_34 mm = some (.inr (8, [.int (nI 0), .ref a1, .ref a2, .int (nI 0), .int (nI 0), .ref a3, .ref a4, .ref a5, .ref a6, .int (nI 0), .ref a7, .ref a8, .int (nI 0), .ref a9, .int (nI 0), .ref a10, .int (nI 0), .int (nI 0), .ref a11, .ref a12, .ref a13, .int (nI 0), .ref a14, .int (nI 0), .ref a15, .int (nI 0), .ref a16, .ref a17, .null])) := by rw [eg_34]; exact hs_s _ _ _
  have fr := fr.put eg_34 (by simp)
  refine lv_aload_n S0.1 S0.2.1 dMM_init_147 rfl (lv_at hl 0 rfl) ?_
  refine lv_sipush (v := nI 1800) S0.1 S0.2.1 dMM_init_148 (by decide) ?_
  refine hw_newa (ty := .int) (a0 := (1800, .inl (fun _ => 0))) S0 hK hg hS hA0 rfl wI_arr 0 rfl (fun C h => by cases h) (fun _ => rfl) (by omega) (by show 1800 * 4 ≤ 536870912; omega) (Nat.le_trans (Nat.le_of_ble_eq_true rfl) hR.2.2.1) (Nat.le_trans (Nat.le_of_ble_eq_true rfl) hR.2.2.2) dMM_init_151 (fun a18 H ha18 hg hS => ?_)
  have n_a1_a18 : a1 ≠ a18 := h_nn f34_0 ha18
  have n_a2_a18 : a2 ≠ a18 := h_nn f34_1 ha18
  have n_a3_a18 : a3 ≠ a18 := h_nn f34_2 ha18
  have n_a4_a18 : a4 ≠ a18 := h_nn f34_3 ha18
  have n_a5_a18 : a5 ≠ a18 := h_nn f34_4 ha18
  have n_a6_a18 : a6 ≠ a18 := h_nn f34_5 ha18
  have n_a7_a18 : a7 ≠ a18 := h_nn f34_6 ha18
  have n_a8_a18 : a8 ≠ a18 := h_nn f34_7 ha18
  have n_a9_a18 : a9 ≠ a18 := h_nn f34_8 ha18
  have n_a10_a18 : a10 ≠ a18 := h_nn f34_9 ha18
  have n_a11_a18 : a11 ≠ a18 := h_nn f34_10 ha18
  have n_a12_a18 : a12 ≠ a18 := h_nn f34_11 ha18
  have n_a13_a18 : a13 ≠ a18 := h_nn f34_12 ha18
  have n_a14_a18 : a14 ≠ a18 := h_nn f34_13 ha18
  have n_a15_a18 : a15 ≠ a18 := h_nn f34_14 ha18
  have n_a16_a18 : a16 ≠ a18 := h_nn f34_15 ha18
  have n_a17_a18 : a17 ≠ a18 := h_nn f34_16 ha18
  have n_mm_a18 : mm ≠ a18 := h_nn f34_17 ha18
  have z_a18 : g a18 = none := fr.nn ha18 (h_nm (Ne.symm n_mm_a18) h_n0)
  obtain ⟨g_35, eg_35⟩ : ∃ z, z = hs g_34 a18 (.inl (cI, 1800, .inl (fun _ => 0))) := ⟨_, rfl⟩
  have hg : hw D hC AX g_35 H := by rw [eg_35]; exact hg
  have f35_0 : g_35 a1 = some (.inl (cI, 6, .inl (fun _ => 0))) := by rw [eg_35, hs_n _ _ n_a1_a18]; exact f34_0
  have f35_1 : g_35 a2 = some (.inl (cI, 360, .inl (fun _ => 0))) := by rw [eg_35, hs_n _ _ n_a2_a18]; exact f34_1
  have f35_2 : g_35 a3 = some (.inl (cI, 60, .inl (fun _ => 0))) := by rw [eg_35, hs_n _ _ n_a3_a18]; exact f34_2
  have f35_3 : g_35 a4 = some (.inl (cI, 60, .inl (fun _ => 0))) := by rw [eg_35, hs_n _ _ n_a4_a18]; exact f34_3
  have f35_4 : g_35 a5 = some (.inl (cI, 3721, .inl (fun _ => 0))) := by rw [eg_35, hs_n _ _ n_a5_a18]; exact f34_4
  have f35_5 : g_35 a6 = some (.inl (cI, 60, .inl (fun _ => 0))) := by rw [eg_35, hs_n _ _ n_a6_a18]; exact f34_5
  have f35_6 : g_35 a7 = some (.inl (cI, 60, .inl (fun _ => 0))) := by rw [eg_35, hs_n _ _ n_a7_a18]; exact f34_6
  have f35_7 : g_35 a8 = some (.inl (cI, 60, .inl (fun _ => 0))) := by rw [eg_35, hs_n _ _ n_a8_a18]; exact f34_7
  have f35_8 : g_35 a9 = some (.inl (cI, 250, .inl (fun _ => 0))) := by rw [eg_35, hs_n _ _ n_a9_a18]; exact f34_8
  have f35_9 : g_35 a10 = some (.inl (cI, 250, .inl (fun _ => 0))) := by rw [eg_35, hs_n _ _ n_a10_a18]; exact f34_9
  have f35_10 : g_35 a11 = some (.inl (cI, 60, .inl (fun _ => 0))) := by rw [eg_35, hs_n _ _ n_a11_a18]; exact f34_10
  have f35_11 : g_35 a12 = some (.inl (cI, 60, .inl (fun _ => 0))) := by rw [eg_35, hs_n _ _ n_a12_a18]; exact f34_11
  have f35_12 : g_35 a13 = some (.inl (cI, 60, .inl (fun _ => 0))) := by rw [eg_35, hs_n _ _ n_a13_a18]; exact f34_12
  have f35_13 : g_35 a14 = some (.inl (cI, 400, .inl (fun _ => 0))) := by rw [eg_35, hs_n _ _ n_a14_a18]; exact f34_13
  have f35_14 : g_35 a15 = some (.inl (cI, 400, .inl (fun _ => 0))) := by rw [eg_35, hs_n _ _ n_a15_a18]; exact f34_14
  have f35_15 : g_35 a16 = some (.inl (cI, 30, .inl (fun _ => 0))) := by rw [eg_35, hs_n _ _ n_a16_a18]; exact f34_15
  have f35_16 : g_35 a17 = some (.inl (cI, 1800, .inl (fun _ => 0))) := by rw [eg_35, hs_n _ _ n_a17_a18]; exact f34_16
  have f35_17 : g_35 mm = some (.inr (8, [.int (nI 0), .ref a1, .ref a2, .int (nI 0), .int (nI 0), .ref a3, .ref a4, .ref a5, .ref a6, .int (nI 0), .ref a7, .ref a8, .int (nI 0), .ref a9, .int (nI 0), .ref a10, .int (nI 0), .int (nI 0), .ref a11, .ref a12, .ref a13, .int (nI 0), .ref a14, .int (nI 0), .ref a15, .int (nI 0), .ref a16, .ref a17, .null])) := by rw [eg_35, hs_n _ _ n_mm_a18]; exact f34_17
  have f35_18 : g_35 a18 = some (.inl (cI, 1800, .inl (fun _ => 0))) := by rw [eg_35]; exact hs_s _ _ _
  have fr := fr.putN eg_35 z_a18
  refine hw_putF S0 hK hg hS f35_17 rfl inMM tyMM tokMM nmMM 28 (by decide) lf_MM_61 rfl rfl hnm rfl rfl rfl (Nat.le_of_ble_eq_true rfl) dMM_init_153 (fun H locs hg hS => ?_)
  obtain ⟨g_36, eg_36⟩ : ∃ z, z = hs g_35 mm (.inr (8, [.int (nI 0), .ref a1, .ref a2, .int (nI 0), .int (nI 0), .ref a3, .ref a4, .ref a5, .ref a6, .int (nI 0), .ref a7, .ref a8, .int (nI 0), .ref a9, .int (nI 0), .ref a10, .int (nI 0), .int (nI 0), .ref a11, .ref a12, .ref a13, .int (nI 0), .ref a14, .int (nI 0), .ref a15, .int (nI 0), .ref a16, .ref a17, .ref a18])) := ⟨_, rfl⟩
  have hg : hw D hC AX g_36 H := by rw [eg_36]; exact hg
  have f36_0 : g_36 a1 = some (.inl (cI, 6, .inl (fun _ => 0))) := by rw [eg_36, hs_n _ _ (Ne.symm n_mm_a1)]; exact f35_0
  have f36_1 : g_36 a2 = some (.inl (cI, 360, .inl (fun _ => 0))) := by rw [eg_36, hs_n _ _ (Ne.symm n_mm_a2)]; exact f35_1
  have f36_2 : g_36 a3 = some (.inl (cI, 60, .inl (fun _ => 0))) := by rw [eg_36, hs_n _ _ (Ne.symm n_mm_a3)]; exact f35_2
  have f36_3 : g_36 a4 = some (.inl (cI, 60, .inl (fun _ => 0))) := by rw [eg_36, hs_n _ _ (Ne.symm n_mm_a4)]; exact f35_3
  have f36_4 : g_36 a5 = some (.inl (cI, 3721, .inl (fun _ => 0))) := by rw [eg_36, hs_n _ _ (Ne.symm n_mm_a5)]; exact f35_4
  have f36_5 : g_36 a6 = some (.inl (cI, 60, .inl (fun _ => 0))) := by rw [eg_36, hs_n _ _ (Ne.symm n_mm_a6)]; exact f35_5
  have f36_6 : g_36 a7 = some (.inl (cI, 60, .inl (fun _ => 0))) := by rw [eg_36, hs_n _ _ (Ne.symm n_mm_a7)]; exact f35_6
  have f36_7 : g_36 a8 = some (.inl (cI, 60, .inl (fun _ => 0))) := by rw [eg_36, hs_n _ _ (Ne.symm n_mm_a8)]; exact f35_7
  have f36_8 : g_36 a9 = some (.inl (cI, 250, .inl (fun _ => 0))) := by rw [eg_36, hs_n _ _ (Ne.symm n_mm_a9)]; exact f35_8
  have f36_9 : g_36 a10 = some (.inl (cI, 250, .inl (fun _ => 0))) := by rw [eg_36, hs_n _ _ (Ne.symm n_mm_a10)]; exact f35_9
  have f36_10 : g_36 a11 = some (.inl (cI, 60, .inl (fun _ => 0))) := by rw [eg_36, hs_n _ _ (Ne.symm n_mm_a11)]; exact f35_10
  have f36_11 : g_36 a12 = some (.inl (cI, 60, .inl (fun _ => 0))) := by rw [eg_36, hs_n _ _ (Ne.symm n_mm_a12)]; exact f35_11
  have f36_12 : g_36 a13 = some (.inl (cI, 60, .inl (fun _ => 0))) := by rw [eg_36, hs_n _ _ (Ne.symm n_mm_a13)]; exact f35_12
  have f36_13 : g_36 a14 = some (.inl (cI, 400, .inl (fun _ => 0))) := by rw [eg_36, hs_n _ _ (Ne.symm n_mm_a14)]; exact f35_13
  have f36_14 : g_36 a15 = some (.inl (cI, 400, .inl (fun _ => 0))) := by rw [eg_36, hs_n _ _ (Ne.symm n_mm_a15)]; exact f35_14
  have f36_15 : g_36 a16 = some (.inl (cI, 30, .inl (fun _ => 0))) := by rw [eg_36, hs_n _ _ (Ne.symm n_mm_a16)]; exact f35_15
  have f36_16 : g_36 a17 = some (.inl (cI, 1800, .inl (fun _ => 0))) := by rw [eg_36, hs_n _ _ (Ne.symm n_mm_a17)]; exact f35_16
  have f36_17 : g_36 a18 = some (.inl (cI, 1800, .inl (fun _ => 0))) := by rw [eg_36, hs_n _ _ (Ne.symm n_mm_a18)]; exact f35_18
  have f36_18 : g_36 mm = some (.inr (8, [.int (nI 0), .ref a1, .ref a2, .int (nI 0), .int (nI 0), .ref a3, .ref a4, .ref a5, .ref a6, .int (nI 0), .ref a7, .ref a8, .int (nI 0), .ref a9, .int (nI 0), .ref a10, .int (nI 0), .int (nI 0), .ref a11, .ref a12, .ref a13, .int (nI 0), .ref a14, .int (nI 0), .ref a15, .int (nI 0), .ref a16, .ref a17, .ref a18])) := by rw [eg_36]; exact hs_s _ _ _
  have fr := fr.put eg_36 (by simp)
  have nd17 : ([a18] : List Nat).Nodup := nd_c h_n0 nd_n
  have nd16 : ([a17, a18] : List Nat).Nodup := nd_c (h_nm n_a17_a18 h_n0) nd17
  have nd15 : ([a16, a17, a18] : List Nat).Nodup := nd_c (h_nm n_a16_a17 (h_nm n_a16_a18 h_n0)) nd16
  have nd14 : ([a15, a16, a17, a18] : List Nat).Nodup := nd_c (h_nm n_a15_a16 (h_nm n_a15_a17 (h_nm n_a15_a18 h_n0))) nd15
  have nd13 : ([a14, a15, a16, a17, a18] : List Nat).Nodup := nd_c (h_nm n_a14_a15 (h_nm n_a14_a16 (h_nm n_a14_a17 (h_nm n_a14_a18 h_n0)))) nd14
  have nd12 : ([a13, a14, a15, a16, a17, a18] : List Nat).Nodup := nd_c (h_nm n_a13_a14 (h_nm n_a13_a15 (h_nm n_a13_a16 (h_nm n_a13_a17 (h_nm n_a13_a18 h_n0))))) nd13
  have nd11 : ([a12, a13, a14, a15, a16, a17, a18] : List Nat).Nodup := nd_c (h_nm n_a12_a13 (h_nm n_a12_a14 (h_nm n_a12_a15 (h_nm n_a12_a16 (h_nm n_a12_a17 (h_nm n_a12_a18 h_n0)))))) nd12
  have nd10 : ([a11, a12, a13, a14, a15, a16, a17, a18] : List Nat).Nodup := nd_c (h_nm n_a11_a12 (h_nm n_a11_a13 (h_nm n_a11_a14 (h_nm n_a11_a15 (h_nm n_a11_a16 (h_nm n_a11_a17 (h_nm n_a11_a18 h_n0))))))) nd11
  have nd9 : ([a10, a11, a12, a13, a14, a15, a16, a17, a18] : List Nat).Nodup := nd_c (h_nm n_a10_a11 (h_nm n_a10_a12 (h_nm n_a10_a13 (h_nm n_a10_a14 (h_nm n_a10_a15 (h_nm n_a10_a16 (h_nm n_a10_a17 (h_nm n_a10_a18 h_n0)))))))) nd10
  have nd8 : ([a9, a10, a11, a12, a13, a14, a15, a16, a17, a18] : List Nat).Nodup := nd_c (h_nm n_a9_a10 (h_nm n_a9_a11 (h_nm n_a9_a12 (h_nm n_a9_a13 (h_nm n_a9_a14 (h_nm n_a9_a15 (h_nm n_a9_a16 (h_nm n_a9_a17 (h_nm n_a9_a18 h_n0))))))))) nd9
  have nd7 : ([a8, a9, a10, a11, a12, a13, a14, a15, a16, a17, a18] : List Nat).Nodup := nd_c (h_nm n_a8_a9 (h_nm n_a8_a10 (h_nm n_a8_a11 (h_nm n_a8_a12 (h_nm n_a8_a13 (h_nm n_a8_a14 (h_nm n_a8_a15 (h_nm n_a8_a16 (h_nm n_a8_a17 (h_nm n_a8_a18 h_n0)))))))))) nd8
  have nd6 : ([a7, a8, a9, a10, a11, a12, a13, a14, a15, a16, a17, a18] : List Nat).Nodup := nd_c (h_nm n_a7_a8 (h_nm n_a7_a9 (h_nm n_a7_a10 (h_nm n_a7_a11 (h_nm n_a7_a12 (h_nm n_a7_a13 (h_nm n_a7_a14 (h_nm n_a7_a15 (h_nm n_a7_a16 (h_nm n_a7_a17 (h_nm n_a7_a18 h_n0))))))))))) nd7
  have nd5 : ([a6, a7, a8, a9, a10, a11, a12, a13, a14, a15, a16, a17, a18] : List Nat).Nodup := nd_c (h_nm n_a6_a7 (h_nm n_a6_a8 (h_nm n_a6_a9 (h_nm n_a6_a10 (h_nm n_a6_a11 (h_nm n_a6_a12 (h_nm n_a6_a13 (h_nm n_a6_a14 (h_nm n_a6_a15 (h_nm n_a6_a16 (h_nm n_a6_a17 (h_nm n_a6_a18 h_n0)))))))))))) nd6
  have nd4 : ([a5, a6, a7, a8, a9, a10, a11, a12, a13, a14, a15, a16, a17, a18] : List Nat).Nodup := nd_c (h_nm n_a5_a6 (h_nm n_a5_a7 (h_nm n_a5_a8 (h_nm n_a5_a9 (h_nm n_a5_a10 (h_nm n_a5_a11 (h_nm n_a5_a12 (h_nm n_a5_a13 (h_nm n_a5_a14 (h_nm n_a5_a15 (h_nm n_a5_a16 (h_nm n_a5_a17 (h_nm n_a5_a18 h_n0))))))))))))) nd5
  have nd3 : ([a4, a5, a6, a7, a8, a9, a10, a11, a12, a13, a14, a15, a16, a17, a18] : List Nat).Nodup := nd_c (h_nm n_a4_a5 (h_nm n_a4_a6 (h_nm n_a4_a7 (h_nm n_a4_a8 (h_nm n_a4_a9 (h_nm n_a4_a10 (h_nm n_a4_a11 (h_nm n_a4_a12 (h_nm n_a4_a13 (h_nm n_a4_a14 (h_nm n_a4_a15 (h_nm n_a4_a16 (h_nm n_a4_a17 (h_nm n_a4_a18 h_n0)))))))))))))) nd4
  have nd2 : ([a3, a4, a5, a6, a7, a8, a9, a10, a11, a12, a13, a14, a15, a16, a17, a18] : List Nat).Nodup := nd_c (h_nm n_a3_a4 (h_nm n_a3_a5 (h_nm n_a3_a6 (h_nm n_a3_a7 (h_nm n_a3_a8 (h_nm n_a3_a9 (h_nm n_a3_a10 (h_nm n_a3_a11 (h_nm n_a3_a12 (h_nm n_a3_a13 (h_nm n_a3_a14 (h_nm n_a3_a15 (h_nm n_a3_a16 (h_nm n_a3_a17 (h_nm n_a3_a18 h_n0))))))))))))))) nd3
  have nd1 : ([a2, a3, a4, a5, a6, a7, a8, a9, a10, a11, a12, a13, a14, a15, a16, a17, a18] : List Nat).Nodup := nd_c (h_nm n_a2_a3 (h_nm n_a2_a4 (h_nm n_a2_a5 (h_nm n_a2_a6 (h_nm n_a2_a7 (h_nm n_a2_a8 (h_nm n_a2_a9 (h_nm n_a2_a10 (h_nm n_a2_a11 (h_nm n_a2_a12 (h_nm n_a2_a13 (h_nm n_a2_a14 (h_nm n_a2_a15 (h_nm n_a2_a16 (h_nm n_a2_a17 (h_nm n_a2_a18 h_n0)))))))))))))))) nd2
  have nd0 : ([a1, a2, a3, a4, a5, a6, a7, a8, a9, a10, a11, a12, a13, a14, a15, a16, a17, a18] : List Nat).Nodup := nd_c (h_nm n_a1_a2 (h_nm n_a1_a3 (h_nm n_a1_a4 (h_nm n_a1_a5 (h_nm n_a1_a6 (h_nm n_a1_a7 (h_nm n_a1_a8 (h_nm n_a1_a9 (h_nm n_a1_a10 (h_nm n_a1_a11 (h_nm n_a1_a12 (h_nm n_a1_a13 (h_nm n_a1_a14 (h_nm n_a1_a15 (h_nm n_a1_a16 (h_nm n_a1_a17 (h_nm n_a1_a18 h_n0))))))))))))))))) nd1
  have hq : qinj (fun i => ([a1, a2, a3, a4, a5, a6, a7, a8, a9, a10, a11, a12, a13, a14, a15, a16, a17, a18] : List Nat).getD i 0) := fun i j hi hj e => nd_inj nd0 hi hj e
  have hz_ : ∀ i, i < 18 → g (([a1, a2, a3, a4, a5, a6, a7, a8, a9, a10, a11, a12, a13, a14, a15, a16, a17, a18] : List Nat).getD i 0) = none := by
    intro i hi
    match i, hi with
    | 0, _ => exact z_a1
    | 1, _ => exact z_a2
    | 2, _ => exact z_a3
    | 3, _ => exact z_a4
    | 4, _ => exact z_a5
    | 5, _ => exact z_a6
    | 6, _ => exact z_a7
    | 7, _ => exact z_a8
    | 8, _ => exact z_a9
    | 9, _ => exact z_a10
    | 10, _ => exact z_a11
    | 11, _ => exact z_a12
    | 12, _ => exact z_a13
    | 13, _ => exact z_a14
    | 14, _ => exact z_a15
    | 15, _ => exact z_a16
    | 16, _ => exact z_a17
    | 17, _ => exact z_a18
    | i + 18, h => omega
  have hF2 : ∀ i, i < 18 → g_36 (([a1, a2, a3, a4, a5, a6, a7, a8, a9, a10, a11, a12, a13, a14, a15, a16, a17, a18] : List Nat).getD i 0) = some (.inl (cI, mSz i, .inl (fun _ => 0))) := by
    intro i hi
    match i, hi with
    | 0, _ => exact f36_0
    | 1, _ => exact f36_1
    | 2, _ => exact f36_2
    | 3, _ => exact f36_3
    | 4, _ => exact f36_4
    | 5, _ => exact f36_5
    | 6, _ => exact f36_6
    | 7, _ => exact f36_7
    | 8, _ => exact f36_8
    | 9, _ => exact f36_9
    | 10, _ => exact f36_10
    | 11, _ => exact f36_11
    | 12, _ => exact f36_12
    | 13, _ => exact f36_13
    | 14, _ => exact f36_14
    | 15, _ => exact f36_15
    | 16, _ => exact f36_16
    | 17, _ => exact f36_17
    | i + 18, h => omega
  have hrep : repM cI g_36 mm (fun i => ([a1, a2, a3, a4, a5, a6, a7, a8, a9, a10, a11, a12, a13, a14, a15, a16, a17, a18] : List Nat).getD i 0) 0 S00 := ⟨hq, stok0, nI 0, nI 0, nI 0, nI 0, nI 0, nI 0, (fun _ _ => 0), f36_18, hF2, fun r hr => ⟨rfl, Nat.zero_le _, fun k h => absurd h (Nat.not_lt_zero k)⟩, rpN_nil _, rpN_nil _, rpN_nil _, rpN_nil _, fun v h => absurd h (Nat.not_lt_zero v), fun v k h => absurd h (Nat.not_lt_zero v), fun h => absurd h (Nat.lt_irrefl 0)⟩
  exact hend _ _ _ _ _ _ _ (by decide) (by decide) (⟨_, hz_, fr, hrep⟩) hg hS dMM_init_156
