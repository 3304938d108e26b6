/-! THE LAW: what holds at its entry -/
set_option maxRecDepth 20000 in
theorem law_known {s : State} {args : Array Value} (hts : ∀ w ∈ lw_tbl, w.before args s = true) : ∃ (D : va_G) (cI cR cJ : ClassId), va_K D hC (hT cI cR cJ) s := by
  obtain ⟨c0, i0, k0⟩ := u_known (C := RCo) (T := TCo) (N := 4) (n := 4) hts (fun w hw => hB_tbl (inCo w hw)) (hts _ (hB_tbl insCo))
  obtain ⟨c1, i1, k1⟩ := u_known (C := RHu) (T := THu) (N := 3) (n := 3) hts (fun w hw => hB_tbl (inHu w hw)) (hts _ (hB_tbl insHu))
  obtain ⟨c2, i2, k2⟩ := u_known (C := RMg) (T := TMg) (N := 8) (n := 8) hts (fun w hw => hB_tbl (inMg w hw)) (hts _ (hB_tbl insMg))
  obtain ⟨c3, i3, k3⟩ := u_known (C := RPa) (T := TPa) (N := 3) (n := 3) hts (fun w hw => hB_tbl (inPa w hw)) (hts _ (hB_tbl insPa))
  obtain ⟨c4, i4, k4⟩ := u_known (C := RPg) (T := TPg) (N := 3) (n := 3) hts (fun w hw => hB_tbl (inPg w hw)) (hts _ (hB_tbl insPg))
  obtain ⟨c5, i5, k5⟩ := u_known (C := RRo) (T := TRo) (N := 2) (n := 2) hts (fun w hw => hB_tbl (inRo w hw)) (hts _ (hB_tbl insRo))
  obtain ⟨c6, i6, k6⟩ := u_known (C := RVe) (T := TVe) (N := 5) (n := 5) hts (fun w hw => hB_tbl (inVe w hw)) (hts _ (hB_tbl insVe))
  obtain ⟨c7, i7, k7⟩ := u_known (C := RMR) (T := TMR) (N := 7) (n := 7) hts (fun w hw => hB_tbl (inMR w hw)) (hts _ (hB_tbl insMR))
  obtain ⟨c8, i8, k8⟩ := u_known (C := RMM) (T := TMM) (N := 29) (n := 29) hts (fun w hw => hB_tbl (inMM w hw)) (hts _ (hB_tbl insMM))
  obtain ⟨cI, kI, pI, hI1, hI2, hI3⟩ := Cond.arrayClass_spec (hts _ (hB_tbl wI_arr))
  obtain ⟨cJ, kJ, pJ, hJ1, hJ2, hJ3⟩ := Cond.arrayClass_spec (hts _ (hB_tbl wJ_arr))
  obtain ⟨pR, cR, kR, hR1, hR2, hR3, hR4, hR5⟩ := Cond.arrayOver_spec (n := "MergeRows$Row") (hts (Cond.arrayOver (.object "MergeRows$Row")) (List.mem_of_getElem? (i := 52) (by decide +kernel)))
  refine ⟨(fun k => match k with | 0 => c0 | 1 => c1 | 2 => c2 | 3 => c3 | 4 => c4 | 5 => c5 | 6 => c6 | 7 => c7 | 8 => c8 | _ => c0, fun k => match k with | 0 => i0 | 1 => i1 | 2 => i2 | 3 => i3 | 4 => i4 | 5 => i5 | 6 => i6 | 7 => i7 | 8 => i8 | _ => i0), cI, cR, cJ, ?_, ?_⟩
  · intro k q hq
    match k, hq with
    | 0, hq => cases hq; exact k0
    | 1, hq => cases hq; exact k1
    | 2, hq => cases hq; exact k2
    | 3, hq => cases hq; exact k3
    | 4, hq => cases hq; exact k4
    | 5, hq => cases hq; exact k5
    | 6, hq => cases hq; exact k6
    | 7, hq => cases hq; exact k7
    | 8, hq => cases hq; exact k8
    | k + 9, hq => simp at hq
  · intro k q hq
    match k, hq with
    | 0, hq => cases hq; exact ⟨fun n z => ⟨fun k h => (by cases h), kI, hI2, pI, hI3⟩, hI1⟩
    | 1, hq => cases hq; exact ⟨fun n z => ⟨fun k h => (by cases h), kR, hR3, pR, hR4⟩, kR, pR, hR3, hR4, hR1, hR5⟩
    | 2, hq => cases hq; exact ⟨fun n z => ⟨fun k h => (by cases h), kJ, hJ2, pJ, hJ3⟩, hJ1⟩
    | k + 3, hq => simp at hq
set_option maxRecDepth 20000 in
theorem law_X {s : State} {args : Array Value} (hts : ∀ w ∈ lw_tbl, w.before args s = true) (hgv : (Jvm.Cond.and given_1 narrow_1).before args s = true) : hXs s := by
  have hs := flat_of_before _ hgv
  obtain ⟨c7, i7, k7⟩ := u_known (C := RMR) (T := TMR) (N := 7) (n := 7) hts (fun w hw => hB_tbl (inMR w hw)) (hts _ (hB_tbl insMR))
  refine ⟨va_AO.of (hts (Cond.arrayOver (.object "MergeRows$Row")) (List.mem_of_getElem? (i := 52) (by decide +kernel))), ?_, ?_, ?_, ?_⟩
  · intro E hE
    rcases List.mem_cons.mp hE with rfl | hE
    · exact va_Nw.of rfl (hts _ (List.mem_of_getElem? (i := 269) (by decide +kernel)))
    rcases List.mem_cons.mp hE with rfl | hE
    · exact va_Nw.of rfl (hts _ (List.mem_of_getElem? (i := 337) (by decide +kernel)))
    rcases List.mem_cons.mp hE with rfl | hE
    · exact va_Nw.of rfl (hts _ (List.mem_of_getElem? (i := 379) (by decide +kernel)))
    cases hE
  · intro Y hY
    rcases List.mem_cons.mp hY with rfl | hY
    · exact va_Nw.of rfl (hts _ (List.mem_of_getElem? (i := 271) (by decide +kernel)))
    rcases List.mem_cons.mp hY with rfl | hY
    · exact va_Nw.of rfl (hts _ (List.mem_of_getElem? (i := 273) (by decide +kernel)))
    rcases List.mem_cons.mp hY with rfl | hY
    · exact va_Nw.of rfl (hts _ (List.mem_of_getElem? (i := 275) (by decide +kernel)))
    cases hY
  · intro q hq
    rcases List.mem_cons.mp hq with rfl | hq
    · exact va_Nc.of (hs (Cond.not (.castable eU eI)) (by decide +kernel))
    rcases List.mem_cons.mp hq with rfl | hq
    · exact va_Nc.of (hs (Cond.not (.castable eX eI)) (by decide +kernel))
    cases hq
  · intro q hq
    have hcl := k7.2.1
    rcases List.mem_cons.mp hq with rfl | hq
    · have h9 := hts (Cond.stringRef RMR 152 "no such row") (List.mem_of_getElem? (i := 308) (by decide +kernel))
      obtain ⟨_, _, _, a, _, _, _, _, _, hev⟩ := Cond.stringRef_spec hcl h9
      exact ⟨a, vk_R.of h9 hev⟩
    rcases List.mem_cons.mp hq with rfl | hq
    · have h9 := hts (Cond.stringRef RMR 74 "the row is full") (List.mem_of_getElem? (i := 344) (by decide +kernel))
      obtain ⟨_, _, _, a, _, _, _, _, _, hev⟩ := Cond.stringRef_spec hcl h9
      exact ⟨a, vk_R.of h9 hev⟩
    rcases List.mem_cons.mp hq with rfl | hq
    · have h9 := hts (Cond.stringRef RMR 84 "no such line") (List.mem_of_getElem? (i := 386) (by decide +kernel))
      obtain ⟨_, _, _, a, _, _, _, _, _, hev⟩ := Cond.stringRef_spec hcl h9
      exact ⟨a, vk_R.of h9 hev⟩
    rcases List.mem_cons.mp hq with rfl | hq
    · have h9 := hts (Cond.stringRef RMR 96 "no such pair or side") (List.mem_of_getElem? (i := 434) (by decide +kernel))
      obtain ⟨_, _, _, a, _, _, _, _, _, hev⟩ := Cond.stringRef_spec hcl h9
      exact ⟨a, vk_R.of h9 hev⟩
    rcases List.mem_cons.mp hq with rfl | hq
    · have h9 := hts (Cond.stringRef RMR 106 "no such hunk or what") (List.mem_of_getElem? (i := 458) (by decide +kernel))
      obtain ⟨_, _, _, a, _, _, _, _, _, hev⟩ := Cond.stringRef_spec hcl h9
      exact ⟨a, vk_R.of h9 hev⟩
    rcases List.mem_cons.mp hq with rfl | hq
    · have h9 := hts (Cond.stringRef RMR 154 "the row would have too many lines") (List.mem_of_getElem? (i := 521) (by decide +kernel))
      obtain ⟨_, _, _, a, _, _, _, _, _, hev⟩ := Cond.stringRef_spec hcl h9
      exact ⟨a, vk_R.of h9 hev⟩
    rcases List.mem_cons.mp hq with rfl | hq
    · have h9 := hts (Cond.stringRef RMR 125 "no such conflict or what") (List.mem_of_getElem? (i := 534) (by decide +kernel))
      obtain ⟨_, _, _, a, _, _, _, _, _, hev⟩ := Cond.stringRef_spec hcl h9
      exact ⟨a, vk_R.of h9 hev⟩
    rcases List.mem_cons.mp hq with rfl | hq
    · have h9 := hts (Cond.stringRef RMR 136 "there are as many versions as there can be") (List.mem_of_getElem? (i := 569) (by decide +kernel))
      obtain ⟨_, _, _, a, _, _, _, _, _, hev⟩ := Cond.stringRef_spec hcl h9
      exact ⟨a, vk_R.of h9 hev⟩
    rcases List.mem_cons.mp hq with rfl | hq
    · have h9 := hts (Cond.stringRef RMR 143 "no such version") (List.mem_of_getElem? (i := 587) (by decide +kernel))
      obtain ⟨_, _, _, a, _, _, _, _, _, hev⟩ := Cond.stringRef_spec hcl h9
      exact ⟨a, vk_R.of h9 hev⟩
    cases hq
set_option maxRecDepth 20000 in
theorem law_Z {s : State} {args : Array Value} (hts : ∀ w ∈ lw_tbl, w.before args s = true) (hgv : (Jvm.Cond.and given_1 narrow_1).before args s = true) : hZZ (fun q => s.heap.size ≤ q) s s.heap := by
  have hs := flat_of_before _ hgv
  have hini : (Cond.initialized Bundle.tN).before args s = true := hts _ (List.mem_of_getElem? (i := 36) (by decide +kernel))
  exact ⟨vx_Zqof (hts _ (List.mem_of_getElem? (i := 294) (by decide +kernel))) hini (hs (Cond.isRef (.static Bundle.tN "UNASSIGNED_STACK" Bundle.steD)) (by decide +kernel)) (fun a h => Nat.not_le.mpr h), vx_Zqof (hts _ (List.mem_of_getElem? (i := 296) (by decide +kernel))) hini (hs (Cond.isRef (.static Bundle.tN "SUPPRESSED_SENTINEL" Bundle.listD)) (by decide +kernel)) (fun a h => Nat.not_le.mpr h)⟩
theorem and15 (y : Int32) : ∃ n, n < 16 ∧ y &&& nI 15 = nI n := by
  refine ⟨y.toBitVec.toNat &&& 15, Nat.lt_succ_of_le Nat.and_le_right, ?_⟩
  apply Int32.toBitVec_inj.mp
  rw [Int32.toBitVec_and]
  show y.toBitVec &&& BitVec.ofNat 32 15 = BitVec.ofNat 32 (y.toBitVec.toNat &&& 15)
  apply BitVec.eq_of_toNat_eq
  rw [BitVec.toNat_and, BitVec.toNat_ofNat, BitVec.toNat_ofNat]
  have h : y.toBitVec.toNat &&& 15 ≤ 15 := Nat.and_le_right
  rw [Nat.mod_eq_of_lt (show y.toBitVec.toNat &&& 15 < 2 ^ 32 by omega)]
theorem nI_sublt2 {a b x : Nat} (ha : a < 3000) (hb : b < 10) (hx : x < 3000) : nI a - nI b < nI x ↔ a < x + b := by
  rw [nI_subI, iZ_nat, Int32.lt_iff_toInt_lt, iZ_toInt (by omega) (by omega), iZ_toInt (by omega) (by omega)]
  omega
theorem repM.kept {cI : ClassId} {g g1 : Nat → Option va_E} {mm : Nat} {q : Nat → Nat} {t : Nat} {S : ST} (h : repM cI g mm q t S) (hm : g1 mm = g mm) (hk : ∀ i, i < 18 → g1 (q i) = g (q i)) : repM cI g1 mm q t S := by
  obtain ⟨h1, h2, v3, v4, v14, v16, v17, v23, F, h3, hF, hrest⟩ := h
  exact ⟨h1, h2, v3, v4, v14, v16, v17, v23, F, by rw [hm]; exact h3, fun i hi => by rw [hk i hi]; exact hF i hi, hrest⟩
theorem repM0 {cI : ClassId} {g : Nat → Option va_E} {mm : Nat} {q : Nat → Nat} {t : Nat} {S : ST} (h : repM cI g mm q t S) : ∃ fs, g mm = some (.inr (8, fs)) := by
  obtain ⟨h1, h2, v3, v4, v14, v16, v17, v23, F, h3, hF, hrest⟩ := h
  exact ⟨_, h3⟩
theorem repM_q {cI : ClassId} {g : Nat → Option va_E} {mm : Nat} {q : Nat → Nat} {t : Nat} {S : ST} (h : repM cI g mm q t S) : ∀ a ∈ mS mm q, ∃ y, g a = some y := by
  obtain ⟨h1, h2, v3, v4, v14, v16, v17, v23, F, h3, hF, hrest⟩ := h
  intro a ha
  rcases List.mem_cons.mp ha with rfl | ha
  · exact ⟨_, h3⟩
  · have : ∃ i, i < 18 ∧ a = q i := by
      simp only [List.mem_cons, List.not_mem_nil, or_false] at ha
      rcases ha with h | h | h | h | h | h | h | h | h | h | h | h | h | h | h | h | h | h
      all_goals first | exact ⟨0, by decide, h⟩ | exact ⟨1, by decide, h⟩ | exact ⟨2, by decide, h⟩ | exact ⟨3, by decide, h⟩ | exact ⟨4, by decide, h⟩ | exact ⟨5, by decide, h⟩ | exact ⟨6, by decide, h⟩ | exact ⟨7, by decide, h⟩ | exact ⟨8, by decide, h⟩ | exact ⟨9, by decide, h⟩ | exact ⟨10, by decide, h⟩ | exact ⟨11, by decide, h⟩ | exact ⟨12, by decide, h⟩ | exact ⟨13, by decide, h⟩ | exact ⟨14, by decide, h⟩ | exact ⟨15, by decide, h⟩ | exact ⟨16, by decide, h⟩ | exact ⟨17, by decide, h⟩
    obtain ⟨i, hi, rfl⟩ := this
    exact ⟨_, hF i hi⟩
theorem mS_q {mm : Nat} {q : Nat → Nat} {i : Nat} (hi : i < 18) : q i ∈ mS mm q := by
  match i, hi with
  | 0, _ => simp
  | 1, _ => simp
  | 2, _ => simp
  | 3, _ => simp
  | 4, _ => simp
  | 5, _ => simp
  | 6, _ => simp
  | 7, _ => simp
  | 8, _ => simp
  | 9, _ => simp
  | 10, _ => simp
  | 11, _ => simp
  | 12, _ => simp
  | 13, _ => simp
  | 14, _ => simp
  | 15, _ => simp
  | 16, _ => simp
  | 17, _ => simp
  | i + 18, h => omega
theorem repX_x {cI cR : ClassId} {g : Nat → Option va_E} {x : Nat → Nat} {S : ST} (h : repX cI cR g x S) : ∀ a ∈ xS x, ∃ y, g a = some y := by
  obtain ⟨h1, h2, b, F, V, U, z, fq, FR, h3, hO, h4, hr, hrest⟩ := h
  intro a ha
  obtain ⟨i, hi, rfl⟩ := List.mem_map.mp ha
  have hi := List.mem_range.mp hi
  rcases Nat.lt_or_ge i 38 with h9 | h9
  · exact ⟨_, hO i h9⟩
  · rcases Nat.lt_or_ge i 44 with h8 | h8
    · have := (hr (i - 38) (by omega)).1
      rw [show 38 + (i - 38) = i by omega] at this
      exact ⟨_, this⟩
    · have := (hr (i - 44) (by omega)).2.1
      rw [show 44 + (i - 44) = i by omega] at this
      exact ⟨_, this⟩
theorem c_MM_thr (l : Launch) (D : va_G) (cI cR cJ : ClassId) (g : Nat → Option va_E) (sz : Nat) (mm : Nat) (q : Nat → Nat) (t : Nat) (S : ST) (HM : repM cI g mm q t S) : hMi l yMM_thrown cMM_thrown 1 .int (hRm 0 0 0 0) D (hT cI cR cJ) g sz [.ref mm] (fun o g1 => g1 = g ∧ o = nI t) := by
  obtain ⟨hq, hok, v3, v4, v14, v16, v17, v23, F, h0, hF, hrest⟩ := HM
  exact c_MM_thrown l D cI cR cJ g sz mm q hq _ _ _ _ _ _ _ _ _ _ _ h0
section LAWR
variable {p : Program} {l : Launch} {e : Env} {R : Room} {s : State} {m : MethodId} {args : Array Value} {below : List Frame} {meth : Method} {c : Code} {H : Heap} {locs : List Loc} {cells slots : Nat} {Q : State → Prop}
variable {cc : ByteArray} {pc : Nat} {ls : Array Slot} {rest : List Value} {A : Nat → Prop} {H0 : Heap}
theorem hw_sld (hexec : p.tables.exec = Jvm.exec) (hb : c.code = cc) {b L : Nat} {xs : Nat → Int32} (hX : va_X b L xs s H0) (hbl : b < H0.size) (hbA : ¬ A b) (hS : va_S A H0 H locs) {i : Nat} (hi : i < L) (hL : L < 2 ^ 31) (hdg : decode cc pc = .ok (.iaload, 1))
    (kk : W p l e R s m args below meth c H locs cells slots Q (F0 m (pc + 1) ls (.int (xs i) :: rest))) : W p l e R s m args below meth c H locs cells slots Q (F0 m pc ls (.int (nI i) :: .ref b :: rest)) :=
  va_sld hexec hb hX hbl hbA hS (vp_in_nI hi hL) hdg (by rw [nI_clamp (by omega)]; exact kk)
end LAWR
