/-! THE LAW'S WRAPPERS, each -/
theorem repX0 {cI cR : ClassId} {g : Nat → Option va_E} {x : Nat → Nat} {S : ST} (h : repX cI cR g x S) : ∃ fs, g (x 0) = some (.inr (7, fs)) := by
  obtain ⟨_, _, b, F, V, U, z, fq, FR, _, hO, _⟩ := h
  exact ⟨_, hO 0 (by decide)⟩
theorem repX.kept {cI cR : ClassId} {g g1 : Nat → Option va_E} {x : Nat → Nat} {S : ST} (h : repX cI cR g x S) (hk : ∀ i, i < 50 → g1 (x i) = g (x i)) : repX cI cR g1 x S := by
  obtain ⟨h1, h2, b, F, V, U, z, fq, FR, h3, hO, h4, hr, hrest⟩ := h
  exact ⟨h1, h2, b, F, V, U, z, fq, FR, h3, fun i hi => by rw [hk i (by omega)]; exact hO i hi, h4, fun i hi => by rw [hk (38 + i) (by omega), hk (44 + i) (by omega)]; exact hr i hi, hrest⟩
theorem xS_ne {x : Nat → Nat} {q i : Nat} (h : q ∉ xS x) (hi : i < 50) : x i ≠ q := fun e => h (by rw [← e]; exact xS_mem x hi)
set_option maxRecDepth 20000 in
theorem kLa_put : hcW yLa_put cLa_put 5 [(0, 10, 13, 13), (0, 10, 17, 15)] 4 := ⟨hB_in 256 rfl (by decide +kernel), hB_in 26 rfl (by decide +kernel), ⟨by decide +kernel, by decide +kernel, by decide +kernel⟩, hB_in 255 rfl (by decide +kernel)⟩
set_option maxRecDepth 100000 in
set_option maxHeartbeats 4000000 in
theorem c_La_put (l : Launch) (D : va_G) (cI cR cJ : ClassId) (g : Nat → Option va_E) (sz : Nat) (hst : l.stackTraces = false) (x : Nat → Nat) (S : ST) (p0 p1 : Int32) (ou : Nat) (fo : Nat → Int64) (ho : g ou = some (.inl (cJ, 1, .inr (.inl fo)))) (hou : ou ∉ xS x) (HX : repX cI cR g x S) : wMi l yLa_put cLa_put 5 [(0, 10, 13, 13), (0, 10, 17, 15)] (hRm 8 170 5 30) D (hT cI cR cJ) g sz [.ref (x 0), .int p0, .int p1, .ref ou] (fun o g1 => hfr g g1 (ou :: xS x) ∧ repX cI cR g1 x (o_put p0 p1 S).2.2 ∧ o = nI (o_put p0 p1 S).1 ∧ ∃ f1 : Nat → Int64, g1 ou = some (.inl (cJ, 1, .inr (.inl f1))) ∧ ((o_put p0 p1 S).1 = 0 → f1 0 = (o_put p0 p1 S).2.1.toInt64)) := by
  refine wMi_of (by decide +kernel) rfl (Nat.le_of_ble_eq_true rfl) ?_
  intro pX eV RX sX mX argsX belowX methX cX QX AX hR S0 hsz hg hK hS hA0 hx hz htab hend ls hl
  have hl : lv_has ls 5 [(0, .ref (x 0)), (1, .int p0), (2, .int p1), (3, .ref ou)] := hl
  obtain ⟨fs0, hx0⟩ := repX0 HX
  refine lv_aload_n S0.1 S0.2.1 dLa_put_0 rfl (lv_at hl 3 rfl) ?_
  refine lv_iconst (v := nI 0) S0.1 S0.2.1 dLa_put_1 (by decide) ?_
  refine lv_aload_n S0.1 S0.2.1 dLa_put_2 rfl (lv_at hl 0 rfl) ?_
  refine lv_iload_n S0.1 S0.2.1 dLa_put_3 rfl (lv_at hl 1 rfl) ?_
  refine lv_iload_n S0.1 S0.2.1 dLa_put_4 rfl (lv_at hl 2 rfl) ?_
  refine hx_Vi (As := [.int p0, .int p1]) (rest := [.int (nI 0), .ref ou]) S0 hK hg hS hA0 hx hz hx0 rfl (c_MR_put l D cI cR cJ g _ hst x S p0 p1 HX) kMR_put lm_La_7 (hR.call rfl) rfl hl.1 rfl (Nat.le_of_ble_eq_true rfl) dLa_put_5 (hR.new (by decide) (by decide)) (fun E_ ce_ q_ g1 H locs hpx hg hS hq1 hq2 hq3 => ?_) (fun r g1 H locs hp hg hS => ?_)
  · skip
    obtain ⟨frx, hrep, hcode⟩ := hpx
    have ho1 := frx.at hou ho
    rcases hcode with ⟨hc1, hE⟩ | ⟨hc1, hE⟩
    · skip
      subst hE
      refine w_catch1 S0 hx htab rfl (by decide) lk_13 (by decide) hq1 hq2 hq3 ?_
      refine lv_astore (lv' := [(4, .ref q_), (0, .ref (x 0)), (1, .int p0), (2, .int p1), (3, .ref ou)]) S0.1 S0.2.1 dLa_put_13 hl (by decide) rfl (fun ls hl => ?_)
      refine lv_iconst (v := nI 1) S0.1 S0.2.1 dLa_put_15 (by decide) ?_
      exact hend _ _ _ _ _ _ _ _ (by decide) (by decide) rfl (⟨frx.mono (fun q hq => List.mem_cons_of_mem _ hq), hrep, by rw [hc1], fo, ho1, fun h => absurd (hc1.symm.trans h) (by decide)⟩) hg hS dLa_put_16
    · skip
      subst hE
      refine w_catch2 S0 hx htab rfl (by decide) (by decide) lk_13 lk_15 (by decide) (by decide) hq1 hq2 hq3 ?_
      refine lv_astore (lv' := [(4, .ref q_), (0, .ref (x 0)), (1, .int p0), (2, .int p1), (3, .ref ou)]) S0.1 S0.2.1 dLa_put_17 hl (by decide) rfl (fun ls hl => ?_)
      refine lv_iconst (v := nI 2) S0.1 S0.2.1 dLa_put_19 (by decide) ?_
      exact hend _ _ _ _ _ _ _ _ (by decide) (by decide) rfl (⟨frx.mono (fun q hq => List.mem_cons_of_mem _ hq), hrep, by rw [hc1], fo, ho1, fun h => absurd (hc1.symm.trans h) (by decide)⟩) hg hS dLa_put_20
  obtain ⟨frx, hrep, hc0, hr⟩ := hp
  have ho1 := frx.at hou ho
  refine lv_i2l (v := (r).toInt64) S0.1 S0.2.1 dLa_put_8 rfl ?_
  refine hw_last S0 hK hg hS ho1 2 rfl (by omega) (by omega) dLa_put_9 (fun H locs hg hS => ?_)
  obtain ⟨g_1, eg_1⟩ : ∃ z, z = hs g1 ou (.inl (cJ, 1, .inr (.inl (vp_updL fo 0 ((r).toInt64))))) := ⟨_, rfl⟩
  have hg : hw D hC AX g_1 H := by rw [eg_1]; exact hg
  have f1_0 : g_1 ou = some (.inl (cJ, 1, .inr (.inl (vp_updL fo 0 ((r).toInt64))))) := by rw [eg_1]; exact hs_s _ _ _
  refine lv_goto (tgt := 21) S0.1 S0.2.1 dLa_put_10 (by decide) ?_
  refine lv_iconst (v := nI 0) S0.1 S0.2.1 dLa_put_21 (by decide) ?_
  have hrep2 : repX cI cR g_1 x (o_put p0 p1 S).2.2 := hrep.kept (fun i hi => by rw [eg_1, hs_n _ _ (xS_ne hou hi)])
  have fr2 : hfr g g_1 (ou :: xS x) := fun q hq => by rw [eg_1, hs_n _ _ (fun e => hq (by rw [e]; exact List.mem_cons_self))]; exact frx q (fun h => hq (List.mem_cons_of_mem _ h))
  exact hend _ _ _ _ _ _ _ _ (by decide) (by decide) rfl (⟨fr2, hrep2, by rw [hc0], _, f1_0, fun _ => by rw [← hr]; exact if_pos rfl⟩) hg hS dLa_put_22
set_option maxRecDepth 20000 in
theorem kLa_clear : hcW yLa_clear cLa_clear 3 [(0, 5, 8, 13)] 2 := ⟨hB_in 357 rfl (by decide +kernel), hB_in 26 rfl (by decide +kernel), ⟨by decide +kernel, by decide +kernel, by decide +kernel⟩, hB_in 356 rfl (by decide +kernel)⟩
theorem n2_clear (p0 : Int32) (S : ST) : (o_clear p0 S).1 ≠ 2 := by
  unfold o_clear
  split <;> simp
set_option maxRecDepth 100000 in
set_option maxHeartbeats 4000000 in
theorem c_La_clear (l : Launch) (D : va_G) (cI cR cJ : ClassId) (g : Nat → Option va_E) (sz : Nat) (hst : l.stackTraces = false) (x : Nat → Nat) (S : ST) (p0 : Int32) (HX : repX cI cR g x S) : wMi l yLa_clear cLa_clear 3 [(0, 5, 8, 13)] (hRm 8 170 5 30) D (hT cI cR cJ) g sz [.ref (x 0), .int p0] (fun o g1 => hfr g g1 (xS x) ∧ repX cI cR g1 x (o_clear p0 S).2.2 ∧ o = nI (o_clear p0 S).1) := by
  refine wMi_of (by decide +kernel) rfl (Nat.le_of_ble_eq_true rfl) ?_
  intro pX eV RX sX mX argsX belowX methX cX QX AX hR S0 hsz hg hK hS hA0 hx hz htab hend ls hl
  have hl : lv_has ls 3 [(0, .ref (x 0)), (1, .int p0)] := hl
  obtain ⟨fs0, hx0⟩ := repX0 HX
  refine lv_aload_n S0.1 S0.2.1 dLa_clear_0 rfl (lv_at hl 0 rfl) ?_
  refine lv_iload_n S0.1 S0.2.1 dLa_clear_1 rfl (lv_at hl 1 rfl) ?_
  refine hx_Vv (As := [.int p0]) (rest := []) S0 hK hg hS hA0 hx hz hx0 rfl (c_MR_clear l D cI cR cJ g _ hst x S p0 HX) kMR_clear lm_La_17 (hR.call rfl) rfl hl.1 rfl (Nat.le_of_ble_eq_true rfl) dLa_clear_2 (hR.new (by decide) (by decide)) (fun E_ ce_ q_ g1 H locs hpx hg hS hq1 hq2 hq3 => ?_) (fun g1 H locs hp hg hS => ?_)
  · skip
    obtain ⟨frx, hrep, hcode⟩ := hpx
    rcases hcode with ⟨hc1, hE⟩ | ⟨hc1, hE⟩
    · skip
      subst hE
      refine w_catch1 S0 hx htab rfl (by decide) lk_13 (by decide) hq1 hq2 hq3 ?_
      refine lv_astore_n (lv' := [(2, .ref q_), (0, .ref (x 0)), (1, .int p0)]) S0.1 S0.2.1 dLa_clear_8 rfl hl (by decide) rfl (fun ls hl => ?_)
      refine lv_iconst (v := nI 1) S0.1 S0.2.1 dLa_clear_9 (by decide) ?_
      exact hend _ _ _ _ _ _ _ _ (by decide) (by decide) rfl (⟨frx, hrep, by rw [hc1]⟩) hg hS dLa_clear_10
    · skip
      exact absurd hc1 (n2_clear p0 S)
  obtain ⟨frx, hrep, hc0⟩ := hp
  refine lv_goto (tgt := 11) S0.1 S0.2.1 dLa_clear_5 (by decide) ?_
  refine lv_iconst (v := nI 0) S0.1 S0.2.1 dLa_clear_11 (by decide) ?_
  exact hend _ _ _ _ _ _ _ _ (by decide) (by decide) rfl (⟨frx, hrep, by rw [hc0]⟩) hg hS dLa_clear_12
set_option maxRecDepth 20000 in
theorem kLa_size : hcW yLa_size cLa_size 4 [(0, 9, 12, 13)] 3 := ⟨hB_in 364 rfl (by decide +kernel), hB_in 26 rfl (by decide +kernel), ⟨by decide +kernel, by decide +kernel, by decide +kernel⟩, hB_in 363 rfl (by decide +kernel)⟩
theorem n2_size (p0 : Int32) (S : ST) : (o_size p0 S).1 ≠ 2 := by
  unfold o_size
  split <;> simp
set_option maxRecDepth 100000 in
set_option maxHeartbeats 4000000 in
theorem c_La_size (l : Launch) (D : va_G) (cI cR cJ : ClassId) (g : Nat → Option va_E) (sz : Nat) (hst : l.stackTraces = false) (x : Nat → Nat) (S : ST) (p0 : Int32) (ou : Nat) (fo : Nat → Int64) (ho : g ou = some (.inl (cJ, 1, .inr (.inl fo)))) (hou : ou ∉ xS x) (HX : repX cI cR g x S) : wMi l yLa_size cLa_size 4 [(0, 9, 12, 13)] (hRm 8 170 5 30) D (hT cI cR cJ) g sz [.ref (x 0), .int p0, .ref ou] (fun o g1 => hfr g g1 (ou :: xS x) ∧ repX cI cR g1 x (o_size p0 S).2.2 ∧ o = nI (o_size p0 S).1 ∧ ∃ f1 : Nat → Int64, g1 ou = some (.inl (cJ, 1, .inr (.inl f1))) ∧ ((o_size p0 S).1 = 0 → f1 0 = (o_size p0 S).2.1.toInt64)) := by
  refine wMi_of (by decide +kernel) rfl (Nat.le_of_ble_eq_true rfl) ?_
  intro pX eV RX sX mX argsX belowX methX cX QX AX hR S0 hsz hg hK hS hA0 hx hz htab hend ls hl
  have hl : lv_has ls 4 [(0, .ref (x 0)), (1, .int p0), (2, .ref ou)] := hl
  obtain ⟨fs0, hx0⟩ := repX0 HX
  refine lv_aload_n S0.1 S0.2.1 dLa_size_0 rfl (lv_at hl 2 rfl) ?_
  refine lv_iconst (v := nI 0) S0.1 S0.2.1 dLa_size_1 (by decide) ?_
  refine lv_aload_n S0.1 S0.2.1 dLa_size_2 rfl (lv_at hl 0 rfl) ?_
  refine lv_iload_n S0.1 S0.2.1 dLa_size_3 rfl (lv_at hl 1 rfl) ?_
  refine hx_Vi (As := [.int p0]) (rest := [.int (nI 0), .ref ou]) S0 hK hg hS hA0 hx hz hx0 rfl (c_MR_size l D cI cR cJ g _ hst x S p0 HX) kMR_size lm_La_21 (hR.call rfl) rfl hl.1 rfl (Nat.le_of_ble_eq_true rfl) dLa_size_4 (hR.new (by decide) (by decide)) (fun E_ ce_ q_ g1 H locs hpx hg hS hq1 hq2 hq3 => ?_) (fun r g1 H locs hp hg hS => ?_)
  · skip
    obtain ⟨frx, hrep, hcode⟩ := hpx
    have ho1 := frx.at hou ho
    rcases hcode with ⟨hc1, hE⟩ | ⟨hc1, hE⟩
    · skip
      subst hE
      refine w_catch1 S0 hx htab rfl (by decide) lk_13 (by decide) hq1 hq2 hq3 ?_
      refine lv_astore_n (lv' := [(3, .ref q_), (0, .ref (x 0)), (1, .int p0), (2, .ref ou)]) S0.1 S0.2.1 dLa_size_12 rfl hl (by decide) rfl (fun ls hl => ?_)
      refine lv_iconst (v := nI 1) S0.1 S0.2.1 dLa_size_13 (by decide) ?_
      exact hend _ _ _ _ _ _ _ _ (by decide) (by decide) rfl (⟨frx.mono (fun q hq => List.mem_cons_of_mem _ hq), hrep, by rw [hc1], fo, ho1, fun h => absurd (hc1.symm.trans h) (by decide)⟩) hg hS dLa_size_14
    · skip
      exact absurd hc1 (n2_size p0 S)
  obtain ⟨frx, hrep, hc0, hr⟩ := hp
  have ho1 := frx.at hou ho
  refine lv_i2l (v := (r).toInt64) S0.1 S0.2.1 dLa_size_7 rfl ?_
  refine hw_last S0 hK hg hS ho1 2 rfl (by omega) (by omega) dLa_size_8 (fun H locs hg hS => ?_)
  obtain ⟨g_1, eg_1⟩ : ∃ z, z = hs g1 ou (.inl (cJ, 1, .inr (.inl (vp_updL fo 0 ((r).toInt64))))) := ⟨_, rfl⟩
  have hg : hw D hC AX g_1 H := by rw [eg_1]; exact hg
  have f1_0 : g_1 ou = some (.inl (cJ, 1, .inr (.inl (vp_updL fo 0 ((r).toInt64))))) := by rw [eg_1]; exact hs_s _ _ _
  refine lv_goto (tgt := 15) S0.1 S0.2.1 dLa_size_9 (by decide) ?_
  refine lv_iconst (v := nI 0) S0.1 S0.2.1 dLa_size_15 (by decide) ?_
  have hrep2 : repX cI cR g_1 x (o_size p0 S).2.2 := hrep.kept (fun i hi => by rw [eg_1, hs_n _ _ (xS_ne hou hi)])
  have fr2 : hfr g g_1 (ou :: xS x) := fun q hq => by rw [eg_1, hs_n _ _ (fun e => hq (by rw [e]; exact List.mem_cons_self))]; exact frx q (fun h => hq (List.mem_cons_of_mem _ h))
  exact hend _ _ _ _ _ _ _ _ (by decide) (by decide) rfl (⟨fr2, hrep2, by rw [hc0], _, f1_0, fun _ => by rw [← hr]; exact if_pos rfl⟩) hg hS dLa_size_16
set_option maxRecDepth 20000 in
theorem kLa_get : hcW yLa_get cLa_get 5 [(0, 10, 13, 13), (0, 10, 17, 28)] 4 := ⟨hB_in 371 rfl (by decide +kernel), hB_in 26 rfl (by decide +kernel), ⟨by decide +kernel, by decide +kernel, by decide +kernel⟩, hB_in 370 rfl (by decide +kernel)⟩
set_option maxRecDepth 100000 in
set_option maxHeartbeats 4000000 in
theorem c_La_get (l : Launch) (D : va_G) (cI cR cJ : ClassId) (g : Nat → Option va_E) (sz : Nat) (hst : l.stackTraces = false) (x : Nat → Nat) (S : ST) (p0 p1 : Int32) (ou : Nat) (fo : Nat → Int64) (ho : g ou = some (.inl (cJ, 1, .inr (.inl fo)))) (hou : ou ∉ xS x) (HX : repX cI cR g x S) : wMi l yLa_get cLa_get 5 [(0, 10, 13, 13), (0, 10, 17, 28)] (hRm 8 170 5 30) D (hT cI cR cJ) g sz [.ref (x 0), .int p0, .int p1, .ref ou] (fun o g1 => hfr g g1 (ou :: xS x) ∧ repX cI cR g1 x (o_get p0 p1 S).2.2 ∧ o = nI (o_get p0 p1 S).1 ∧ ∃ f1 : Nat → Int64, g1 ou = some (.inl (cJ, 1, .inr (.inl f1))) ∧ ((o_get p0 p1 S).1 = 0 → f1 0 = (o_get p0 p1 S).2.1.toInt64)) := by
  refine wMi_of (by decide +kernel) rfl (Nat.le_of_ble_eq_true rfl) ?_
  intro pX eV RX sX mX argsX belowX methX cX QX AX hR S0 hsz hg hK hS hA0 hx hz htab hend ls hl
  have hl : lv_has ls 5 [(0, .ref (x 0)), (1, .int p0), (2, .int p1), (3, .ref ou)] := hl
  obtain ⟨fs0, hx0⟩ := repX0 HX
  refine lv_aload_n S0.1 S0.2.1 dLa_get_0 rfl (lv_at hl 3 rfl) ?_
  refine lv_iconst (v := nI 0) S0.1 S0.2.1 dLa_get_1 (by decide) ?_
  refine lv_aload_n S0.1 S0.2.1 dLa_get_2 rfl (lv_at hl 0 rfl) ?_
  refine lv_iload_n S0.1 S0.2.1 dLa_get_3 rfl (lv_at hl 1 rfl) ?_
  refine lv_iload_n S0.1 S0.2.1 dLa_get_4 rfl (lv_at hl 2 rfl) ?_
  refine hx_Vi (As := [.int p0, .int p1]) (rest := [.int (nI 0), .ref ou]) S0 hK hg hS hA0 hx hz hx0 rfl (c_MR_get l D cI cR cJ g _ hst x S p0 p1 HX) kMR_get lm_La_25 (hR.call rfl) rfl hl.1 rfl (Nat.le_of_ble_eq_true rfl) dLa_get_5 (hR.new (by decide) (by decide)) (fun E_ ce_ q_ g1 H locs hpx hg hS hq1 hq2 hq3 => ?_) (fun r g1 H locs hp hg hS => ?_)
  · skip
    obtain ⟨frx, hrep, hcode⟩ := hpx
    have ho1 := frx.at hou ho
    rcases hcode with ⟨hc1, hE⟩ | ⟨hc1, hE⟩
    · skip
      subst hE
      refine w_catch1 S0 hx htab rfl (by decide) lk_13 (by decide) hq1 hq2 hq3 ?_
      refine lv_astore (lv' := [(4, .ref q_), (0, .ref (x 0)), (1, .int p0), (2, .int p1), (3, .ref ou)]) S0.1 S0.2.1 dLa_get_13 hl (by decide) rfl (fun ls hl => ?_)
      refine lv_iconst (v := nI 1) S0.1 S0.2.1 dLa_get_15 (by decide) ?_
      exact hend _ _ _ _ _ _ _ _ (by decide) (by decide) rfl (⟨frx.mono (fun q hq => List.mem_cons_of_mem _ hq), hrep, by rw [hc1], fo, ho1, fun h => absurd (hc1.symm.trans h) (by decide)⟩) hg hS dLa_get_16
    · skip
      subst hE
      refine w_catch2 S0 hx htab rfl (by decide) (by decide) lk_13 lk_28 (by decide) (by decide) hq1 hq2 hq3 ?_
      refine lv_astore (lv' := [(4, .ref q_), (0, .ref (x 0)), (1, .int p0), (2, .int p1), (3, .ref ou)]) S0.1 S0.2.1 dLa_get_17 hl (by decide) rfl (fun ls hl => ?_)
      refine lv_iconst (v := nI 2) S0.1 S0.2.1 dLa_get_19 (by decide) ?_
      exact hend _ _ _ _ _ _ _ _ (by decide) (by decide) rfl (⟨frx.mono (fun q hq => List.mem_cons_of_mem _ hq), hrep, by rw [hc1], fo, ho1, fun h => absurd (hc1.symm.trans h) (by decide)⟩) hg hS dLa_get_20
  obtain ⟨frx, hrep, hc0, hr⟩ := hp
  have ho1 := frx.at hou ho
  refine lv_i2l (v := (r).toInt64) S0.1 S0.2.1 dLa_get_8 rfl ?_
  refine hw_last S0 hK hg hS ho1 2 rfl (by omega) (by omega) dLa_get_9 (fun H locs hg hS => ?_)
  obtain ⟨g_1, eg_1⟩ : ∃ z, z = hs g1 ou (.inl (cJ, 1, .inr (.inl (vp_updL fo 0 ((r).toInt64))))) := ⟨_, rfl⟩
  have hg : hw D hC AX g_1 H := by rw [eg_1]; exact hg
  have f1_0 : g_1 ou = some (.inl (cJ, 1, .inr (.inl (vp_updL fo 0 ((r).toInt64))))) := by rw [eg_1]; exact hs_s _ _ _
  refine lv_goto (tgt := 21) S0.1 S0.2.1 dLa_get_10 (by decide) ?_
  refine lv_iconst (v := nI 0) S0.1 S0.2.1 dLa_get_21 (by decide) ?_
  have hrep2 : repX cI cR g_1 x (o_get p0 p1 S).2.2 := hrep.kept (fun i hi => by rw [eg_1, hs_n _ _ (xS_ne hou hi)])
  have fr2 : hfr g g_1 (ou :: xS x) := fun q hq => by rw [eg_1, hs_n _ _ (fun e => hq (by rw [e]; exact List.mem_cons_self))]; exact frx q (fun h => hq (List.mem_cons_of_mem _ h))
  exact hend _ _ _ _ _ _ _ _ (by decide) (by decide) rfl (⟨fr2, hrep2, by rw [hc0], _, f1_0, fun _ => by rw [← hr]; exact if_pos rfl⟩) hg hS dLa_get_22
set_option maxRecDepth 20000 in
theorem kLa_common : hcW yLa_common cLa_common 5 [(0, 10, 13, 13)] 4 := ⟨hB_in 395 rfl (by decide +kernel), hB_in 26 rfl (by decide +kernel), ⟨by decide +kernel, by decide +kernel, by decide +kernel⟩, hB_in 394 rfl (by decide +kernel)⟩
theorem n2_common (p0 p1 : Int32) (S : ST) : (o_common p0 p1 S).1 ≠ 2 := by
  unfold o_common
  split <;> simp
set_option maxRecDepth 100000 in
set_option maxHeartbeats 4000000 in
theorem c_La_common (l : Launch) (D : va_G) (cI cR cJ : ClassId) (g : Nat → Option va_E) (sz : Nat) (hst : l.stackTraces = false) (x : Nat → Nat) (S : ST) (p0 p1 : Int32) (ou : Nat) (fo : Nat → Int64) (ho : g ou = some (.inl (cJ, 1, .inr (.inl fo)))) (hou : ou ∉ xS x) (HX : repX cI cR g x S) : wMi l yLa_common cLa_common 5 [(0, 10, 13, 13)] (hRm 8 170 5 30) D (hT cI cR cJ) g sz [.ref (x 0), .int p0, .int p1, .ref ou] (fun o g1 => hfr g g1 (ou :: xS x) ∧ repX cI cR g1 x (o_common p0 p1 S).2.2 ∧ o = nI (o_common p0 p1 S).1 ∧ ∃ f1 : Nat → Int64, g1 ou = some (.inl (cJ, 1, .inr (.inl f1))) ∧ ((o_common p0 p1 S).1 = 0 → f1 0 = (o_common p0 p1 S).2.1.toInt64)) := by
  refine wMi_of (by decide +kernel) rfl (Nat.le_of_ble_eq_true rfl) ?_
  intro pX eV RX sX mX argsX belowX methX cX QX AX hR S0 hsz hg hK hS hA0 hx hz htab hend ls hl
  have hl : lv_has ls 5 [(0, .ref (x 0)), (1, .int p0), (2, .int p1), (3, .ref ou)] := hl
  obtain ⟨fs0, hx0⟩ := repX0 HX
  refine lv_aload_n S0.1 S0.2.1 dLa_common_0 rfl (lv_at hl 3 rfl) ?_
  refine lv_iconst (v := nI 0) S0.1 S0.2.1 dLa_common_1 (by decide) ?_
  refine lv_aload_n S0.1 S0.2.1 dLa_common_2 rfl (lv_at hl 0 rfl) ?_
  refine lv_iload_n S0.1 S0.2.1 dLa_common_3 rfl (lv_at hl 1 rfl) ?_
  refine lv_iload_n S0.1 S0.2.1 dLa_common_4 rfl (lv_at hl 2 rfl) ?_
  refine hx_Vi (As := [.int p0, .int p1]) (rest := [.int (nI 0), .ref ou]) S0 hK hg hS hA0 hx hz hx0 rfl (c_MR_common l D cI cR cJ g _ hst x S p0 p1 HX) kMR_common lm_La_30 (hR.call rfl) rfl hl.1 rfl (Nat.le_of_ble_eq_true rfl) dLa_common_5 (hR.new (by decide) (by decide)) (fun E_ ce_ q_ g1 H locs hpx hg hS hq1 hq2 hq3 => ?_) (fun r g1 H locs hp hg hS => ?_)
  · skip
    obtain ⟨frx, hrep, hcode⟩ := hpx
    have ho1 := frx.at hou ho
    rcases hcode with ⟨hc1, hE⟩ | ⟨hc1, hE⟩
    · skip
      subst hE
      refine w_catch1 S0 hx htab rfl (by decide) lk_13 (by decide) hq1 hq2 hq3 ?_
      refine lv_astore (lv' := [(4, .ref q_), (0, .ref (x 0)), (1, .int p0), (2, .int p1), (3, .ref ou)]) S0.1 S0.2.1 dLa_common_13 hl (by decide) rfl (fun ls hl => ?_)
      refine lv_iconst (v := nI 1) S0.1 S0.2.1 dLa_common_15 (by decide) ?_
      exact hend _ _ _ _ _ _ _ _ (by decide) (by decide) rfl (⟨frx.mono (fun q hq => List.mem_cons_of_mem _ hq), hrep, by rw [hc1], fo, ho1, fun h => absurd (hc1.symm.trans h) (by decide)⟩) hg hS dLa_common_16
    · skip
      exact absurd hc1 (n2_common p0 p1 S)
  obtain ⟨frx, hrep, hc0, hr⟩ := hp
  have ho1 := frx.at hou ho
  refine lv_i2l (v := (r).toInt64) S0.1 S0.2.1 dLa_common_8 rfl ?_
  refine hw_last S0 hK hg hS ho1 2 rfl (by omega) (by omega) dLa_common_9 (fun H locs hg hS => ?_)
  obtain ⟨g_1, eg_1⟩ : ∃ z, z = hs g1 ou (.inl (cJ, 1, .inr (.inl (vp_updL fo 0 ((r).toInt64))))) := ⟨_, rfl⟩
  have hg : hw D hC AX g_1 H := by rw [eg_1]; exact hg
  have f1_0 : g_1 ou = some (.inl (cJ, 1, .inr (.inl (vp_updL fo 0 ((r).toInt64))))) := by rw [eg_1]; exact hs_s _ _ _
  refine lv_goto (tgt := 17) S0.1 S0.2.1 dLa_common_10 (by decide) ?_
  refine lv_iconst (v := nI 0) S0.1 S0.2.1 dLa_common_17 (by decide) ?_
  have hrep2 : repX cI cR g_1 x (o_common p0 p1 S).2.2 := hrep.kept (fun i hi => by rw [eg_1, hs_n _ _ (xS_ne hou hi)])
  have fr2 : hfr g g_1 (ou :: xS x) := fun q hq => by rw [eg_1, hs_n _ _ (fun e => hq (by rw [e]; exact List.mem_cons_self))]; exact frx q (fun h => hq (List.mem_cons_of_mem _ h))
  exact hend _ _ _ _ _ _ _ _ (by decide) (by decide) rfl (⟨fr2, hrep2, by rw [hc0], _, f1_0, fun _ => by rw [← hr]; exact if_pos rfl⟩) hg hS dLa_common_18
set_option maxRecDepth 20000 in
theorem kLa_pair : hcW yLa_pair cLa_pair 5 [(0, 10, 13, 28)] 4 := ⟨hB_in 429 rfl (by decide +kernel), hB_in 26 rfl (by decide +kernel), ⟨by decide +kernel, by decide +kernel, by decide +kernel⟩, hB_in 428 rfl (by decide +kernel)⟩
theorem n2_pair (p0 p1 : Int32) (S : ST) : (o_pair p0 p1 S).1 ≠ 2 := by
  unfold o_pair
  split <;> simp
set_option maxRecDepth 100000 in
set_option maxHeartbeats 4000000 in
theorem c_La_pair (l : Launch) (D : va_G) (cI cR cJ : ClassId) (g : Nat → Option va_E) (sz : Nat) (hst : l.stackTraces = false) (x : Nat → Nat) (S : ST) (p0 p1 : Int32) (ou : Nat) (fo : Nat → Int64) (ho : g ou = some (.inl (cJ, 1, .inr (.inl fo)))) (hou : ou ∉ xS x) (HX : repX cI cR g x S) : wMi l yLa_pair cLa_pair 5 [(0, 10, 13, 28)] (hRm 8 170 5 30) D (hT cI cR cJ) g sz [.ref (x 0), .int p0, .int p1, .ref ou] (fun o g1 => hfr g g1 (ou :: xS x) ∧ repX cI cR g1 x (o_pair p0 p1 S).2.2 ∧ o = nI (o_pair p0 p1 S).1 ∧ ∃ f1 : Nat → Int64, g1 ou = some (.inl (cJ, 1, .inr (.inl f1))) ∧ ((o_pair p0 p1 S).1 = 0 → f1 0 = (o_pair p0 p1 S).2.1.toInt64)) := by
  refine wMi_of (by decide +kernel) rfl (Nat.le_of_ble_eq_true rfl) ?_
  intro pX eV RX sX mX argsX belowX methX cX QX AX hR S0 hsz hg hK hS hA0 hx hz htab hend ls hl
  have hl : lv_has ls 5 [(0, .ref (x 0)), (1, .int p0), (2, .int p1), (3, .ref ou)] := hl
  obtain ⟨fs0, hx0⟩ := repX0 HX
  refine lv_aload_n S0.1 S0.2.1 dLa_pair_0 rfl (lv_at hl 3 rfl) ?_
  refine lv_iconst (v := nI 0) S0.1 S0.2.1 dLa_pair_1 (by decide) ?_
  refine lv_aload_n S0.1 S0.2.1 dLa_pair_2 rfl (lv_at hl 0 rfl) ?_
  refine lv_iload_n S0.1 S0.2.1 dLa_pair_3 rfl (lv_at hl 1 rfl) ?_
  refine lv_iload_n S0.1 S0.2.1 dLa_pair_4 rfl (lv_at hl 2 rfl) ?_
  refine hx_Vi (As := [.int p0, .int p1]) (rest := [.int (nI 0), .ref ou]) S0 hK hg hS hA0 hx hz hx0 rfl (c_MR_pair l D cI cR cJ g _ hst x S p0 p1 HX) kMR_pair lm_La_33 (hR.call rfl) rfl hl.1 rfl (Nat.le_of_ble_eq_true rfl) dLa_pair_5 (hR.new (by decide) (by decide)) (fun E_ ce_ q_ g1 H locs hpx hg hS hq1 hq2 hq3 => ?_) (fun r g1 H locs hp hg hS => ?_)
  · skip
    obtain ⟨frx, hrep, hcode⟩ := hpx
    have ho1 := frx.at hou ho
    rcases hcode with ⟨hc1, hE⟩ | ⟨hc1, hE⟩
    · skip
      subst hE
      refine w_catch1 S0 hx htab rfl (by decide) lk_28 (by decide) hq1 hq2 hq3 ?_
      refine lv_astore (lv' := [(4, .ref q_), (0, .ref (x 0)), (1, .int p0), (2, .int p1), (3, .ref ou)]) S0.1 S0.2.1 dLa_pair_13 hl (by decide) rfl (fun ls hl => ?_)
      refine lv_iconst (v := nI 1) S0.1 S0.2.1 dLa_pair_15 (by decide) ?_
      exact hend _ _ _ _ _ _ _ _ (by decide) (by decide) rfl (⟨frx.mono (fun q hq => List.mem_cons_of_mem _ hq), hrep, by rw [hc1], fo, ho1, fun h => absurd (hc1.symm.trans h) (by decide)⟩) hg hS dLa_pair_16
    · skip
      exact absurd hc1 (n2_pair p0 p1 S)
  obtain ⟨frx, hrep, hc0, hr⟩ := hp
  have ho1 := frx.at hou ho
  refine lv_i2l (v := (r).toInt64) S0.1 S0.2.1 dLa_pair_8 rfl ?_
  refine hw_last S0 hK hg hS ho1 2 rfl (by omega) (by omega) dLa_pair_9 (fun H locs hg hS => ?_)
  obtain ⟨g_1, eg_1⟩ : ∃ z, z = hs g1 ou (.inl (cJ, 1, .inr (.inl (vp_updL fo 0 ((r).toInt64))))) := ⟨_, rfl⟩
  have hg : hw D hC AX g_1 H := by rw [eg_1]; exact hg
  have f1_0 : g_1 ou = some (.inl (cJ, 1, .inr (.inl (vp_updL fo 0 ((r).toInt64))))) := by rw [eg_1]; exact hs_s _ _ _
  refine lv_goto (tgt := 17) S0.1 S0.2.1 dLa_pair_10 (by decide) ?_
  refine lv_iconst (v := nI 0) S0.1 S0.2.1 dLa_pair_17 (by decide) ?_
  have hrep2 : repX cI cR g_1 x (o_pair p0 p1 S).2.2 := hrep.kept (fun i hi => by rw [eg_1, hs_n _ _ (xS_ne hou hi)])
  have fr2 : hfr g g_1 (ou :: xS x) := fun q hq => by rw [eg_1, hs_n _ _ (fun e => hq (by rw [e]; exact List.mem_cons_self))]; exact frx q (fun h => hq (List.mem_cons_of_mem _ h))
  exact hend _ _ _ _ _ _ _ _ (by decide) (by decide) rfl (⟨fr2, hrep2, by rw [hc0], _, f1_0, fun _ => by rw [← hr]; exact if_pos rfl⟩) hg hS dLa_pair_18
set_option maxRecDepth 20000 in
theorem kLa_hunks : hcW yLa_hunks cLa_hunks 5 [(0, 10, 13, 13)] 4 := ⟨hB_in 437 rfl (by decide +kernel), hB_in 26 rfl (by decide +kernel), ⟨by decide +kernel, by decide +kernel, by decide +kernel⟩, hB_in 436 rfl (by decide +kernel)⟩
theorem n2_hunks (p0 p1 : Int32) (S : ST) : (o_hunks p0 p1 S).1 ≠ 2 := by
  unfold o_hunks
  split <;> simp
set_option maxRecDepth 100000 in
set_option maxHeartbeats 4000000 in
theorem c_La_hunks (l : Launch) (D : va_G) (cI cR cJ : ClassId) (g : Nat → Option va_E) (sz : Nat) (hst : l.stackTraces = false) (x : Nat → Nat) (S : ST) (p0 p1 : Int32) (ou : Nat) (fo : Nat → Int64) (ho : g ou = some (.inl (cJ, 1, .inr (.inl fo)))) (hou : ou ∉ xS x) (HX : repX cI cR g x S) : wMi l yLa_hunks cLa_hunks 5 [(0, 10, 13, 13)] (hRm 8 170 5 30) D (hT cI cR cJ) g sz [.ref (x 0), .int p0, .int p1, .ref ou] (fun o g1 => hfr g g1 (ou :: xS x) ∧ repX cI cR g1 x (o_hunks p0 p1 S).2.2 ∧ o = nI (o_hunks p0 p1 S).1 ∧ ∃ f1 : Nat → Int64, g1 ou = some (.inl (cJ, 1, .inr (.inl f1))) ∧ ((o_hunks p0 p1 S).1 = 0 → f1 0 = (o_hunks p0 p1 S).2.1.toInt64)) := by
  refine wMi_of (by decide +kernel) rfl (Nat.le_of_ble_eq_true rfl) ?_
  intro pX eV RX sX mX argsX belowX methX cX QX AX hR S0 hsz hg hK hS hA0 hx hz htab hend ls hl
  have hl : lv_has ls 5 [(0, .ref (x 0)), (1, .int p0), (2, .int p1), (3, .ref ou)] := hl
  obtain ⟨fs0, hx0⟩ := repX0 HX
  refine lv_aload_n S0.1 S0.2.1 dLa_hunks_0 rfl (lv_at hl 3 rfl) ?_
  refine lv_iconst (v := nI 0) S0.1 S0.2.1 dLa_hunks_1 (by decide) ?_
  refine lv_aload_n S0.1 S0.2.1 dLa_hunks_2 rfl (lv_at hl 0 rfl) ?_
  refine lv_iload_n S0.1 S0.2.1 dLa_hunks_3 rfl (lv_at hl 1 rfl) ?_
  refine lv_iload_n S0.1 S0.2.1 dLa_hunks_4 rfl (lv_at hl 2 rfl) ?_
  refine hx_Vi (As := [.int p0, .int p1]) (rest := [.int (nI 0), .ref ou]) S0 hK hg hS hA0 hx hz hx0 rfl (c_MR_hunks l D cI cR cJ g _ hst x S p0 p1 HX) kMR_hunks lm_La_36 (hR.call rfl) rfl hl.1 rfl (Nat.le_of_ble_eq_true rfl) dLa_hunks_5 (hR.new (by decide) (by decide)) (fun E_ ce_ q_ g1 H locs hpx hg hS hq1 hq2 hq3 => ?_) (fun r g1 H locs hp hg hS => ?_)
  · skip
    obtain ⟨frx, hrep, hcode⟩ := hpx
    have ho1 := frx.at hou ho
    rcases hcode with ⟨hc1, hE⟩ | ⟨hc1, hE⟩
    · skip
      subst hE
      refine w_catch1 S0 hx htab rfl (by decide) lk_13 (by decide) hq1 hq2 hq3 ?_
      refine lv_astore (lv' := [(4, .ref q_), (0, .ref (x 0)), (1, .int p0), (2, .int p1), (3, .ref ou)]) S0.1 S0.2.1 dLa_hunks_13 hl (by decide) rfl (fun ls hl => ?_)
      refine lv_iconst (v := nI 1) S0.1 S0.2.1 dLa_hunks_15 (by decide) ?_
      exact hend _ _ _ _ _ _ _ _ (by decide) (by decide) rfl (⟨frx.mono (fun q hq => List.mem_cons_of_mem _ hq), hrep, by rw [hc1], fo, ho1, fun h => absurd (hc1.symm.trans h) (by decide)⟩) hg hS dLa_hunks_16
    · skip
      exact absurd hc1 (n2_hunks p0 p1 S)
  obtain ⟨frx, hrep, hc0, hr⟩ := hp
  have ho1 := frx.at hou ho
  refine lv_i2l (v := (r).toInt64) S0.1 S0.2.1 dLa_hunks_8 rfl ?_
  refine hw_last S0 hK hg hS ho1 2 rfl (by omega) (by omega) dLa_hunks_9 (fun H locs hg hS => ?_)
  obtain ⟨g_1, eg_1⟩ : ∃ z, z = hs g1 ou (.inl (cJ, 1, .inr (.inl (vp_updL fo 0 ((r).toInt64))))) := ⟨_, rfl⟩
  have hg : hw D hC AX g_1 H := by rw [eg_1]; exact hg
  have f1_0 : g_1 ou = some (.inl (cJ, 1, .inr (.inl (vp_updL fo 0 ((r).toInt64))))) := by rw [eg_1]; exact hs_s _ _ _
  refine lv_goto (tgt := 17) S0.1 S0.2.1 dLa_hunks_10 (by decide) ?_
  refine lv_iconst (v := nI 0) S0.1 S0.2.1 dLa_hunks_17 (by decide) ?_
  have hrep2 : repX cI cR g_1 x (o_hunks p0 p1 S).2.2 := hrep.kept (fun i hi => by rw [eg_1, hs_n _ _ (xS_ne hou hi)])
  have fr2 : hfr g g_1 (ou :: xS x) := fun q hq => by rw [eg_1, hs_n _ _ (fun e => hq (by rw [e]; exact List.mem_cons_self))]; exact frx q (fun h => hq (List.mem_cons_of_mem _ h))
  exact hend _ _ _ _ _ _ _ _ (by decide) (by decide) rfl (⟨fr2, hrep2, by rw [hc0], _, f1_0, fun _ => by rw [← hr]; exact if_pos rfl⟩) hg hS dLa_hunks_18
set_option maxRecDepth 20000 in
theorem kLa_hunk : hcW yLa_hunk cLa_hunk 5 [(0, 10, 13, 28)] 4 := ⟨hB_in 453 rfl (by decide +kernel), hB_in 26 rfl (by decide +kernel), ⟨by decide +kernel, by decide +kernel, by decide +kernel⟩, hB_in 452 rfl (by decide +kernel)⟩
theorem n2_hunk (p0 p1 : Int32) (S : ST) : (o_hunk p0 p1 S).1 ≠ 2 := by
  unfold o_hunk
  split <;> simp
set_option maxRecDepth 100000 in
set_option maxHeartbeats 4000000 in
theorem c_La_hunk (l : Launch) (D : va_G) (cI cR cJ : ClassId) (g : Nat → Option va_E) (sz : Nat) (hst : l.stackTraces = false) (x : Nat → Nat) (S : ST) (p0 p1 : Int32) (ou : Nat) (fo : Nat → Int64) (ho : g ou = some (.inl (cJ, 1, .inr (.inl fo)))) (hou : ou ∉ xS x) (HX : repX cI cR g x S) : wMi l yLa_hunk cLa_hunk 5 [(0, 10, 13, 28)] (hRm 8 170 5 30) D (hT cI cR cJ) g sz [.ref (x 0), .int p0, .int p1, .ref ou] (fun o g1 => hfr g g1 (ou :: xS x) ∧ repX cI cR g1 x (o_hunk p0 p1 S).2.2 ∧ o = nI (o_hunk p0 p1 S).1 ∧ ∃ f1 : Nat → Int64, g1 ou = some (.inl (cJ, 1, .inr (.inl f1))) ∧ ((o_hunk p0 p1 S).1 = 0 → f1 0 = (o_hunk p0 p1 S).2.1.toInt64)) := by
  refine wMi_of (by decide +kernel) rfl (Nat.le_of_ble_eq_true rfl) ?_
  intro pX eV RX sX mX argsX belowX methX cX QX AX hR S0 hsz hg hK hS hA0 hx hz htab hend ls hl
  have hl : lv_has ls 5 [(0, .ref (x 0)), (1, .int p0), (2, .int p1), (3, .ref ou)] := hl
  obtain ⟨fs0, hx0⟩ := repX0 HX
  refine lv_aload_n S0.1 S0.2.1 dLa_hunk_0 rfl (lv_at hl 3 rfl) ?_
  refine lv_iconst (v := nI 0) S0.1 S0.2.1 dLa_hunk_1 (by decide) ?_
  refine lv_aload_n S0.1 S0.2.1 dLa_hunk_2 rfl (lv_at hl 0 rfl) ?_
  refine lv_iload_n S0.1 S0.2.1 dLa_hunk_3 rfl (lv_at hl 1 rfl) ?_
  refine lv_iload_n S0.1 S0.2.1 dLa_hunk_4 rfl (lv_at hl 2 rfl) ?_
  refine hx_Vi (As := [.int p0, .int p1]) (rest := [.int (nI 0), .ref ou]) S0 hK hg hS hA0 hx hz hx0 rfl (c_MR_hunk l D cI cR cJ g _ hst x S p0 p1 HX) kMR_hunk lm_La_39 (hR.call rfl) rfl hl.1 rfl (Nat.le_of_ble_eq_true rfl) dLa_hunk_5 (hR.new (by decide) (by decide)) (fun E_ ce_ q_ g1 H locs hpx hg hS hq1 hq2 hq3 => ?_) (fun r g1 H locs hp hg hS => ?_)
  · skip
    obtain ⟨frx, hrep, hcode⟩ := hpx
    have ho1 := frx.at hou ho
    rcases hcode with ⟨hc1, hE⟩ | ⟨hc1, hE⟩
    · skip
      subst hE
      refine w_catch1 S0 hx htab rfl (by decide) lk_28 (by decide) hq1 hq2 hq3 ?_
      refine lv_astore (lv' := [(4, .ref q_), (0, .ref (x 0)), (1, .int p0), (2, .int p1), (3, .ref ou)]) S0.1 S0.2.1 dLa_hunk_13 hl (by decide) rfl (fun ls hl => ?_)
      refine lv_iconst (v := nI 1) S0.1 S0.2.1 dLa_hunk_15 (by decide) ?_
      exact hend _ _ _ _ _ _ _ _ (by decide) (by decide) rfl (⟨frx.mono (fun q hq => List.mem_cons_of_mem _ hq), hrep, by rw [hc1], fo, ho1, fun h => absurd (hc1.symm.trans h) (by decide)⟩) hg hS dLa_hunk_16
    · skip
      exact absurd hc1 (n2_hunk p0 p1 S)
  obtain ⟨frx, hrep, hc0, hr⟩ := hp
  have ho1 := frx.at hou ho
  refine lv_i2l (v := (r).toInt64) S0.1 S0.2.1 dLa_hunk_8 rfl ?_
  refine hw_last S0 hK hg hS ho1 2 rfl (by omega) (by omega) dLa_hunk_9 (fun H locs hg hS => ?_)
  obtain ⟨g_1, eg_1⟩ : ∃ z, z = hs g1 ou (.inl (cJ, 1, .inr (.inl (vp_updL fo 0 ((r).toInt64))))) := ⟨_, rfl⟩
  have hg : hw D hC AX g_1 H := by rw [eg_1]; exact hg
  have f1_0 : g_1 ou = some (.inl (cJ, 1, .inr (.inl (vp_updL fo 0 ((r).toInt64))))) := by rw [eg_1]; exact hs_s _ _ _
  refine lv_goto (tgt := 17) S0.1 S0.2.1 dLa_hunk_10 (by decide) ?_
  refine lv_iconst (v := nI 0) S0.1 S0.2.1 dLa_hunk_17 (by decide) ?_
  have hrep2 : repX cI cR g_1 x (o_hunk p0 p1 S).2.2 := hrep.kept (fun i hi => by rw [eg_1, hs_n _ _ (xS_ne hou hi)])
  have fr2 : hfr g g_1 (ou :: xS x) := fun q hq => by rw [eg_1, hs_n _ _ (fun e => hq (by rw [e]; exact List.mem_cons_self))]; exact frx q (fun h => hq (List.mem_cons_of_mem _ h))
  exact hend _ _ _ _ _ _ _ _ (by decide) (by decide) rfl (⟨fr2, hrep2, by rw [hc0], _, f1_0, fun _ => by rw [← hr]; exact if_pos rfl⟩) hg hS dLa_hunk_18
set_option maxRecDepth 20000 in
theorem kLa_merge : hcW yLa_merge cLa_merge 7 [(0, 14, 17, 13), (0, 14, 21, 15)] 6 := ⟨hB_in 461 rfl (by decide +kernel), hB_in 26 rfl (by decide +kernel), ⟨by decide +kernel, by decide +kernel, by decide +kernel⟩, hB_in 460 rfl (by decide +kernel)⟩
set_option maxRecDepth 100000 in
set_option maxHeartbeats 4000000 in
theorem c_La_merge (l : Launch) (D : va_G) (cI cR cJ : ClassId) (g : Nat → Option va_E) (sz : Nat) (hst : l.stackTraces = false) (x : Nat → Nat) (S : ST) (p0 p1 p2 p3 : Int32) (ou : Nat) (fo : Nat → Int64) (ho : g ou = some (.inl (cJ, 1, .inr (.inl fo)))) (hou : ou ∉ xS x) (HX : repX cI cR g x S) : wMi l yLa_merge cLa_merge 7 [(0, 14, 17, 13), (0, 14, 21, 15)] (hRm 8 170 5 30) D (hT cI cR cJ) g sz [.ref (x 0), .int p0, .int p1, .int p2, .int p3, .ref ou] (fun o g1 => hfr g g1 (ou :: xS x) ∧ repX cI cR g1 x (o_merge p0 p1 p2 p3 S).2.2 ∧ o = nI (o_merge p0 p1 p2 p3 S).1 ∧ ∃ f1 : Nat → Int64, g1 ou = some (.inl (cJ, 1, .inr (.inl f1))) ∧ ((o_merge p0 p1 p2 p3 S).1 = 0 → f1 0 = (o_merge p0 p1 p2 p3 S).2.1.toInt64)) := by
  refine wMi_of (by decide +kernel) rfl (Nat.le_of_ble_eq_true rfl) ?_
  intro pX eV RX sX mX argsX belowX methX cX QX AX hR S0 hsz hg hK hS hA0 hx hz htab hend ls hl
  have hl : lv_has ls 7 [(0, .ref (x 0)), (1, .int p0), (2, .int p1), (3, .int p2), (4, .int p3), (5, .ref ou)] := hl
  obtain ⟨fs0, hx0⟩ := repX0 HX
  refine lv_aload S0.1 S0.2.1 dLa_merge_0 (lv_at hl 5 rfl) ?_
  refine lv_iconst (v := nI 0) S0.1 S0.2.1 dLa_merge_2 (by decide) ?_
  refine lv_aload_n S0.1 S0.2.1 dLa_merge_3 rfl (lv_at hl 0 rfl) ?_
  refine lv_iload_n S0.1 S0.2.1 dLa_merge_4 rfl (lv_at hl 1 rfl) ?_
  refine lv_iload_n S0.1 S0.2.1 dLa_merge_5 rfl (lv_at hl 2 rfl) ?_
  refine lv_iload_n S0.1 S0.2.1 dLa_merge_6 rfl (lv_at hl 3 rfl) ?_
  refine lv_iload S0.1 S0.2.1 dLa_merge_7 (lv_at hl 4 rfl) ?_
  refine hx_Vi (As := [.int p0, .int p1, .int p2, .int p3]) (rest := [.int (nI 0), .ref ou]) S0 hK hg hS hA0 hx hz hx0 rfl (c_MR_merge l D cI cR cJ g _ hst x S p0 p1 p2 p3 HX) kMR_merge lm_La_42 (hR.call rfl) rfl hl.1 rfl (Nat.le_of_ble_eq_true rfl) dLa_merge_9 (hR.new (by decide) (by decide)) (fun E_ ce_ q_ g1 H locs hpx hg hS hq1 hq2 hq3 => ?_) (fun r g1 H locs hp hg hS => ?_)
  · skip
    obtain ⟨frx, hrep, hcode⟩ := hpx
    have ho1 := frx.at hou ho
    rcases hcode with ⟨hc1, hE⟩ | ⟨hc1, hE⟩
    · skip
      subst hE
      refine w_catch1 S0 hx htab rfl (by decide) lk_13 (by decide) hq1 hq2 hq3 ?_
      refine lv_astore (lv' := [(6, .ref q_), (0, .ref (x 0)), (1, .int p0), (2, .int p1), (3, .int p2), (4, .int p3), (5, .ref ou)]) S0.1 S0.2.1 dLa_merge_17 hl (by decide) rfl (fun ls hl => ?_)
      refine lv_iconst (v := nI 1) S0.1 S0.2.1 dLa_merge_19 (by decide) ?_
      exact hend _ _ _ _ _ _ _ _ (by decide) (by decide) rfl (⟨frx.mono (fun q hq => List.mem_cons_of_mem _ hq), hrep, by rw [hc1], fo, ho1, fun h => absurd (hc1.symm.trans h) (by decide)⟩) hg hS dLa_merge_20
    · skip
      subst hE
      refine w_catch2 S0 hx htab rfl (by decide) (by decide) lk_13 lk_15 (by decide) (by decide) hq1 hq2 hq3 ?_
      refine lv_astore (lv' := [(6, .ref q_), (0, .ref (x 0)), (1, .int p0), (2, .int p1), (3, .int p2), (4, .int p3), (5, .ref ou)]) S0.1 S0.2.1 dLa_merge_21 hl (by decide) rfl (fun ls hl => ?_)
      refine lv_iconst (v := nI 2) S0.1 S0.2.1 dLa_merge_23 (by decide) ?_
      exact hend _ _ _ _ _ _ _ _ (by decide) (by decide) rfl (⟨frx.mono (fun q hq => List.mem_cons_of_mem _ hq), hrep, by rw [hc1], fo, ho1, fun h => absurd (hc1.symm.trans h) (by decide)⟩) hg hS dLa_merge_24
  obtain ⟨frx, hrep, hc0, hr⟩ := hp
  have ho1 := frx.at hou ho
  refine lv_i2l (v := (r).toInt64) S0.1 S0.2.1 dLa_merge_12 rfl ?_
  refine hw_last S0 hK hg hS ho1 2 rfl (by omega) (by omega) dLa_merge_13 (fun H locs hg hS => ?_)
  obtain ⟨g_1, eg_1⟩ : ∃ z, z = hs g1 ou (.inl (cJ, 1, .inr (.inl (vp_updL fo 0 ((r).toInt64))))) := ⟨_, rfl⟩
  have hg : hw D hC AX g_1 H := by rw [eg_1]; exact hg
  have f1_0 : g_1 ou = some (.inl (cJ, 1, .inr (.inl (vp_updL fo 0 ((r).toInt64))))) := by rw [eg_1]; exact hs_s _ _ _
  refine lv_goto (tgt := 25) S0.1 S0.2.1 dLa_merge_14 (by decide) ?_
  refine lv_iconst (v := nI 0) S0.1 S0.2.1 dLa_merge_25 (by decide) ?_
  have hrep2 : repX cI cR g_1 x (o_merge p0 p1 p2 p3 S).2.2 := hrep.kept (fun i hi => by rw [eg_1, hs_n _ _ (xS_ne hou hi)])
  have fr2 : hfr g g_1 (ou :: xS x) := fun q hq => by rw [eg_1, hs_n _ _ (fun e => hq (by rw [e]; exact List.mem_cons_self))]; exact frx q (fun h => hq (List.mem_cons_of_mem _ h))
  exact hend _ _ _ _ _ _ _ _ (by decide) (by decide) rfl (⟨fr2, hrep2, by rw [hc0], _, f1_0, fun _ => by rw [← hr]; exact if_pos rfl⟩) hg hS dLa_merge_26
set_option maxRecDepth 20000 in
theorem kLa_conflict : hcW yLa_conflict cLa_conflict 5 [(0, 10, 13, 28)] 4 := ⟨hB_in 529 rfl (by decide +kernel), hB_in 26 rfl (by decide +kernel), ⟨by decide +kernel, by decide +kernel, by decide +kernel⟩, hB_in 528 rfl (by decide +kernel)⟩
theorem n2_conflict (p0 p1 : Int32) (S : ST) : (o_conflict p0 p1 S).1 ≠ 2 := by
  unfold o_conflict
  split <;> simp
set_option maxRecDepth 100000 in
set_option maxHeartbeats 4000000 in
theorem c_La_conflict (l : Launch) (D : va_G) (cI cR cJ : ClassId) (g : Nat → Option va_E) (sz : Nat) (hst : l.stackTraces = false) (x : Nat → Nat) (S : ST) (p0 p1 : Int32) (ou : Nat) (fo : Nat → Int64) (ho : g ou = some (.inl (cJ, 1, .inr (.inl fo)))) (hou : ou ∉ xS x) (HX : repX cI cR g x S) : wMi l yLa_conflict cLa_conflict 5 [(0, 10, 13, 28)] (hRm 8 170 5 30) D (hT cI cR cJ) g sz [.ref (x 0), .int p0, .int p1, .ref ou] (fun o g1 => hfr g g1 (ou :: xS x) ∧ repX cI cR g1 x (o_conflict p0 p1 S).2.2 ∧ o = nI (o_conflict p0 p1 S).1 ∧ ∃ f1 : Nat → Int64, g1 ou = some (.inl (cJ, 1, .inr (.inl f1))) ∧ ((o_conflict p0 p1 S).1 = 0 → f1 0 = (o_conflict p0 p1 S).2.1.toInt64)) := by
  refine wMi_of (by decide +kernel) rfl (Nat.le_of_ble_eq_true rfl) ?_
  intro pX eV RX sX mX argsX belowX methX cX QX AX hR S0 hsz hg hK hS hA0 hx hz htab hend ls hl
  have hl : lv_has ls 5 [(0, .ref (x 0)), (1, .int p0), (2, .int p1), (3, .ref ou)] := hl
  obtain ⟨fs0, hx0⟩ := repX0 HX
  refine lv_aload_n S0.1 S0.2.1 dLa_conflict_0 rfl (lv_at hl 3 rfl) ?_
  refine lv_iconst (v := nI 0) S0.1 S0.2.1 dLa_conflict_1 (by decide) ?_
  refine lv_aload_n S0.1 S0.2.1 dLa_conflict_2 rfl (lv_at hl 0 rfl) ?_
  refine lv_iload_n S0.1 S0.2.1 dLa_conflict_3 rfl (lv_at hl 1 rfl) ?_
  refine lv_iload_n S0.1 S0.2.1 dLa_conflict_4 rfl (lv_at hl 2 rfl) ?_
  refine hx_Vi (As := [.int p0, .int p1]) (rest := [.int (nI 0), .ref ou]) S0 hK hg hS hA0 hx hz hx0 rfl (c_MR_conflict l D cI cR cJ g _ hst x S p0 p1 HX) kMR_conflict lm_La_46 (hR.call rfl) rfl hl.1 rfl (Nat.le_of_ble_eq_true rfl) dLa_conflict_5 (hR.new (by decide) (by decide)) (fun E_ ce_ q_ g1 H locs hpx hg hS hq1 hq2 hq3 => ?_) (fun r g1 H locs hp hg hS => ?_)
  · skip
    obtain ⟨frx, hrep, hcode⟩ := hpx
    have ho1 := frx.at hou ho
    rcases hcode with ⟨hc1, hE⟩ | ⟨hc1, hE⟩
    · skip
      subst hE
      refine w_catch1 S0 hx htab rfl (by decide) lk_28 (by decide) hq1 hq2 hq3 ?_
      refine lv_astore (lv' := [(4, .ref q_), (0, .ref (x 0)), (1, .int p0), (2, .int p1), (3, .ref ou)]) S0.1 S0.2.1 dLa_conflict_13 hl (by decide) rfl (fun ls hl => ?_)
      refine lv_iconst (v := nI 1) S0.1 S0.2.1 dLa_conflict_15 (by decide) ?_
      exact hend _ _ _ _ _ _ _ _ (by decide) (by decide) rfl (⟨frx.mono (fun q hq => List.mem_cons_of_mem _ hq), hrep, by rw [hc1], fo, ho1, fun h => absurd (hc1.symm.trans h) (by decide)⟩) hg hS dLa_conflict_16
    · skip
      exact absurd hc1 (n2_conflict p0 p1 S)
  obtain ⟨frx, hrep, hc0, hr⟩ := hp
  have ho1 := frx.at hou ho
  refine lv_i2l (v := (r).toInt64) S0.1 S0.2.1 dLa_conflict_8 rfl ?_
  refine hw_last S0 hK hg hS ho1 2 rfl (by omega) (by omega) dLa_conflict_9 (fun H locs hg hS => ?_)
  obtain ⟨g_1, eg_1⟩ : ∃ z, z = hs g1 ou (.inl (cJ, 1, .inr (.inl (vp_updL fo 0 ((r).toInt64))))) := ⟨_, rfl⟩
  have hg : hw D hC AX g_1 H := by rw [eg_1]; exact hg
  have f1_0 : g_1 ou = some (.inl (cJ, 1, .inr (.inl (vp_updL fo 0 ((r).toInt64))))) := by rw [eg_1]; exact hs_s _ _ _
  refine lv_goto (tgt := 17) S0.1 S0.2.1 dLa_conflict_10 (by decide) ?_
  refine lv_iconst (v := nI 0) S0.1 S0.2.1 dLa_conflict_17 (by decide) ?_
  have hrep2 : repX cI cR g_1 x (o_conflict p0 p1 S).2.2 := hrep.kept (fun i hi => by rw [eg_1, hs_n _ _ (xS_ne hou hi)])
  have fr2 : hfr g g_1 (ou :: xS x) := fun q hq => by rw [eg_1, hs_n _ _ (fun e => hq (by rw [e]; exact List.mem_cons_self))]; exact frx q (fun h => hq (List.mem_cons_of_mem _ h))
  exact hend _ _ _ _ _ _ _ _ (by decide) (by decide) rfl (⟨fr2, hrep2, by rw [hc0], _, f1_0, fun _ => by rw [← hr]; exact if_pos rfl⟩) hg hS dLa_conflict_18
set_option maxRecDepth 20000 in
theorem kLa_patch : hcW yLa_patch cLa_patch 7 [(0, 14, 17, 13), (0, 14, 21, 15)] 6 := ⟨hB_in 537 rfl (by decide +kernel), hB_in 26 rfl (by decide +kernel), ⟨by decide +kernel, by decide +kernel, by decide +kernel⟩, hB_in 536 rfl (by decide +kernel)⟩
set_option maxRecDepth 100000 in
set_option maxHeartbeats 4000000 in
theorem c_La_patch (l : Launch) (D : va_G) (cI cR cJ : ClassId) (g : Nat → Option va_E) (sz : Nat) (hst : l.stackTraces = false) (x : Nat → Nat) (S : ST) (p0 p1 p2 p3 : Int32) (ou : Nat) (fo : Nat → Int64) (ho : g ou = some (.inl (cJ, 1, .inr (.inl fo)))) (hou : ou ∉ xS x) (HX : repX cI cR g x S) : wMi l yLa_patch cLa_patch 7 [(0, 14, 17, 13), (0, 14, 21, 15)] (hRm 8 170 5 30) D (hT cI cR cJ) g sz [.ref (x 0), .int p0, .int p1, .int p2, .int p3, .ref ou] (fun o g1 => hfr g g1 (ou :: xS x) ∧ repX cI cR g1 x (o_patch p0 p1 p2 p3 S).2.2 ∧ o = nI (o_patch p0 p1 p2 p3 S).1 ∧ ∃ f1 : Nat → Int64, g1 ou = some (.inl (cJ, 1, .inr (.inl f1))) ∧ ((o_patch p0 p1 p2 p3 S).1 = 0 → f1 0 = (o_patch p0 p1 p2 p3 S).2.1.toInt64)) := by
  refine wMi_of (by decide +kernel) rfl (Nat.le_of_ble_eq_true rfl) ?_
  intro pX eV RX sX mX argsX belowX methX cX QX AX hR S0 hsz hg hK hS hA0 hx hz htab hend ls hl
  have hl : lv_has ls 7 [(0, .ref (x 0)), (1, .int p0), (2, .int p1), (3, .int p2), (4, .int p3), (5, .ref ou)] := hl
  obtain ⟨fs0, hx0⟩ := repX0 HX
  refine lv_aload S0.1 S0.2.1 dLa_patch_0 (lv_at hl 5 rfl) ?_
  refine lv_iconst (v := nI 0) S0.1 S0.2.1 dLa_patch_2 (by decide) ?_
  refine lv_aload_n S0.1 S0.2.1 dLa_patch_3 rfl (lv_at hl 0 rfl) ?_
  refine lv_iload_n S0.1 S0.2.1 dLa_patch_4 rfl (lv_at hl 1 rfl) ?_
  refine lv_iload_n S0.1 S0.2.1 dLa_patch_5 rfl (lv_at hl 2 rfl) ?_
  refine lv_iload_n S0.1 S0.2.1 dLa_patch_6 rfl (lv_at hl 3 rfl) ?_
  refine lv_iload S0.1 S0.2.1 dLa_patch_7 (lv_at hl 4 rfl) ?_
  refine hx_Vi (As := [.int p0, .int p1, .int p2, .int p3]) (rest := [.int (nI 0), .ref ou]) S0 hK hg hS hA0 hx hz hx0 rfl (c_MR_patch l D cI cR cJ g _ hst x S p0 p1 p2 p3 HX) kMR_patch lm_La_49 (hR.call rfl) rfl hl.1 rfl (Nat.le_of_ble_eq_true rfl) dLa_patch_9 (hR.new (by decide) (by decide)) (fun E_ ce_ q_ g1 H locs hpx hg hS hq1 hq2 hq3 => ?_) (fun r g1 H locs hp hg hS => ?_)
  · skip
    obtain ⟨frx, hrep, hcode⟩ := hpx
    have ho1 := frx.at hou ho
    rcases hcode with ⟨hc1, hE⟩ | ⟨hc1, hE⟩
    · skip
      subst hE
      refine w_catch1 S0 hx htab rfl (by decide) lk_13 (by decide) hq1 hq2 hq3 ?_
      refine lv_astore (lv' := [(6, .ref q_), (0, .ref (x 0)), (1, .int p0), (2, .int p1), (3, .int p2), (4, .int p3), (5, .ref ou)]) S0.1 S0.2.1 dLa_patch_17 hl (by decide) rfl (fun ls hl => ?_)
      refine lv_iconst (v := nI 1) S0.1 S0.2.1 dLa_patch_19 (by decide) ?_
      exact hend _ _ _ _ _ _ _ _ (by decide) (by decide) rfl (⟨frx.mono (fun q hq => List.mem_cons_of_mem _ hq), hrep, by rw [hc1], fo, ho1, fun h => absurd (hc1.symm.trans h) (by decide)⟩) hg hS dLa_patch_20
    · skip
      subst hE
      refine w_catch2 S0 hx htab rfl (by decide) (by decide) lk_13 lk_15 (by decide) (by decide) hq1 hq2 hq3 ?_
      refine lv_astore (lv' := [(6, .ref q_), (0, .ref (x 0)), (1, .int p0), (2, .int p1), (3, .int p2), (4, .int p3), (5, .ref ou)]) S0.1 S0.2.1 dLa_patch_21 hl (by decide) rfl (fun ls hl => ?_)
      refine lv_iconst (v := nI 2) S0.1 S0.2.1 dLa_patch_23 (by decide) ?_
      exact hend _ _ _ _ _ _ _ _ (by decide) (by decide) rfl (⟨frx.mono (fun q hq => List.mem_cons_of_mem _ hq), hrep, by rw [hc1], fo, ho1, fun h => absurd (hc1.symm.trans h) (by decide)⟩) hg hS dLa_patch_24
  obtain ⟨frx, hrep, hc0, hr⟩ := hp
  have ho1 := frx.at hou ho
  refine lv_i2l (v := (r).toInt64) S0.1 S0.2.1 dLa_patch_12 rfl ?_
  refine hw_last S0 hK hg hS ho1 2 rfl (by omega) (by omega) dLa_patch_13 (fun H locs hg hS => ?_)
  obtain ⟨g_1, eg_1⟩ : ∃ z, z = hs g1 ou (.inl (cJ, 1, .inr (.inl (vp_updL fo 0 ((r).toInt64))))) := ⟨_, rfl⟩
  have hg : hw D hC AX g_1 H := by rw [eg_1]; exact hg
  have f1_0 : g_1 ou = some (.inl (cJ, 1, .inr (.inl (vp_updL fo 0 ((r).toInt64))))) := by rw [eg_1]; exact hs_s _ _ _
  refine lv_goto (tgt := 25) S0.1 S0.2.1 dLa_patch_14 (by decide) ?_
  refine lv_iconst (v := nI 0) S0.1 S0.2.1 dLa_patch_25 (by decide) ?_
  have hrep2 : repX cI cR g_1 x (o_patch p0 p1 p2 p3 S).2.2 := hrep.kept (fun i hi => by rw [eg_1, hs_n _ _ (xS_ne hou hi)])
  have fr2 : hfr g g_1 (ou :: xS x) := fun q hq => by rw [eg_1, hs_n _ _ (fun e => hq (by rw [e]; exact List.mem_cons_self))]; exact frx q (fun h => hq (List.mem_cons_of_mem _ h))
  exact hend _ _ _ _ _ _ _ _ (by decide) (by decide) rfl (⟨fr2, hrep2, by rw [hc0], _, f1_0, fun _ => by rw [← hr]; exact if_pos rfl⟩) hg hS dLa_patch_26
set_option maxRecDepth 20000 in
theorem kLa_commit : hcW yLa_commit cLa_commit 4 [(0, 9, 12, 13), (0, 9, 15, 15)] 3 := ⟨hB_in 564 rfl (by decide +kernel), hB_in 26 rfl (by decide +kernel), ⟨by decide +kernel, by decide +kernel, by decide +kernel⟩, hB_in 563 rfl (by decide +kernel)⟩
set_option maxRecDepth 100000 in
set_option maxHeartbeats 4000000 in
theorem c_La_commit (l : Launch) (D : va_G) (cI cR cJ : ClassId) (g : Nat → Option va_E) (sz : Nat) (hst : l.stackTraces = false) (x : Nat → Nat) (S : ST) (p0 : Int32) (ou : Nat) (fo : Nat → Int64) (ho : g ou = some (.inl (cJ, 1, .inr (.inl fo)))) (hou : ou ∉ xS x) (HX : repX cI cR g x S) : wMi l yLa_commit cLa_commit 4 [(0, 9, 12, 13), (0, 9, 15, 15)] (hRm 8 170 5 30) D (hT cI cR cJ) g sz [.ref (x 0), .int p0, .ref ou] (fun o g1 => hfr g g1 (ou :: xS x) ∧ repX cI cR g1 x (o_commit p0 S).2.2 ∧ o = nI (o_commit p0 S).1 ∧ ∃ f1 : Nat → Int64, g1 ou = some (.inl (cJ, 1, .inr (.inl f1))) ∧ ((o_commit p0 S).1 = 0 → f1 0 = (o_commit p0 S).2.1.toInt64)) := by
  refine wMi_of (by decide +kernel) rfl (Nat.le_of_ble_eq_true rfl) ?_
  intro pX eV RX sX mX argsX belowX methX cX QX AX hR S0 hsz hg hK hS hA0 hx hz htab hend ls hl
  have hl : lv_has ls 4 [(0, .ref (x 0)), (1, .int p0), (2, .ref ou)] := hl
  obtain ⟨fs0, hx0⟩ := repX0 HX
  refine lv_aload_n S0.1 S0.2.1 dLa_commit_0 rfl (lv_at hl 2 rfl) ?_
  refine lv_iconst (v := nI 0) S0.1 S0.2.1 dLa_commit_1 (by decide) ?_
  refine lv_aload_n S0.1 S0.2.1 dLa_commit_2 rfl (lv_at hl 0 rfl) ?_
  refine lv_iload_n S0.1 S0.2.1 dLa_commit_3 rfl (lv_at hl 1 rfl) ?_
  refine hx_Vi (As := [.int p0]) (rest := [.int (nI 0), .ref ou]) S0 hK hg hS hA0 hx hz hx0 rfl (c_MR_commit l D cI cR cJ g _ hst x S p0 HX) kMR_commit lm_La_52 (hR.call rfl) rfl hl.1 rfl (Nat.le_of_ble_eq_true rfl) dLa_commit_4 (hR.new (by decide) (by decide)) (fun E_ ce_ q_ g1 H locs hpx hg hS hq1 hq2 hq3 => ?_) (fun r g1 H locs hp hg hS => ?_)
  · skip
    obtain ⟨frx, hrep, hcode⟩ := hpx
    have ho1 := frx.at hou ho
    rcases hcode with ⟨hc1, hE⟩ | ⟨hc1, hE⟩
    · skip
      subst hE
      refine w_catch1 S0 hx htab rfl (by decide) lk_13 (by decide) hq1 hq2 hq3 ?_
      refine lv_astore_n (lv' := [(3, .ref q_), (0, .ref (x 0)), (1, .int p0), (2, .ref ou)]) S0.1 S0.2.1 dLa_commit_12 rfl hl (by decide) rfl (fun ls hl => ?_)
      refine lv_iconst (v := nI 1) S0.1 S0.2.1 dLa_commit_13 (by decide) ?_
      exact hend _ _ _ _ _ _ _ _ (by decide) (by decide) rfl (⟨frx.mono (fun q hq => List.mem_cons_of_mem _ hq), hrep, by rw [hc1], fo, ho1, fun h => absurd (hc1.symm.trans h) (by decide)⟩) hg hS dLa_commit_14
    · skip
      subst hE
      refine w_catch2 S0 hx htab rfl (by decide) (by decide) lk_13 lk_15 (by decide) (by decide) hq1 hq2 hq3 ?_
      refine lv_astore_n (lv' := [(3, .ref q_), (0, .ref (x 0)), (1, .int p0), (2, .ref ou)]) S0.1 S0.2.1 dLa_commit_15 rfl hl (by decide) rfl (fun ls hl => ?_)
      refine lv_iconst (v := nI 2) S0.1 S0.2.1 dLa_commit_16 (by decide) ?_
      exact hend _ _ _ _ _ _ _ _ (by decide) (by decide) rfl (⟨frx.mono (fun q hq => List.mem_cons_of_mem _ hq), hrep, by rw [hc1], fo, ho1, fun h => absurd (hc1.symm.trans h) (by decide)⟩) hg hS dLa_commit_17
  obtain ⟨frx, hrep, hc0, hr⟩ := hp
  have ho1 := frx.at hou ho
  refine lv_i2l (v := (r).toInt64) S0.1 S0.2.1 dLa_commit_7 rfl ?_
  refine hw_last S0 hK hg hS ho1 2 rfl (by omega) (by omega) dLa_commit_8 (fun H locs hg hS => ?_)
  obtain ⟨g_1, eg_1⟩ : ∃ z, z = hs g1 ou (.inl (cJ, 1, .inr (.inl (vp_updL fo 0 ((r).toInt64))))) := ⟨_, rfl⟩
  have hg : hw D hC AX g_1 H := by rw [eg_1]; exact hg
  have f1_0 : g_1 ou = some (.inl (cJ, 1, .inr (.inl (vp_updL fo 0 ((r).toInt64))))) := by rw [eg_1]; exact hs_s _ _ _
  refine lv_goto (tgt := 18) S0.1 S0.2.1 dLa_commit_9 (by decide) ?_
  refine lv_iconst (v := nI 0) S0.1 S0.2.1 dLa_commit_18 (by decide) ?_
  have hrep2 : repX cI cR g_1 x (o_commit p0 S).2.2 := hrep.kept (fun i hi => by rw [eg_1, hs_n _ _ (xS_ne hou hi)])
  have fr2 : hfr g g_1 (ou :: xS x) := fun q hq => by rw [eg_1, hs_n _ _ (fun e => hq (by rw [e]; exact List.mem_cons_self))]; exact frx q (fun h => hq (List.mem_cons_of_mem _ h))
  exact hend _ _ _ _ _ _ _ _ (by decide) (by decide) rfl (⟨fr2, hrep2, by rw [hc0], _, f1_0, fun _ => by rw [← hr]; exact if_pos rfl⟩) hg hS dLa_commit_19
set_option maxRecDepth 20000 in
theorem kLa_origin : hcW yLa_origin cLa_origin 5 [(0, 10, 13, 13), (0, 10, 17, 28)] 4 := ⟨hB_in 582 rfl (by decide +kernel), hB_in 26 rfl (by decide +kernel), ⟨by decide +kernel, by decide +kernel, by decide +kernel⟩, hB_in 581 rfl (by decide +kernel)⟩
set_option maxRecDepth 100000 in
set_option maxHeartbeats 4000000 in
theorem c_La_origin (l : Launch) (D : va_G) (cI cR cJ : ClassId) (g : Nat → Option va_E) (sz : Nat) (hst : l.stackTraces = false) (x : Nat → Nat) (S : ST) (p0 p1 : Int32) (ou : Nat) (fo : Nat → Int64) (ho : g ou = some (.inl (cJ, 1, .inr (.inl fo)))) (hou : ou ∉ xS x) (HX : repX cI cR g x S) : wMi l yLa_origin cLa_origin 5 [(0, 10, 13, 13), (0, 10, 17, 28)] (hRm 8 170 5 30) D (hT cI cR cJ) g sz [.ref (x 0), .int p0, .int p1, .ref ou] (fun o g1 => hfr g g1 (ou :: xS x) ∧ repX cI cR g1 x (o_origin p0 p1 S).2.2 ∧ o = nI (o_origin p0 p1 S).1 ∧ ∃ f1 : Nat → Int64, g1 ou = some (.inl (cJ, 1, .inr (.inl f1))) ∧ ((o_origin p0 p1 S).1 = 0 → f1 0 = (o_origin p0 p1 S).2.1.toInt64)) := by
  refine wMi_of (by decide +kernel) rfl (Nat.le_of_ble_eq_true rfl) ?_
  intro pX eV RX sX mX argsX belowX methX cX QX AX hR S0 hsz hg hK hS hA0 hx hz htab hend ls hl
  have hl : lv_has ls 5 [(0, .ref (x 0)), (1, .int p0), (2, .int p1), (3, .ref ou)] := hl
  obtain ⟨fs0, hx0⟩ := repX0 HX
  refine lv_aload_n S0.1 S0.2.1 dLa_origin_0 rfl (lv_at hl 3 rfl) ?_
  refine lv_iconst (v := nI 0) S0.1 S0.2.1 dLa_origin_1 (by decide) ?_
  refine lv_aload_n S0.1 S0.2.1 dLa_origin_2 rfl (lv_at hl 0 rfl) ?_
  refine lv_iload_n S0.1 S0.2.1 dLa_origin_3 rfl (lv_at hl 1 rfl) ?_
  refine lv_iload_n S0.1 S0.2.1 dLa_origin_4 rfl (lv_at hl 2 rfl) ?_
  refine hx_Vi (As := [.int p0, .int p1]) (rest := [.int (nI 0), .ref ou]) S0 hK hg hS hA0 hx hz hx0 rfl (c_MR_origin l D cI cR cJ g _ hst x S p0 p1 HX) kMR_origin lm_La_55 (hR.call rfl) rfl hl.1 rfl (Nat.le_of_ble_eq_true rfl) dLa_origin_5 (hR.new (by decide) (by decide)) (fun E_ ce_ q_ g1 H locs hpx hg hS hq1 hq2 hq3 => ?_) (fun r g1 H locs hp hg hS => ?_)
  · skip
    obtain ⟨frx, hrep, hcode⟩ := hpx
    have ho1 := frx.at hou ho
    rcases hcode with ⟨hc1, hE⟩ | ⟨hc1, hE⟩
    · skip
      subst hE
      refine w_catch1 S0 hx htab rfl (by decide) lk_13 (by decide) hq1 hq2 hq3 ?_
      refine lv_astore (lv' := [(4, .ref q_), (0, .ref (x 0)), (1, .int p0), (2, .int p1), (3, .ref ou)]) S0.1 S0.2.1 dLa_origin_13 hl (by decide) rfl (fun ls hl => ?_)
      refine lv_iconst (v := nI 1) S0.1 S0.2.1 dLa_origin_15 (by decide) ?_
      exact hend _ _ _ _ _ _ _ _ (by decide) (by decide) rfl (⟨frx.mono (fun q hq => List.mem_cons_of_mem _ hq), hrep, by rw [hc1], fo, ho1, fun h => absurd (hc1.symm.trans h) (by decide)⟩) hg hS dLa_origin_16
    · skip
      subst hE
      refine w_catch2 S0 hx htab rfl (by decide) (by decide) lk_13 lk_28 (by decide) (by decide) hq1 hq2 hq3 ?_
      refine lv_astore (lv' := [(4, .ref q_), (0, .ref (x 0)), (1, .int p0), (2, .int p1), (3, .ref ou)]) S0.1 S0.2.1 dLa_origin_17 hl (by decide) rfl (fun ls hl => ?_)
      refine lv_iconst (v := nI 2) S0.1 S0.2.1 dLa_origin_19 (by decide) ?_
      exact hend _ _ _ _ _ _ _ _ (by decide) (by decide) rfl (⟨frx.mono (fun q hq => List.mem_cons_of_mem _ hq), hrep, by rw [hc1], fo, ho1, fun h => absurd (hc1.symm.trans h) (by decide)⟩) hg hS dLa_origin_20
  obtain ⟨frx, hrep, hc0, hr⟩ := hp
  have ho1 := frx.at hou ho
  refine lv_i2l (v := (r).toInt64) S0.1 S0.2.1 dLa_origin_8 rfl ?_
  refine hw_last S0 hK hg hS ho1 2 rfl (by omega) (by omega) dLa_origin_9 (fun H locs hg hS => ?_)
  obtain ⟨g_1, eg_1⟩ : ∃ z, z = hs g1 ou (.inl (cJ, 1, .inr (.inl (vp_updL fo 0 ((r).toInt64))))) := ⟨_, rfl⟩
  have hg : hw D hC AX g_1 H := by rw [eg_1]; exact hg
  have f1_0 : g_1 ou = some (.inl (cJ, 1, .inr (.inl (vp_updL fo 0 ((r).toInt64))))) := by rw [eg_1]; exact hs_s _ _ _
  refine lv_goto (tgt := 21) S0.1 S0.2.1 dLa_origin_10 (by decide) ?_
  refine lv_iconst (v := nI 0) S0.1 S0.2.1 dLa_origin_21 (by decide) ?_
  have hrep2 : repX cI cR g_1 x (o_origin p0 p1 S).2.2 := hrep.kept (fun i hi => by rw [eg_1, hs_n _ _ (xS_ne hou hi)])
  have fr2 : hfr g g_1 (ou :: xS x) := fun q hq => by rw [eg_1, hs_n _ _ (fun e => hq (by rw [e]; exact List.mem_cons_self))]; exact frx q (fun h => hq (List.mem_cons_of_mem _ h))
  exact hend _ _ _ _ _ _ _ _ (by decide) (by decide) rfl (⟨fr2, hrep2, by rw [hc0], _, f1_0, fun _ => by rw [← hr]; exact if_pos rfl⟩) hg hS dLa_origin_22
