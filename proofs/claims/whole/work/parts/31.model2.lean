/-! THE REFERENCE, on -/
theorem rp4_snocM {f : Nat → Int32} {hs : List N4} {n : Nat} (h : rpN f (fl4 hs)) (hn : n = hs.length) (x y z w : Nat) : rpN (upd (upd (upd (upd f (4 * n) (nI x)) (4 * n + 1) (nI y)) (4 * n + 2) (nI z)) (4 * n + 3) (nI w)) (fl4 (hs ++ [(x, y, z, w)])) := by
  have h9 := rp4_snoc h hn x y z w
  rw [Nat.mul_comm n 4] at h9
  exact h9
theorem rp3_snocM {f : Nat → Int32} {hs : List N3} {n : Nat} (h : rpN f (fl3 hs)) (hn : n = hs.length) (x y z : Nat) : rpN (upd (upd (upd f (3 * n) (nI x)) (3 * n + 1) (nI y)) (3 * n + 2) (nI z)) (fl3 (hs ++ [(x, y, z)])) := by
  have h9 := rp3_snoc h hn x y z
  rw [Nat.mul_comm n 3] at h9
  exact h9
theorem rp4_atM {f : Nat → Int32} {hs : List N4} {k : Nat} {h : N4} (hr : rpN f (fl4 hs)) (hk : hs[k]? = some h) : f (4 * k) = nI h.1 ∧ f (4 * k + 1) = nI h.2.1 ∧ f (4 * k + 2) = nI h.2.2.1 ∧ f (4 * k + 3) = nI h.2.2.2 := by
  have h9 := rp4_at hr hk
  rw [Nat.mul_comm k 4] at h9
  exact h9
/-- what came so far, in the reference: 60 lines at most, and whether there were more -/
def frL (ff : Nat → Int32) (ot : List Int32) : Prop := ∀ k, k < min ot.length 60 → ff k = ot.getD k 0
def tlN (ot : List Int32) : Nat := if 60 < ot.length then 1 else 0
theorem frL_snoc {ff : Nat → Int32} {ot : List Int32} (h : frL ff ot) (hl : ot.length < 60) (v : Int32) : frL (upd ff (min ot.length 60) v) (ot ++ [v]) := by
  intro k hk
  rw [List.length_append, List.length_singleton] at hk
  rw [show min ot.length 60 = ot.length by omega]
  by_cases e : k = ot.length
  · subst e; rw [pk_us]; simp
  · rw [pk_un e, h k (by omega)]
    simp only [List.getD_eq_getElem?_getD]
    rw [List.getElem?_append_left (by omega)]
theorem frL_more {ff : Nat → Int32} {ot : List Int32} (h : frL ff ot) (hl : 60 ≤ ot.length) (v : Int32) : frL ff (ot ++ [v]) := by
  intro k hk
  rw [List.length_append, List.length_singleton] at hk
  rw [h k (by omega)]
  simp only [List.getD_eq_getElem?_getD]
  rw [List.getElem?_append_left (by omega)]
def cfm (cf : List N3) : List N3 := cf.map (fun h => (min h.1 60, h.2.1, h.2.2))
set_option maxRecDepth 100000 in
set_option maxHeartbeats 4000000 in
theorem c_MM_addPart (l : Launch) (D : va_G) (cI cR cJ : ClassId) (g : Nat → Option va_E) (sz : Nat) (mm : Nat) (q : Nat → Nat) (hq : qinj q) (v0 v3 v4 v9 v12 v16 v17 v21 v23 v25 : Int32) (x i y j n : Nat) (fpart : Nat → Int32) (ps : List N4) (h0 : g mm = some (mmC q v0 v3 v4 v9 v12 (nI n) v16 v17 v21 v23 v25)) (hpart : g (q 9) = some (.inl (cI, 250, .inl fpart))) (hn : n = ps.length) (hn6 : n < 62) (hr : rpN fpart (fl4 ps)) (hx : x ≤ i) (hy : y ≤ j) (hi6 : i ≤ 60) (hj6 : j ≤ 60) : hMv l yMM_addPart cMM_addPart 5 (hRm 0 0 0 0) D (hT cI cR cJ) g sz [.ref mm, .int (nI x), .int (nI (i - x)), .int (nI y), .int (nI (j - y))] (fun g1 => hfr g g1 [mm, q 9] ∧ ∃ f1 : Nat → Int32, g1 mm = some (mmC q v0 v3 v4 v9 v12 (nI ((ps ++ hk1 x i y j).length)) v16 v17 v21 v23 v25) ∧ g1 (q 9) = some (.inl (cI, 250, .inl f1)) ∧ rpN f1 (fl4 (ps ++ hk1 x i y j))) := by
  refine hMv_of (by decide +kernel) (Nat.le_of_ble_eq_true rfl) ?_
  intro pX eX RX sX mX argsX belowX methX cX QX AX hR S0 hnm hsz hg hK hS hA0 hend ls hl
  have hl : lv_has ls 5 [(0, .ref mm), (1, .int (nI x)), (2, .int (nI (i - x))), (3, .int (nI y)), (4, .int (nI (j - y)))] := hl
  have fr : hfr g g [mm, q 9] := hfr.rf
  refine lv_iload_n S0.1 S0.2.1 dMM_addPart_0 rfl (lv_at hl 2 rfl) ?_
  refine lv_if_gt (tgt := 9) S0.1 S0.2.1 dMM_addPart_1 (by decide) (fun c_1 => ?_) (fun c_1 => ?_)
  · skip
    rw [← nI_0] at c_1
    have c_1 : 0 < (i - x) := (nI_ltI (by omega) (by omega)).mp c_1
    refine lv_aload_n S0.1 S0.2.1 dMM_addPart_9 rfl (lv_at hl 0 rfl) ?_
    refine hw_get S0 hK hg h0 rfl inMM 15 (by decide) lf_MM_37 rfl rfl dMM_addPart_10 ?_
    refine lv_iconst (v := nI 4) S0.1 S0.2.1 dMM_addPart_13 (by decide) ?_
    refine lv_aload_n S0.1 S0.2.1 dMM_addPart_14 rfl (lv_at hl 0 rfl) ?_
    refine hw_get S0 hK hg h0 rfl inMM 14 (by decide) lf_MM_99 rfl rfl dMM_addPart_15 ?_
    refine lv_imul S0.1 S0.2.1 dMM_addPart_18 ?_
    refine hw_top (nI (4 * n)) (pk_mul _ _) ?_
    refine lv_iload_n S0.1 S0.2.1 dMM_addPart_19 rfl (lv_at hl 1 rfl) ?_
    refine hw_iast S0 hK hg hS hpart 0 rfl (by omega) (by omega) dMM_addPart_20 (fun H locs hg hS => ?_)
    obtain ⟨g_1, eg_1⟩ : ∃ z, z = hs g (q 9) (.inl (cI, 250, .inl (upd fpart (4 * n) (nI x)))) := ⟨_, rfl⟩
    have hg : hw D hC AX g_1 H := by rw [eg_1]; exact hg
    have f1_0 : g_1 mm = some (mmC q v0 v3 v4 v9 v12 (nI n) v16 v17 v21 v23 v25) := by rw [eg_1, hs_n _ _ (h_ne h0 hpart (fun h => by cases h))]; exact h0
    have f1_1 : g_1 (q 9) = some (.inl (cI, 250, .inl (upd fpart (4 * n) (nI x)))) := by rw [eg_1]; exact hs_s _ _ _
    have fr := fr.put eg_1 (by simp)
    refine lv_aload_n S0.1 S0.2.1 dMM_addPart_21 rfl (lv_at hl 0 rfl) ?_
    refine hw_get S0 hK hg f1_0 rfl inMM 15 (by decide) lf_MM_37 rfl rfl dMM_addPart_22 ?_
    refine lv_iconst (v := nI 4) S0.1 S0.2.1 dMM_addPart_25 (by decide) ?_
    refine lv_aload_n S0.1 S0.2.1 dMM_addPart_26 rfl (lv_at hl 0 rfl) ?_
    refine hw_get S0 hK hg f1_0 rfl inMM 14 (by decide) lf_MM_99 rfl rfl dMM_addPart_27 ?_
    refine lv_imul S0.1 S0.2.1 dMM_addPart_30 ?_
    refine hw_top (nI (4 * n)) (pk_mul _ _) ?_
    refine lv_iconst (v := nI 1) S0.1 S0.2.1 dMM_addPart_31 (by decide) ?_
    refine lv_iadd S0.1 S0.2.1 dMM_addPart_32 ?_
    refine hw_top (nI ((4 * n) + 1)) (nI_add _ _) ?_
    refine lv_iload_n S0.1 S0.2.1 dMM_addPart_33 rfl (lv_at hl 2 rfl) ?_
    refine hw_iast S0 hK hg hS f1_1 0 rfl (by omega) (by omega) dMM_addPart_34 (fun H locs hg hS => ?_)
    obtain ⟨g_2, eg_2⟩ : ∃ z, z = hs g_1 (q 9) (.inl (cI, 250, .inl (upd (upd fpart (4 * n) (nI x)) ((4 * n) + 1) (nI (i - x))))) := ⟨_, rfl⟩
    have hg : hw D hC AX g_2 H := by rw [eg_2]; exact hg
    have f2_0 : g_2 mm = some (mmC q v0 v3 v4 v9 v12 (nI n) v16 v17 v21 v23 v25) := by rw [eg_2, hs_n _ _ (h_ne f1_0 f1_1 (fun h => by cases h))]; exact f1_0
    have f2_1 : g_2 (q 9) = some (.inl (cI, 250, .inl (upd (upd fpart (4 * n) (nI x)) ((4 * n) + 1) (nI (i - x))))) := by rw [eg_2]; exact hs_s _ _ _
    have fr := fr.put eg_2 (by simp)
    refine lv_aload_n S0.1 S0.2.1 dMM_addPart_35 rfl (lv_at hl 0 rfl) ?_
    refine hw_get S0 hK hg f2_0 rfl inMM 15 (by decide) lf_MM_37 rfl rfl dMM_addPart_36 ?_
    refine lv_iconst (v := nI 4) S0.1 S0.2.1 dMM_addPart_39 (by decide) ?_
    refine lv_aload_n S0.1 S0.2.1 dMM_addPart_40 rfl (lv_at hl 0 rfl) ?_
    refine hw_get S0 hK hg f2_0 rfl inMM 14 (by decide) lf_MM_99 rfl rfl dMM_addPart_41 ?_
    refine lv_imul S0.1 S0.2.1 dMM_addPart_44 ?_
    refine hw_top (nI (4 * n)) (pk_mul _ _) ?_
    refine lv_iconst (v := nI 2) S0.1 S0.2.1 dMM_addPart_45 (by decide) ?_
    refine lv_iadd S0.1 S0.2.1 dMM_addPart_46 ?_
    refine hw_top (nI ((4 * n) + 2)) (nI_add _ _) ?_
    refine lv_iload_n S0.1 S0.2.1 dMM_addPart_47 rfl (lv_at hl 3 rfl) ?_
    refine hw_iast S0 hK hg hS f2_1 0 rfl (by omega) (by omega) dMM_addPart_48 (fun H locs hg hS => ?_)
    obtain ⟨g_3, eg_3⟩ : ∃ z, z = hs g_2 (q 9) (.inl (cI, 250, .inl (upd (upd (upd fpart (4 * n) (nI x)) ((4 * n) + 1) (nI (i - x))) ((4 * n) + 2) (nI y)))) := ⟨_, rfl⟩
    have hg : hw D hC AX g_3 H := by rw [eg_3]; exact hg
    have f3_0 : g_3 mm = some (mmC q v0 v3 v4 v9 v12 (nI n) v16 v17 v21 v23 v25) := by rw [eg_3, hs_n _ _ (h_ne f2_0 f2_1 (fun h => by cases h))]; exact f2_0
    have f3_1 : g_3 (q 9) = some (.inl (cI, 250, .inl (upd (upd (upd fpart (4 * n) (nI x)) ((4 * n) + 1) (nI (i - x))) ((4 * n) + 2) (nI y)))) := by rw [eg_3]; exact hs_s _ _ _
    have fr := fr.put eg_3 (by simp)
    refine lv_aload_n S0.1 S0.2.1 dMM_addPart_49 rfl (lv_at hl 0 rfl) ?_
    refine hw_get S0 hK hg f3_0 rfl inMM 15 (by decide) lf_MM_37 rfl rfl dMM_addPart_50 ?_
    refine lv_iconst (v := nI 4) S0.1 S0.2.1 dMM_addPart_53 (by decide) ?_
    refine lv_aload_n S0.1 S0.2.1 dMM_addPart_54 rfl (lv_at hl 0 rfl) ?_
    refine hw_get S0 hK hg f3_0 rfl inMM 14 (by decide) lf_MM_99 rfl rfl dMM_addPart_55 ?_
    refine lv_imul S0.1 S0.2.1 dMM_addPart_58 ?_
    refine hw_top (nI (4 * n)) (pk_mul _ _) ?_
    refine lv_iconst (v := nI 3) S0.1 S0.2.1 dMM_addPart_59 (by decide) ?_
    refine lv_iadd S0.1 S0.2.1 dMM_addPart_60 ?_
    refine hw_top (nI ((4 * n) + 3)) (nI_add _ _) ?_
    refine lv_iload S0.1 S0.2.1 dMM_addPart_61 (lv_at hl 4 rfl) ?_
    refine hw_iast S0 hK hg hS f3_1 0 rfl (by omega) (by omega) dMM_addPart_63 (fun H locs hg hS => ?_)
    obtain ⟨g_4, eg_4⟩ : ∃ z, z = hs g_3 (q 9) (.inl (cI, 250, .inl (upd (upd (upd (upd fpart (4 * n) (nI x)) ((4 * n) + 1) (nI (i - x))) ((4 * n) + 2) (nI y)) ((4 * n) + 3) (nI (j - y))))) := ⟨_, rfl⟩
    have hg : hw D hC AX g_4 H := by rw [eg_4]; exact hg
    have f4_0 : g_4 mm = some (mmC q v0 v3 v4 v9 v12 (nI n) v16 v17 v21 v23 v25) := by rw [eg_4, hs_n _ _ (h_ne f3_0 f3_1 (fun h => by cases h))]; exact f3_0
    have f4_1 : g_4 (q 9) = some (.inl (cI, 250, .inl (upd (upd (upd (upd fpart (4 * n) (nI x)) ((4 * n) + 1) (nI (i - x))) ((4 * n) + 2) (nI y)) ((4 * n) + 3) (nI (j - y))))) := by rw [eg_4]; exact hs_s _ _ _
    have fr := fr.put eg_4 (by simp)
    refine lv_aload_n S0.1 S0.2.1 dMM_addPart_64 rfl (lv_at hl 0 rfl) ?_
    refine lv_dup S0.1 S0.2.1 dMM_addPart_65 rfl ?_
    refine hw_get S0 hK hg f4_0 rfl inMM 14 (by decide) lf_MM_99 rfl rfl dMM_addPart_66 ?_
    refine lv_iconst (v := nI 1) S0.1 S0.2.1 dMM_addPart_69 (by decide) ?_
    refine lv_iadd S0.1 S0.2.1 dMM_addPart_70 ?_
    refine hw_top (nI (n + 1)) (nI_add _ _) ?_
    refine hw_put S0 hK hg hS f4_0 rfl inMM tyMM tokMM nmMM 14 (by decide) lf_MM_99 rfl rfl rfl rfl (Nat.le_of_ble_eq_true rfl) dMM_addPart_71 (fun H locs hg hS => ?_)
    obtain ⟨g_5, eg_5⟩ : ∃ z, z = hs g_4 mm (mmC q v0 v3 v4 v9 v12 (nI (n + 1)) v16 v17 v21 v23 v25) := ⟨_, rfl⟩
    have hg : hw D hC AX g_5 H := by rw [eg_5]; exact hg
    have f5_0 : g_5 (q 9) = some (.inl (cI, 250, .inl (upd (upd (upd (upd fpart (4 * n) (nI x)) ((4 * n) + 1) (nI (i - x))) ((4 * n) + 2) (nI y)) ((4 * n) + 3) (nI (j - y))))) := by rw [eg_5, hs_n _ _ (h_ne f4_1 f4_0 (fun h => by cases h))]; exact f4_1
    have f5_1 : g_5 mm = some (mmC q v0 v3 v4 v9 v12 (nI (n + 1)) v16 v17 v21 v23 v25) := by rw [eg_5]; exact hs_s _ _ _
    have fr := fr.put eg_5 (by simp)
    have e : hk1 x i y j = [(x, i - x, y, j - y)] := if_pos (by omega)
    exact hend _ _ _ _ _ _ _ (by decide) (by decide) (by rw [e, List.length_append, ← hn]; exact ⟨fr, _, f5_1, f5_0, rp4_snocM hr hn x (i - x) y (j - y)⟩) hg hS dMM_addPart_74
  · skip
    rw [← nI_0] at c_1
    have c_1 : ¬ (0 < (i - x)) := fun h => c_1 ((nI_ltI (by omega) (by omega)).mpr h)
    refine lv_iload S0.1 S0.2.1 dMM_addPart_4 (lv_at hl 4 rfl) ?_
    refine lv_if_le (tgt := 74) S0.1 S0.2.1 dMM_addPart_6 (by decide) (fun c_6 => ?_) (fun c_6 => ?_)
    · skip
      rw [← nI_0] at c_6
      have c_6 : (j - y) ≤ 0 := (nI_leI (by omega) (by omega)).mp c_6
      have e : hk1 x i y j = [] := if_neg (by omega)
      exact hend _ _ _ _ _ _ _ (by decide) (by decide) (by rw [e, List.append_nil, ← hn]; exact ⟨fr, fpart, h0, hpart, hr⟩) hg hS dMM_addPart_74
    · skip
      rw [← nI_0] at c_6
      have c_6 : ¬ ((j - y) ≤ 0) := fun h => c_6 ((nI_leI (by omega) (by omega)).mpr h)
      refine lv_aload_n S0.1 S0.2.1 dMM_addPart_9 rfl (lv_at hl 0 rfl) ?_
      refine hw_get S0 hK hg h0 rfl inMM 15 (by decide) lf_MM_37 rfl rfl dMM_addPart_10 ?_
      refine lv_iconst (v := nI 4) S0.1 S0.2.1 dMM_addPart_13 (by decide) ?_
      refine lv_aload_n S0.1 S0.2.1 dMM_addPart_14 rfl (lv_at hl 0 rfl) ?_
      refine hw_get S0 hK hg h0 rfl inMM 14 (by decide) lf_MM_99 rfl rfl dMM_addPart_15 ?_
      refine lv_imul S0.1 S0.2.1 dMM_addPart_18 ?_
      refine hw_top (nI (4 * n)) (pk_mul _ _) ?_
      refine lv_iload_n S0.1 S0.2.1 dMM_addPart_19 rfl (lv_at hl 1 rfl) ?_
      refine hw_iast S0 hK hg hS hpart 0 rfl (by omega) (by omega) dMM_addPart_20 (fun H locs hg hS => ?_)
      obtain ⟨g_6, eg_6⟩ : ∃ z, z = hs g (q 9) (.inl (cI, 250, .inl (upd fpart (4 * n) (nI x)))) := ⟨_, rfl⟩
      have hg : hw D hC AX g_6 H := by rw [eg_6]; exact hg
      have f6_0 : g_6 mm = some (mmC q v0 v3 v4 v9 v12 (nI n) v16 v17 v21 v23 v25) := by rw [eg_6, hs_n _ _ (h_ne h0 hpart (fun h => by cases h))]; exact h0
      have f6_1 : g_6 (q 9) = some (.inl (cI, 250, .inl (upd fpart (4 * n) (nI x)))) := by rw [eg_6]; exact hs_s _ _ _
      have fr := fr.put eg_6 (by simp)
      refine lv_aload_n S0.1 S0.2.1 dMM_addPart_21 rfl (lv_at hl 0 rfl) ?_
      refine hw_get S0 hK hg f6_0 rfl inMM 15 (by decide) lf_MM_37 rfl rfl dMM_addPart_22 ?_
      refine lv_iconst (v := nI 4) S0.1 S0.2.1 dMM_addPart_25 (by decide) ?_
      refine lv_aload_n S0.1 S0.2.1 dMM_addPart_26 rfl (lv_at hl 0 rfl) ?_
      refine hw_get S0 hK hg f6_0 rfl inMM 14 (by decide) lf_MM_99 rfl rfl dMM_addPart_27 ?_
      refine lv_imul S0.1 S0.2.1 dMM_addPart_30 ?_
      refine hw_top (nI (4 * n)) (pk_mul _ _) ?_
      refine lv_iconst (v := nI 1) S0.1 S0.2.1 dMM_addPart_31 (by decide) ?_
      refine lv_iadd S0.1 S0.2.1 dMM_addPart_32 ?_
      refine hw_top (nI ((4 * n) + 1)) (nI_add _ _) ?_
      refine lv_iload_n S0.1 S0.2.1 dMM_addPart_33 rfl (lv_at hl 2 rfl) ?_
      refine hw_iast S0 hK hg hS f6_1 0 rfl (by omega) (by omega) dMM_addPart_34 (fun H locs hg hS => ?_)
      obtain ⟨g_7, eg_7⟩ : ∃ z, z = hs g_6 (q 9) (.inl (cI, 250, .inl (upd (upd fpart (4 * n) (nI x)) ((4 * n) + 1) (nI (i - x))))) := ⟨_, rfl⟩
      have hg : hw D hC AX g_7 H := by rw [eg_7]; exact hg
      have f7_0 : g_7 mm = some (mmC q v0 v3 v4 v9 v12 (nI n) v16 v17 v21 v23 v25) := by rw [eg_7, hs_n _ _ (h_ne f6_0 f6_1 (fun h => by cases h))]; exact f6_0
      have f7_1 : g_7 (q 9) = some (.inl (cI, 250, .inl (upd (upd fpart (4 * n) (nI x)) ((4 * n) + 1) (nI (i - x))))) := by rw [eg_7]; exact hs_s _ _ _
      have fr := fr.put eg_7 (by simp)
      refine lv_aload_n S0.1 S0.2.1 dMM_addPart_35 rfl (lv_at hl 0 rfl) ?_
      refine hw_get S0 hK hg f7_0 rfl inMM 15 (by decide) lf_MM_37 rfl rfl dMM_addPart_36 ?_
      refine lv_iconst (v := nI 4) S0.1 S0.2.1 dMM_addPart_39 (by decide) ?_
      refine lv_aload_n S0.1 S0.2.1 dMM_addPart_40 rfl (lv_at hl 0 rfl) ?_
      refine hw_get S0 hK hg f7_0 rfl inMM 14 (by decide) lf_MM_99 rfl rfl dMM_addPart_41 ?_
      refine lv_imul S0.1 S0.2.1 dMM_addPart_44 ?_
      refine hw_top (nI (4 * n)) (pk_mul _ _) ?_
      refine lv_iconst (v := nI 2) S0.1 S0.2.1 dMM_addPart_45 (by decide) ?_
      refine lv_iadd S0.1 S0.2.1 dMM_addPart_46 ?_
      refine hw_top (nI ((4 * n) + 2)) (nI_add _ _) ?_
      refine lv_iload_n S0.1 S0.2.1 dMM_addPart_47 rfl (lv_at hl 3 rfl) ?_
      refine hw_iast S0 hK hg hS f7_1 0 rfl (by omega) (by omega) dMM_addPart_48 (fun H locs hg hS => ?_)
      obtain ⟨g_8, eg_8⟩ : ∃ z, z = hs g_7 (q 9) (.inl (cI, 250, .inl (upd (upd (upd fpart (4 * n) (nI x)) ((4 * n) + 1) (nI (i - x))) ((4 * n) + 2) (nI y)))) := ⟨_, rfl⟩
      have hg : hw D hC AX g_8 H := by rw [eg_8]; exact hg
      have f8_0 : g_8 mm = some (mmC q v0 v3 v4 v9 v12 (nI n) v16 v17 v21 v23 v25) := by rw [eg_8, hs_n _ _ (h_ne f7_0 f7_1 (fun h => by cases h))]; exact f7_0
      have f8_1 : g_8 (q 9) = some (.inl (cI, 250, .inl (upd (upd (upd fpart (4 * n) (nI x)) ((4 * n) + 1) (nI (i - x))) ((4 * n) + 2) (nI y)))) := by rw [eg_8]; exact hs_s _ _ _
      have fr := fr.put eg_8 (by simp)
      refine lv_aload_n S0.1 S0.2.1 dMM_addPart_49 rfl (lv_at hl 0 rfl) ?_
      refine hw_get S0 hK hg f8_0 rfl inMM 15 (by decide) lf_MM_37 rfl rfl dMM_addPart_50 ?_
      refine lv_iconst (v := nI 4) S0.1 S0.2.1 dMM_addPart_53 (by decide) ?_
      refine lv_aload_n S0.1 S0.2.1 dMM_addPart_54 rfl (lv_at hl 0 rfl) ?_
      refine hw_get S0 hK hg f8_0 rfl inMM 14 (by decide) lf_MM_99 rfl rfl dMM_addPart_55 ?_
      refine lv_imul S0.1 S0.2.1 dMM_addPart_58 ?_
      refine hw_top (nI (4 * n)) (pk_mul _ _) ?_
      refine lv_iconst (v := nI 3) S0.1 S0.2.1 dMM_addPart_59 (by decide) ?_
      refine lv_iadd S0.1 S0.2.1 dMM_addPart_60 ?_
      refine hw_top (nI ((4 * n) + 3)) (nI_add _ _) ?_
      refine lv_iload S0.1 S0.2.1 dMM_addPart_61 (lv_at hl 4 rfl) ?_
      refine hw_iast S0 hK hg hS f8_1 0 rfl (by omega) (by omega) dMM_addPart_63 (fun H locs hg hS => ?_)
      obtain ⟨g_9, eg_9⟩ : ∃ z, z = hs g_8 (q 9) (.inl (cI, 250, .inl (upd (upd (upd (upd fpart (4 * n) (nI x)) ((4 * n) + 1) (nI (i - x))) ((4 * n) + 2) (nI y)) ((4 * n) + 3) (nI (j - y))))) := ⟨_, rfl⟩
      have hg : hw D hC AX g_9 H := by rw [eg_9]; exact hg
      have f9_0 : g_9 mm = some (mmC q v0 v3 v4 v9 v12 (nI n) v16 v17 v21 v23 v25) := by rw [eg_9, hs_n _ _ (h_ne f8_0 f8_1 (fun h => by cases h))]; exact f8_0
      have f9_1 : g_9 (q 9) = some (.inl (cI, 250, .inl (upd (upd (upd (upd fpart (4 * n) (nI x)) ((4 * n) + 1) (nI (i - x))) ((4 * n) + 2) (nI y)) ((4 * n) + 3) (nI (j - y))))) := by rw [eg_9]; exact hs_s _ _ _
      have fr := fr.put eg_9 (by simp)
      refine lv_aload_n S0.1 S0.2.1 dMM_addPart_64 rfl (lv_at hl 0 rfl) ?_
      refine lv_dup S0.1 S0.2.1 dMM_addPart_65 rfl ?_
      refine hw_get S0 hK hg f9_0 rfl inMM 14 (by decide) lf_MM_99 rfl rfl dMM_addPart_66 ?_
      refine lv_iconst (v := nI 1) S0.1 S0.2.1 dMM_addPart_69 (by decide) ?_
      refine lv_iadd S0.1 S0.2.1 dMM_addPart_70 ?_
      refine hw_top (nI (n + 1)) (nI_add _ _) ?_
      refine hw_put S0 hK hg hS f9_0 rfl inMM tyMM tokMM nmMM 14 (by decide) lf_MM_99 rfl rfl rfl rfl (Nat.le_of_ble_eq_true rfl) dMM_addPart_71 (fun H locs hg hS => ?_)
      obtain ⟨g_10, eg_10⟩ : ∃ z, z = hs g_9 mm (mmC q v0 v3 v4 v9 v12 (nI (n + 1)) v16 v17 v21 v23 v25) := ⟨_, rfl⟩
      have hg : hw D hC AX g_10 H := by rw [eg_10]; exact hg
      have f10_0 : g_10 (q 9) = some (.inl (cI, 250, .inl (upd (upd (upd (upd fpart (4 * n) (nI x)) ((4 * n) + 1) (nI (i - x))) ((4 * n) + 2) (nI y)) ((4 * n) + 3) (nI (j - y))))) := by rw [eg_10, hs_n _ _ (h_ne f9_1 f9_0 (fun h => by cases h))]; exact f9_1
      have f10_1 : g_10 mm = some (mmC q v0 v3 v4 v9 v12 (nI (n + 1)) v16 v17 v21 v23 v25) := by rw [eg_10]; exact hs_s _ _ _
      have fr := fr.put eg_10 (by simp)
      have e : hk1 x i y j = [(x, i - x, y, j - y)] := if_pos (by omega)
      exact hend _ _ _ _ _ _ _ (by decide) (by decide) (by rw [e, List.length_append, ← hn]; exact ⟨fr, _, f10_1, f10_0, rp4_snocM hr hn x (i - x) y (j - y)⟩) hg hS dMM_addPart_74
set_option maxRecDepth 100000 in
set_option maxHeartbeats 4000000 in
theorem c_MM_cut (l : Launch) (D : va_G) (cI cR cJ : ClassId) (g : Nat → Option va_E) (sz : Nat) (mm : Nat) (q : Nat → Nat) (hq : qinj q) (v0 v9 v12 v14 v16 v17 v21 v23 v25 : Int32) (a b : List Int32) (fpartner fpart : Nat → Int32) (h0 : g mm = some (mmC q v0 (nI a.length) (nI b.length) v9 v12 v14 v16 v17 v21 v23 v25)) (hpartner : g (q 5) = some (.inl (cI, 60, .inl fpartner))) (hpart : g (q 9) = some (.inl (cI, 250, .inl fpart))) (hpp : rpP fpartner a b a.length) (hna : a.length ≤ 60) (hnb : b.length ≤ 60) : hMv l yMM_cut cMM_cut 4 (hRm 1 24 0 0) D (hT cI cR cJ) g sz [.ref mm] (fun g1 => hfr g g1 [mm, q 9] ∧ ∃ f1 : Nat → Int32, g1 mm = some (mmC q v0 (nI a.length) (nI b.length) v9 v12 (nI ((hunksOf a b).length)) v16 v17 v21 v23 v25) ∧ g1 (q 9) = some (.inl (cI, 250, .inl f1)) ∧ rpN f1 (fl4 (hunksOf a b))) := by
  refine hMv_of (by decide +kernel) (Nat.le_of_ble_eq_true rfl) ?_
  intro pX eX RX sX mX argsX belowX methX cX QX AX hR S0 hnm hsz hg hK hS hA0 hend ls hl
  have hl : lv_has ls 4 [(0, .ref mm)] := hl
  have fr : hfr g g [mm, q 9] := hfr.rf
  refine lv_aload_n S0.1 S0.2.1 dMM_cut_0 rfl (lv_at hl 0 rfl) ?_
  refine lv_iconst (v := nI 0) S0.1 S0.2.1 dMM_cut_1 (by decide) ?_
  refine hw_put S0 hK hg hS h0 rfl inMM tyMM tokMM nmMM 14 (by decide) lf_MM_99 rfl rfl rfl rfl (Nat.le_of_ble_eq_true rfl) dMM_cut_2 (fun H locs hg hS => ?_)
  obtain ⟨g_1, eg_1⟩ : ∃ z, z = hs g mm (mmC q v0 (nI a.length) (nI b.length) v9 v12 (nI 0) v16 v17 v21 v23 v25) := ⟨_, rfl⟩
  have hg : hw D hC AX g_1 H := by rw [eg_1]; exact hg
  have f1_0 : g_1 (q 5) = some (.inl (cI, 60, .inl fpartner)) := by rw [eg_1, hs_n _ _ (h_ne hpartner h0 (fun h => by cases h))]; exact hpartner
  have f1_1 : g_1 (q 9) = some (.inl (cI, 250, .inl fpart)) := by rw [eg_1, hs_n _ _ (h_ne hpart h0 (fun h => by cases h))]; exact hpart
  have f1_2 : g_1 mm = some (mmC q v0 (nI a.length) (nI b.length) v9 v12 (nI 0) v16 v17 v21 v23 v25) := by rw [eg_1]; exact hs_s _ _ _
  have fr := fr.put eg_1 (by simp)
  refine lv_iconst (v := nI 0) S0.1 S0.2.1 dMM_cut_5 (by decide) ?_
  refine lv_istore_n (lv' := [(1, .int (nI 0)), (0, .ref mm)]) S0.1 S0.2.1 dMM_cut_6 rfl hl (by decide) rfl (fun ls hl => ?_)
  refine lv_iconst (v := nI 0) S0.1 S0.2.1 dMM_cut_7 (by decide) ?_
  refine lv_istore_n (lv' := [(2, .int (nI 0)), (1, .int (nI 0)), (0, .ref mm)]) S0.1 S0.2.1 dMM_cut_8 rfl hl (by decide) rfl (fun ls hl => ?_)
  refine lv_iconst (v := nI 0) S0.1 S0.2.1 dMM_cut_9 (by decide) ?_
  refine lv_istore_n (lv' := [(3, .int (nI 0)), (2, .int (nI 0)), (1, .int (nI 0)), (0, .ref mm)]) S0.1 S0.2.1 dMM_cut_10 rfl hl (by decide) rfl (fun ls hl => ?_)
  have loop_11 : ∀ (n_11 : Nat) (i : Nat) (x : Nat) (y : Nat) (hs_ : List N4) (fp_ : Nat → Int32) (gl : Nat → Option va_E) (H : Heap) (locs : List Loc) (ls : Array Slot), a.length - i < n_11 → (i ≤ a.length) → (cutp (prs a b i) = (x, y, hs_)) → (rpN fp_ (fl4 hs_)) → (hfr g gl [mm, q 9]) → (gl mm = some (mmC q v0 (nI a.length) (nI b.length) v9 v12 (nI hs_.length) v16 v17 v21 v23 v25)) → (gl (q 9) = some (.inl (cI, 250, .inl fp_))) → hw D hC AX gl H → va_S AX sX.heap H locs → lv_has ls 4 [(0, .ref mm), (1, .int (nI x)), (2, .int (nI y)), (3, .int (nI i))] → W pX l eX RX sX mX argsX belowX methX cX H locs 0 0 QX (F0 mX 11 ls []) := by
    intro n_11
    induction n_11 with
    | zero => intros; omega
    | succ n_11 ih_11 =>
      intro i x y hs_ fp_ gl H locs ls hm_11 hi hst hr fr e0 e1 hg hS hl
      have q11_q5 := fr.at (h_nm (h_ne f1_0 f1_2 (fun h => by cases h)) (h_nm (qne hq (by decide) (by decide) (by decide)) h_n0)) hpartner
      refine lv_iload_n S0.1 S0.2.1 dMM_cut_11 rfl (lv_at hl 3 rfl) ?_
      refine lv_aload_n S0.1 S0.2.1 dMM_cut_12 rfl (lv_at hl 0 rfl) ?_
      refine hw_get S0 hK hg e0 rfl inMM 3 (by decide) lf_MM_76 rfl rfl dMM_cut_13 ?_
      refine lv_icmp_ge (tgt := 64) S0.1 S0.2.1 dMM_cut_16 (by decide) (fun c_16 => ?_) (fun c_16 => ?_)
      · skip
        have c_16 : a.length ≤ i := (nI_leI (by omega) (by omega)).mp c_16
        have ei : i = a.length := by omega
        subst ei
        have hcp := cutp_prs a b a.length
        rw [hst] at hcp
        dsimp only at hcp
        have hfl := fro_le a b a.length
        have hpl := (prs_len a b a.length).1
        refine lv_aload_n S0.1 S0.2.1 dMM_cut_64 rfl (lv_at hl 0 rfl) ?_
        refine lv_iload_n S0.1 S0.2.1 dMM_cut_65 rfl (lv_at hl 1 rfl) ?_
        refine lv_aload_n S0.1 S0.2.1 dMM_cut_66 rfl (lv_at hl 0 rfl) ?_
        refine hw_get S0 hK hg e0 rfl inMM 3 (by decide) lf_MM_76 rfl rfl dMM_cut_67 ?_
        refine lv_iload_n S0.1 S0.2.1 dMM_cut_70 rfl (lv_at hl 1 rfl) ?_
        refine lv_isub S0.1 S0.2.1 dMM_cut_71 ?_
        refine hw_top (nI (a.length - x)) (pk_sub (by omega)) ?_
        refine lv_iload_n S0.1 S0.2.1 dMM_cut_72 rfl (lv_at hl 2 rfl) ?_
        refine lv_aload_n S0.1 S0.2.1 dMM_cut_73 rfl (lv_at hl 0 rfl) ?_
        refine hw_get S0 hK hg e0 rfl inMM 4 (by decide) lf_MM_79 rfl rfl dMM_cut_74 ?_
        refine lv_iload_n S0.1 S0.2.1 dMM_cut_77 rfl (lv_at hl 2 rfl) ?_
        refine lv_isub S0.1 S0.2.1 dMM_cut_78 ?_
        refine hw_top (nI (b.length - y)) (pk_sub (by omega)) ?_
        refine hw_Vv (As := [.int (nI x), .int (nI (a.length - x)), .int (nI y), .int (nI (b.length - y))]) (rest := []) S0 hK hg hS hA0 e0 rfl (c_MM_addPart l D cI cR cJ gl _ mm q hq v0 (nI a.length) (nI b.length) v9 v12 v16 v17 v21 v23 v25 x a.length y b.length hs_.length fp_ hs_ e0 e1 rfl (by omega) hr (by omega) (by omega) (by omega) (by omega)) kMM_addPart lm_MM_102 (hR.call rfl) rfl hl.1 rfl (Nat.le_of_ble_eq_true rfl) dMM_cut_79 (hR.new (by decide) (by decide)) (fun g_2 H locs hp_79 hg hS => ?_)
        obtain ⟨fr1, f1, b0, b1, b2⟩ := hp_79
        have k2_0 := fr1.at (h_nm (h_ne q11_q5 e0 (fun h => by cases h)) (h_nm (qne hq (by decide) (by decide) (by decide)) h_n0)) q11_q5
        have fr := fr.call fr1 (by simp)
        have eh : hunksOf a b = hs_ ++ hk1 x a.length y b.length := by rw [hunksOf, hst]
        exact hend _ _ _ _ _ _ _ (by decide) (by decide) (by rw [eh]; exact ⟨fr, f1, b0, b1, b2⟩) hg hS dMM_cut_82
      · skip
        have c_16 : ¬ (a.length ≤ i) := fun h => c_16 ((nI_leI (by omega) (by omega)).mpr h)
        have hcp := cutp_prs a b i
        rw [hst] at hcp
        dsimp only at hcp
        have hpl := (prs_len a b i).1
        rcases hpn : pn a b i with _ | j
        · skip
          have eP : fpartner i = -1 := by rw [hpp i (by omega), hpn]; rfl
          refine lv_aload_n S0.1 S0.2.1 dMM_cut_19 rfl (lv_at hl 0 rfl) ?_
          refine hw_get S0 hK hg e0 rfl inMM 8 (by decide) lf_MM_25 rfl rfl dMM_cut_20 ?_
          refine lv_iload_n S0.1 S0.2.1 dMM_cut_23 rfl (lv_at hl 3 rfl) ?_
          refine hw_iald S0 hK hg q11_q5 0 rfl (by omega) (by omega) dMM_cut_24 ?_
          refine lv_if_lt (tgt := 58) S0.1 S0.2.1 dMM_cut_25 (by decide) (fun c_25 => ?_) (fun c_25 => ?_)
          · skip
            refine lv_iinc (v := nI (i + 1)) (lv' := [(3, .int (nI (i + 1))), (0, .ref mm), (1, .int (nI x)), (2, .int (nI y))]) S0.1 S0.2.1 dMM_cut_58 hl (k := 3) rfl (by exact nI_add _ 1) (by decide) rfl (fun ls hl => ?_)
            refine lv_goto (tgt := 11) S0.1 S0.2.1 dMM_cut_61 (by decide) ?_
            exact ih_11 (i + 1) x y hs_ fp_ gl _ _ _ (by omega) (by omega) (by rw [prs_none hpn]; exact hst) hr fr e0 e1 hg hS (lv_sub hl [1, 2, 3, 0] rfl)
          · skip
            exact absurd (by rw [eP]; decide +kernel) c_25
        · skip
          have eP : fpartner i = nI j := by rw [hpp i (by omega), hpn]; rfl
          have hsp := stp_spec (show stp a b (fro a b i) i = some j from hpn)
          refine lv_aload_n S0.1 S0.2.1 dMM_cut_19 rfl (lv_at hl 0 rfl) ?_
          refine hw_get S0 hK hg e0 rfl inMM 8 (by decide) lf_MM_25 rfl rfl dMM_cut_20 ?_
          refine lv_iload_n S0.1 S0.2.1 dMM_cut_23 rfl (lv_at hl 3 rfl) ?_
          refine hw_iald S0 hK hg q11_q5 0 rfl (by omega) (by omega) dMM_cut_24 ?_
          refine hw_top (nI j) eP ?_
          refine lv_if_lt (tgt := 58) S0.1 S0.2.1 dMM_cut_25 (by decide) (fun c_25 => ?_) (fun c_25 => ?_)
          · skip
            rw [← nI_0] at c_25
            have c_25 : j < 0 := (nI_ltI (by omega) (by omega)).mp c_25
            omega
          · skip
            rw [← nI_0] at c_25
            have c_25 : ¬ (j < 0) := fun h => c_25 ((nI_ltI (by omega) (by omega)).mpr h)
            refine lv_aload_n S0.1 S0.2.1 dMM_cut_28 rfl (lv_at hl 0 rfl) ?_
            refine lv_iload_n S0.1 S0.2.1 dMM_cut_29 rfl (lv_at hl 1 rfl) ?_
            refine lv_iload_n S0.1 S0.2.1 dMM_cut_30 rfl (lv_at hl 3 rfl) ?_
            refine lv_iload_n S0.1 S0.2.1 dMM_cut_31 rfl (lv_at hl 1 rfl) ?_
            refine lv_isub S0.1 S0.2.1 dMM_cut_32 ?_
            refine hw_top (nI (i - x)) (pk_sub (by omega)) ?_
            refine lv_iload_n S0.1 S0.2.1 dMM_cut_33 rfl (lv_at hl 2 rfl) ?_
            refine lv_aload_n S0.1 S0.2.1 dMM_cut_34 rfl (lv_at hl 0 rfl) ?_
            refine hw_get S0 hK hg e0 rfl inMM 8 (by decide) lf_MM_25 rfl rfl dMM_cut_35 ?_
            refine lv_iload_n S0.1 S0.2.1 dMM_cut_38 rfl (lv_at hl 3 rfl) ?_
            refine hw_iald S0 hK hg q11_q5 0 rfl (by omega) (by omega) dMM_cut_39 ?_
            refine hw_top (nI j) eP ?_
            refine lv_iload_n S0.1 S0.2.1 dMM_cut_40 rfl (lv_at hl 2 rfl) ?_
            refine lv_isub S0.1 S0.2.1 dMM_cut_41 ?_
            refine hw_top (nI (j - y)) (pk_sub (by omega)) ?_
            refine hw_Vv (As := [.int (nI x), .int (nI (i - x)), .int (nI y), .int (nI (j - y))]) (rest := []) S0 hK hg hS hA0 e0 rfl (c_MM_addPart l D cI cR cJ gl _ mm q hq v0 (nI a.length) (nI b.length) v9 v12 v16 v17 v21 v23 v25 x i y j hs_.length fp_ hs_ e0 e1 rfl (by omega) hr (by omega) (by omega) (by omega) (by omega)) kMM_addPart lm_MM_102 (hR.call rfl) rfl hl.1 rfl (Nat.le_of_ble_eq_true rfl) dMM_cut_42 (hR.new (by decide) (by decide)) (fun g_3 H locs hp_42 hg hS => ?_)
            obtain ⟨fr1, f1, b0, b1, b2⟩ := hp_42
            have k3_0 := fr1.at (h_nm (h_ne q11_q5 e0 (fun h => by cases h)) (h_nm (qne hq (by decide) (by decide) (by decide)) h_n0)) q11_q5
            have fr := fr.call fr1 (by simp)
            refine lv_iload_n S0.1 S0.2.1 dMM_cut_45 rfl (lv_at hl 3 rfl) ?_
            refine lv_iconst (v := nI 1) S0.1 S0.2.1 dMM_cut_46 (by decide) ?_
            refine lv_iadd S0.1 S0.2.1 dMM_cut_47 ?_
            refine hw_top (nI (i + 1)) (nI_add _ _) ?_
            refine lv_istore_n (lv' := [(1, .int (nI (i + 1))), (0, .ref mm), (2, .int (nI y)), (3, .int (nI i))]) S0.1 S0.2.1 dMM_cut_48 rfl hl (by decide) rfl (fun ls hl => ?_)
            refine lv_aload_n S0.1 S0.2.1 dMM_cut_49 rfl (lv_at hl 1 rfl) ?_
            refine hw_get S0 hK hg b0 rfl inMM 8 (by decide) lf_MM_25 rfl rfl dMM_cut_50 ?_
            refine lv_iload_n S0.1 S0.2.1 dMM_cut_53 rfl (lv_at hl 3 rfl) ?_
            refine hw_iald S0 hK hg k3_0 0 rfl (by omega) (by omega) dMM_cut_54 ?_
            refine hw_top (nI j) eP ?_
            refine lv_iconst (v := nI 1) S0.1 S0.2.1 dMM_cut_55 (by decide) ?_
            refine lv_iadd S0.1 S0.2.1 dMM_cut_56 ?_
            refine hw_top (nI (j + 1)) (nI_add _ _) ?_
            refine lv_istore_n (lv' := [(2, .int (nI (j + 1))), (1, .int (nI (i + 1))), (0, .ref mm), (3, .int (nI i))]) S0.1 S0.2.1 dMM_cut_57 rfl hl (by decide) rfl (fun ls hl => ?_)
            refine lv_iinc (v := nI (i + 1)) (lv' := [(3, .int (nI (i + 1))), (2, .int (nI (j + 1))), (1, .int (nI (i + 1))), (0, .ref mm)]) S0.1 S0.2.1 dMM_cut_58 hl (k := 3) rfl (by exact nI_add _ 1) (by decide) rfl (fun ls hl => ?_)
            refine lv_goto (tgt := 11) S0.1 S0.2.1 dMM_cut_61 (by decide) ?_
            exact ih_11 (i + 1) (i + 1) (j + 1) (hs_ ++ hk1 x i y j) f1 g_3 _ _ _ (by omega) (by omega) (by rw [prs_some hpn, cutp_snoc, hst]; rfl) b2 fr b0 b1 hg hS (lv_sub hl [3, 2, 1, 0] rfl)
  exact loop_11 _ 0 0 0 ([]) fpart g_1 _ _ _ (Nat.lt_succ_self _) (Nat.zero_le _) rfl (rpN_nil _) fr f1_2 f1_1 hg hS (lv_sub hl [3, 2, 1, 0] rfl)
set_option maxRecDepth 100000 in
set_option maxHeartbeats 4000000 in
theorem c_MM_write (l : Launch) (D : va_G) (cI cR cJ : ClassId) (g : Nat → Option va_E) (sz : Nat) (mm : Nat) (q : Nat → Nat) (hq : qinj q) (v0 v3 v4 v9 v12 v14 v21 v23 v25 : Int32) (ot : List Int32) (v : Int32) (ffresh : Nat → Int32) (h0 : g mm = some (mmC q v0 v3 v4 v9 v12 v14 (nI (min ot.length 60)) (nI (tlN ot)) v21 v23 v25)) (hfresh : g (q 10) = some (.inl (cI, 60, .inl ffresh))) (hf : frL ffresh ot) : hMv l yMM_write cMM_write 2 (hRm 0 0 0 0) D (hT cI cR cJ) g sz [.ref mm, .int v] (fun g1 => hfr g g1 [mm, q 10] ∧ ∃ f1 : Nat → Int32, g1 mm = some (mmC q v0 v3 v4 v9 v12 v14 (nI (min (ot ++ [v]).length 60)) (nI (tlN (ot ++ [v]))) v21 v23 v25) ∧ g1 (q 10) = some (.inl (cI, 60, .inl f1)) ∧ frL f1 (ot ++ [v])) := by
  refine hMv_of (by decide +kernel) (Nat.le_of_ble_eq_true rfl) ?_
  intro pX eX RX sX mX argsX belowX methX cX QX AX hR S0 hnm hsz hg hK hS hA0 hend ls hl
  have hl : lv_has ls 2 [(0, .ref mm), (1, .int v)] := hl
  have fr : hfr g g [mm, q 10] := hfr.rf
  have hl1 : (ot ++ [v]).length = ot.length + 1 := by simp
  refine lv_aload_n S0.1 S0.2.1 dMM_write_0 rfl (lv_at hl 0 rfl) ?_
  refine hw_get S0 hK hg h0 rfl inMM 16 (by decide) lf_MM_112 rfl rfl dMM_write_1 ?_
  refine lv_bipush (v := nI 60) S0.1 S0.2.1 dMM_write_4 (by decide) ?_
  refine lv_icmp_ne (tgt := 17) S0.1 S0.2.1 dMM_write_6 (by decide) (fun c_6 => ?_) (fun c_6 => ?_)
  · skip
    have c_6 : ¬ ((min ot.length 60) = 60) := fun h => c_6 ((nI_eq (by omega) (by omega)).mpr h)
    refine lv_aload_n S0.1 S0.2.1 dMM_write_17 rfl (lv_at hl 0 rfl) ?_
    refine hw_get S0 hK hg h0 rfl inMM 18 (by decide) lf_MM_40 rfl rfl dMM_write_18 ?_
    refine lv_aload_n S0.1 S0.2.1 dMM_write_21 rfl (lv_at hl 0 rfl) ?_
    refine hw_get S0 hK hg h0 rfl inMM 16 (by decide) lf_MM_112 rfl rfl dMM_write_22 ?_
    refine lv_iload_n S0.1 S0.2.1 dMM_write_25 rfl (lv_at hl 1 rfl) ?_
    refine hw_iast S0 hK hg hS hfresh 0 rfl (by omega) (by omega) dMM_write_26 (fun H locs hg hS => ?_)
    obtain ⟨g_1, eg_1⟩ : ∃ z, z = hs g (q 10) (.inl (cI, 60, .inl (upd ffresh (min ot.length 60) v))) := ⟨_, rfl⟩
    have hg : hw D hC AX g_1 H := by rw [eg_1]; exact hg
    have f1_0 : g_1 mm = some (mmC q v0 v3 v4 v9 v12 v14 (nI (min ot.length 60)) (nI (tlN ot)) v21 v23 v25) := by rw [eg_1, hs_n _ _ (h_ne h0 hfresh (fun h => by cases h))]; exact h0
    have f1_1 : g_1 (q 10) = some (.inl (cI, 60, .inl (upd ffresh (min ot.length 60) v))) := by rw [eg_1]; exact hs_s _ _ _
    have fr := fr.put eg_1 (by simp)
    refine lv_aload_n S0.1 S0.2.1 dMM_write_27 rfl (lv_at hl 0 rfl) ?_
    refine lv_dup S0.1 S0.2.1 dMM_write_28 rfl ?_
    refine hw_get S0 hK hg f1_0 rfl inMM 16 (by decide) lf_MM_112 rfl rfl dMM_write_29 ?_
    refine lv_iconst (v := nI 1) S0.1 S0.2.1 dMM_write_32 (by decide) ?_
    refine lv_iadd S0.1 S0.2.1 dMM_write_33 ?_
    refine hw_top (nI ((min ot.length 60) + 1)) (nI_add _ _) ?_
    refine hw_put S0 hK hg hS f1_0 rfl inMM tyMM tokMM nmMM 16 (by decide) lf_MM_112 rfl rfl rfl rfl (Nat.le_of_ble_eq_true rfl) dMM_write_34 (fun H locs hg hS => ?_)
    obtain ⟨g_2, eg_2⟩ : ∃ z, z = hs g_1 mm (mmC q v0 v3 v4 v9 v12 v14 (nI ((min ot.length 60) + 1)) (nI (tlN ot)) v21 v23 v25) := ⟨_, rfl⟩
    have hg : hw D hC AX g_2 H := by rw [eg_2]; exact hg
    have f2_0 : g_2 (q 10) = some (.inl (cI, 60, .inl (upd ffresh (min ot.length 60) v))) := by rw [eg_2, hs_n _ _ (h_ne f1_1 f1_0 (fun h => by cases h))]; exact f1_1
    have f2_1 : g_2 mm = some (mmC q v0 v3 v4 v9 v12 v14 (nI ((min ot.length 60) + 1)) (nI (tlN ot)) v21 v23 v25) := by rw [eg_2]; exact hs_s _ _ _
    have fr := fr.put eg_2 (by simp)
    have e1 : tlN (ot ++ [v]) = tlN ot := by rw [tlN, tlN, if_neg (by omega), if_neg (by omega)]
    have e2 : min (ot ++ [v]).length 60 = min ot.length 60 + 1 := by omega
    exact hend _ _ _ _ _ _ _ (by decide) (by decide) (⟨fr, _, by rw [e1, e2]; exact f2_1, f2_0, frL_snoc hf (by omega) v⟩) hg hS dMM_write_37
  · skip
    have c_6 : (min ot.length 60) = 60 := (nI_eq (by omega) (by omega)).mp c_6
    refine lv_aload_n S0.1 S0.2.1 dMM_write_9 rfl (lv_at hl 0 rfl) ?_
    refine lv_iconst (v := nI 1) S0.1 S0.2.1 dMM_write_10 (by decide) ?_
    refine hw_put S0 hK hg hS h0 rfl inMM tyMM tokMM nmMM 17 (by decide) lf_MM_115 rfl rfl rfl rfl (Nat.le_of_ble_eq_true rfl) dMM_write_11 (fun H locs hg hS => ?_)
    obtain ⟨g_3, eg_3⟩ : ∃ z, z = hs g mm (mmC q v0 v3 v4 v9 v12 v14 (nI (min ot.length 60)) (nI 1) v21 v23 v25) := ⟨_, rfl⟩
    have hg : hw D hC AX g_3 H := by rw [eg_3]; exact hg
    have f3_0 : g_3 (q 10) = some (.inl (cI, 60, .inl ffresh)) := by rw [eg_3, hs_n _ _ (h_ne hfresh h0 (fun h => by cases h))]; exact hfresh
    have f3_1 : g_3 mm = some (mmC q v0 v3 v4 v9 v12 v14 (nI (min ot.length 60)) (nI 1) v21 v23 v25) := by rw [eg_3]; exact hs_s _ _ _
    have fr := fr.put eg_3 (by simp)
    refine lv_goto (tgt := 37) S0.1 S0.2.1 dMM_write_14 (by decide) ?_
    have e1 : tlN (ot ++ [v]) = 1 := if_pos (by omega)
    have e2 : min (ot ++ [v]).length 60 = min ot.length 60 := by omega
    exact hend _ _ _ _ _ _ _ (by decide) (by decide) (⟨fr, ffresh, by rw [e1, e2]; exact f3_1, f3_0, frL_more hf (by omega) v⟩) hg hS dMM_write_37
set_option maxRecDepth 100000 in
set_option maxHeartbeats 4000000 in
theorem c_MM_writePart (l : Launch) (D : va_G) (cI cR cJ : ClassId) (g : Nat → Option va_E) (sz : Nat) (mm : Nat) (q : Nat → Nat) (hq : qinj q) (v0 v3 v4 v9 v12 v14 v21 v23 v25 : Int32) (r i j : Nat) (ot zs : List Int32) (flines ffresh : Nat → Int32) (h0 : g mm = some (mmC q v0 v3 v4 v9 v12 v14 (nI (min ot.length 60)) (nI (tlN ot)) v21 v23 v25)) (hlines : g (q 1) = some (.inl (cI, 360, .inl flines))) (hfresh : g (q 10) = some (.inl (cI, 60, .inl ffresh))) (hf : frL ffresh ot) (hr : r < 6) (hz : ∀ k, k < zs.length → flines (60 * r + k) = zs.getD k 0) (hz6 : zs.length ≤ 60) (hij : i ≤ j) (hj : j ≤ zs.length) : hMv l yMM_writePart cMM_writePart 5 (hRm 1 21 0 0) D (hT cI cR cJ) g sz [.ref mm, .int (nI r), .int (nI i), .int (nI j)] (fun g1 => hfr g g1 [mm, q 10] ∧ ∃ f1 : Nat → Int32, g1 mm = some (mmC q v0 v3 v4 v9 v12 v14 (nI (min (ot ++ pt zs i j).length 60)) (nI (tlN (ot ++ pt zs i j))) v21 v23 v25) ∧ g1 (q 10) = some (.inl (cI, 60, .inl f1)) ∧ frL f1 (ot ++ pt zs i j)) := by
  refine hMv_of (by decide +kernel) (Nat.le_of_ble_eq_true rfl) ?_
  intro pX eX RX sX mX argsX belowX methX cX QX AX hR S0 hnm hsz hg hK hS hA0 hend ls hl
  have hl : lv_has ls 5 [(0, .ref mm), (1, .int (nI r)), (2, .int (nI i)), (3, .int (nI j))] := hl
  have fr : hfr g g [mm, q 10] := hfr.rf
  refine lv_iload_n S0.1 S0.2.1 dMM_writePart_0 rfl (lv_at hl 2 rfl) ?_
  refine lv_istore (lv' := [(4, .int (nI i)), (0, .ref mm), (1, .int (nI r)), (2, .int (nI i)), (3, .int (nI j))]) S0.1 S0.2.1 dMM_writePart_1 hl (by decide) rfl (fun ls hl => ?_)
  have loop_3 : ∀ (n_3 : Nat) (t : Nat) (fk : Nat → Int32) (gl : Nat → Option va_E) (H : Heap) (locs : List Loc) (ls : Array Slot), j - (i + t) < n_3 → (i + t ≤ j) → (frL fk (ot ++ pt zs i (i + t))) → (hfr g gl [mm, q 10]) → (gl mm = some (mmC q v0 v3 v4 v9 v12 v14 (nI (min (ot ++ pt zs i (i + t)).length 60)) (nI (tlN (ot ++ pt zs i (i + t)))) v21 v23 v25)) → (gl (q 10) = some (.inl (cI, 60, .inl fk))) → hw D hC AX gl H → va_S AX sX.heap H locs → lv_has ls 5 [(0, .ref mm), (1, .int (nI r)), (3, .int (nI j)), (4, .int (nI (i + t)))] → W pX l eX RX sX mX argsX belowX methX cX H locs 0 0 QX (F0 mX 3 ls []) := by
    intro n_3
    induction n_3 with
    | zero => intros; omega
    | succ n_3 ih_3 =>
      intro t fk gl H locs ls hm_3 ht hfk fr e0 e1 hg hS hl
      have q3_q1 := fr.at (h_nm (h_ne hlines h0 (fun h => by cases h)) (h_nm (qne hq (by decide) (by decide) (by decide)) h_n0)) hlines
      refine lv_iload S0.1 S0.2.1 dMM_writePart_3 (lv_at hl 3 rfl) ?_
      refine lv_iload_n S0.1 S0.2.1 dMM_writePart_5 rfl (lv_at hl 2 rfl) ?_
      refine lv_icmp_ge (tgt := 31) S0.1 S0.2.1 dMM_writePart_6 (by decide) (fun c_6 => ?_) (fun c_6 => ?_)
      · skip
        have c_6 : j ≤ (i + t) := (nI_leI (by omega) (by omega)).mp c_6
        have et : i + t = j := by omega
        rw [et] at e0 hfk
        exact hend _ _ _ _ _ _ _ (by decide) (by decide) (⟨fr, fk, e0, e1, hfk⟩) hg hS dMM_writePart_31
      · skip
        have c_6 : ¬ (j ≤ (i + t)) := fun h => c_6 ((nI_leI (by omega) (by omega)).mpr h)
        refine lv_aload_n S0.1 S0.2.1 dMM_writePart_9 rfl (lv_at hl 0 rfl) ?_
        refine lv_aload_n S0.1 S0.2.1 dMM_writePart_10 rfl (lv_at hl 0 rfl) ?_
        refine hw_get S0 hK hg e0 rfl inMM 2 (by decide) lf_MM_13 rfl rfl dMM_writePart_11 ?_
        refine lv_bipush (v := nI 60) S0.1 S0.2.1 dMM_writePart_14 (by decide) ?_
        refine lv_iload_n S0.1 S0.2.1 dMM_writePart_16 rfl (lv_at hl 1 rfl) ?_
        refine lv_imul S0.1 S0.2.1 dMM_writePart_17 ?_
        refine hw_top (nI (60 * r)) (pk_mul _ _) ?_
        refine lv_iload S0.1 S0.2.1 dMM_writePart_18 (lv_at hl 3 rfl) ?_
        refine lv_iadd S0.1 S0.2.1 dMM_writePart_20 ?_
        refine hw_top (nI ((60 * r) + (i + t))) (nI_add _ _) ?_
        refine hw_iald S0 hK hg q3_q1 0 rfl (by omega) (by omega) dMM_writePart_21 ?_
        refine hw_Vv (As := [.int (flines ((60 * r) + (i + t)))]) (rest := []) S0 hK hg hS hA0 e0 rfl (c_MM_write l D cI cR cJ gl _ mm q hq v0 v3 v4 v9 v12 v14 v21 v23 v25 (ot ++ pt zs i (i + t)) (flines ((60 * r) + (i + t))) fk e0 e1 hfk) kMM_write lm_MM_119 (hR.call rfl) rfl hl.1 rfl (Nat.le_of_ble_eq_true rfl) dMM_writePart_22 (hR.new (by decide) (by decide)) (fun g_1 H locs hp_22 hg hS => ?_)
        obtain ⟨fr1, f1, b0, b1, b2⟩ := hp_22
        have eap : (ot ++ pt zs i (i + t)) ++ [flines ((60 * r) + (i + t))] = ot ++ pt zs i (i + t + 1) := by rw [pt_snoc (by omega) (by omega), List.append_assoc, hz (i + t) (by omega)]
        have k1_0 := fr1.at (h_nm (h_ne q3_q1 e0 (fun h => by cases h)) (h_nm (qne hq (by decide) (by decide) (by decide)) h_n0)) q3_q1
        have fr := fr.call fr1 (by simp)
        refine lv_iinc (v := nI (i + t + 1)) (lv' := [(4, .int (nI (i + t + 1))), (0, .ref mm), (1, .int (nI r)), (3, .int (nI j))]) S0.1 S0.2.1 dMM_writePart_25 hl (k := 3) rfl (by exact nI_add _ 1) (by decide) rfl (fun ls hl => ?_)
        refine lv_goto (tgt := 3) S0.1 S0.2.1 dMM_writePart_28 (by decide) ?_
        exact ih_3 (t + 1) f1 g_1 _ _ _ (by omega) (by omega) (by rw [← Nat.add_assoc, ← eap]; exact b2) fr (by rw [← Nat.add_assoc, ← eap]; exact b0) b1 hg hS (lv_sub hl [1, 2, 3, 0] rfl)
  exact loop_3 _ 0 ffresh g _ _ _ (Nat.lt_succ_self _) (by omega) (by rw [Nat.add_zero, pt_self, List.append_nil]; exact hf) fr (by rw [Nat.add_zero, pt_self, List.append_nil]; exact h0) hfresh hg hS (lv_sub hl [1, 2, 4, 0] rfl)
set_option maxRecDepth 100000 in
set_option maxHeartbeats 4000000 in
theorem c_MM_alike (l : Launch) (D : va_G) (cI cR cJ : ClassId) (g : Nat → Option va_E) (sz : Nat) (mm : Nat) (q : Nat → Nat) (hq : qinj q) (v0 v3 v4 v9 v12 v14 v16 v17 v21 v23 v25 : Int32) (r i1 j1 r2 i2 j2 : Nat) (zs ys : List Int32) (flines : Nat → Int32) (h0 : g mm = some (mmC q v0 v3 v4 v9 v12 v14 v16 v17 v21 v23 v25)) (hlines : g (q 1) = some (.inl (cI, 360, .inl flines))) (hr : r < 6) (hr2 : r2 < 6) (hz : ∀ k, k < zs.length → flines (60 * r + k) = zs.getD k 0) (hz6 : zs.length ≤ 60) (hy : ∀ k, k < ys.length → flines (60 * r2 + k) = ys.getD k 0) (hy6 : ys.length ≤ 60) (hi1 : i1 ≤ j1) (hj1 : j1 ≤ zs.length) (hi2 : i2 ≤ j2) (hj2 : j2 ≤ ys.length) : hMi l yMM_alike cMM_alike 9 .boolean (hRm 0 0 0 0) D (hT cI cR cJ) g sz [.ref mm, .int (nI r), .int (nI i1), .int (nI j1), .int (nI r2), .int (nI i2), .int (nI j2)] (fun o g1 => g1 = g ∧ ((o = nI 1 ∧ pt zs i1 j1 = pt ys i2 j2) ∨ (o = nI 0 ∧ ¬ pt zs i1 j1 = pt ys i2 j2))) := by
  refine hMi_of (by decide +kernel) (Nat.le_of_ble_eq_true rfl) ?_
  intro pX eX RX sX mX argsX belowX methX cX QX AX hR S0 hnm hsz hg hK hS hA0 hend ls hl
  have hl : lv_has ls 9 [(0, .ref mm), (1, .int (nI r)), (2, .int (nI i1)), (3, .int (nI j1)), (4, .int (nI r2)), (5, .int (nI i2)), (6, .int (nI j2))] := hl
  refine lv_iload_n S0.1 S0.2.1 dMM_alike_0 rfl (lv_at hl 3 rfl) ?_
  refine lv_iload_n S0.1 S0.2.1 dMM_alike_1 rfl (lv_at hl 2 rfl) ?_
  refine lv_isub S0.1 S0.2.1 dMM_alike_2 ?_
  refine hw_top (nI (j1 - i1)) (pk_sub (by omega)) ?_
  refine lv_iload S0.1 S0.2.1 dMM_alike_3 (lv_at hl 6 rfl) ?_
  refine lv_iload S0.1 S0.2.1 dMM_alike_5 (lv_at hl 5 rfl) ?_
  refine lv_isub S0.1 S0.2.1 dMM_alike_7 ?_
  refine hw_top (nI (j2 - i2)) (pk_sub (by omega)) ?_
  refine lv_icmp_ne (tgt := 15) S0.1 S0.2.1 dMM_alike_8 (by decide) (fun c_8 => ?_) (fun c_8 => ?_)
  · skip
    have c_8 : ¬ ((j1 - i1) = (j2 - i2)) := fun h => c_8 ((nI_eq (by omega) (by omega)).mpr h)
    refine lv_iconst (v := nI 0) S0.1 S0.2.1 dMM_alike_15 (by decide) ?_
    refine lv_istore (lv' := [(7, .int (nI 0)), (0, .ref mm), (1, .int (nI r)), (2, .int (nI i1)), (3, .int (nI j1)), (4, .int (nI r2)), (5, .int (nI i2)), (6, .int (nI j2))]) S0.1 S0.2.1 dMM_alike_16 hl (by decide) rfl (fun ls hl => ?_)
    refine lv_iconst (v := nI 0) S0.1 S0.2.1 dMM_alike_18 (by decide) ?_
    refine lv_istore (lv' := [(8, .int (nI 0)), (7, .int (nI 0)), (0, .ref mm), (1, .int (nI r)), (2, .int (nI i1)), (3, .int (nI j1)), (4, .int (nI r2)), (5, .int (nI i2)), (6, .int (nI j2))]) S0.1 S0.2.1 dMM_alike_19 hl (by decide) rfl (fun ls hl => ?_)
    have loop_21 : ∀ (n_21 : Nat) (k : Nat) (w : Nat) (H : Heap) (locs : List Loc) (ls : Array Slot), j1 - i1 - k < n_21 → (k ≤ j1 - i1) → (w < 2) → (w = 1 → j1 - i1 = j2 - i2 ∧ ∀ x, x < k → zs.getD (i1 + x) 0 = ys.getD (i2 + x) 0) → (w = 0 → ¬ pt zs i1 j1 = pt ys i2 j2) → hw D hC AX g H → va_S AX sX.heap H locs → lv_has ls 9 [(0, .ref mm), (1, .int (nI r)), (2, .int (nI i1)), (3, .int (nI j1)), (4, .int (nI r2)), (5, .int (nI i2)), (6, .int (nI j2)), (7, .int (nI w)), (8, .int (nI k))] → W pX l eX RX sX mX argsX belowX methX cX H locs 0 0 QX (F0 mX 21 ls []) := by
      intro n_21
      induction n_21 with
      | zero => intros; omega
      | succ n_21 ih_21 =>
        intro k w H locs ls hm_21 hk hw1 hw2 hw3 hg hS hl
        refine lv_iload S0.1 S0.2.1 dMM_alike_21 (lv_at hl 8 rfl) ?_
        refine lv_iload_n S0.1 S0.2.1 dMM_alike_23 rfl (lv_at hl 3 rfl) ?_
        refine lv_iload_n S0.1 S0.2.1 dMM_alike_24 rfl (lv_at hl 2 rfl) ?_
        refine lv_isub S0.1 S0.2.1 dMM_alike_25 ?_
        refine hw_top (nI (j1 - i1)) (pk_sub (by omega)) ?_
        refine lv_icmp_ge (tgt := 80) S0.1 S0.2.1 dMM_alike_26 (by decide) (fun c_26 => ?_) (fun c_26 => ?_)
        · skip
          have c_26 : (j1 - i1) ≤ k := (nI_leI (by omega) (by omega)).mp c_26
          refine lv_iload S0.1 S0.2.1 dMM_alike_80 (lv_at hl 7 rfl) ?_
          have hres : (nI w = nI 1 ∧ pt zs i1 j1 = pt ys i2 j2) ∨ (nI w = nI 0 ∧ ¬ pt zs i1 j1 = pt ys i2 j2) := by
            rcases (show w = 0 ∨ w = 1 by omega) with e | e
            · exact Or.inr ⟨by rw [e], hw3 e⟩
            · exact Or.inl ⟨by rw [e], pt_same hj1 hj2 (hw2 e).1 (fun x h => (hw2 e).2 x (by omega))⟩
          have hnr : narrow .boolean (.int (nI w)) = .int (nI w) := by rcases (show w = 0 ∨ w = 1 by omega) with e | e <;> rw [e] <;> rfl
          exact hend _ _ _ _ _ _ _ _ (by decide) (by decide) hnr ⟨rfl, hres⟩ hg hS dMM_alike_82
        · skip
          have c_26 : ¬ ((j1 - i1) ≤ k) := fun h => c_26 ((nI_leI (by omega) (by omega)).mpr h)
          refine lv_iload S0.1 S0.2.1 dMM_alike_29 (lv_at hl 7 rfl) ?_
          refine lv_if_eq (tgt := 80) S0.1 S0.2.1 dMM_alike_31 (by decide) (fun c_31 => ?_) (fun c_31 => ?_)
          · skip
            rw [← nI_0] at c_31
            have c_31 : w = 0 := (nI_eq (by omega) (by omega)).mp c_31
            refine lv_iload S0.1 S0.2.1 dMM_alike_80 (lv_at hl 7 rfl) ?_
            have hres : (nI w = nI 1 ∧ pt zs i1 j1 = pt ys i2 j2) ∨ (nI w = nI 0 ∧ ¬ pt zs i1 j1 = pt ys i2 j2) := by
              rcases (show w = 0 ∨ w = 1 by omega) with e | e
              · exact Or.inr ⟨by rw [e], hw3 e⟩
              · exact Or.inl ⟨by rw [e], pt_same hj1 hj2 (hw2 e).1 (fun x h => (hw2 e).2 x (by omega))⟩
            have hnr : narrow .boolean (.int (nI w)) = .int (nI w) := by rcases (show w = 0 ∨ w = 1 by omega) with e | e <;> rw [e] <;> rfl
            exact hend _ _ _ _ _ _ _ _ (by decide) (by decide) hnr ⟨rfl, hres⟩ hg hS dMM_alike_82
          · skip
            rw [← nI_0] at c_31
            have c_31 : ¬ (w = 0) := fun h => c_31 ((nI_eq (by omega) (by omega)).mpr h)
            obtain ⟨hlen, hall⟩ := hw2 (by omega)
            refine lv_aload_n S0.1 S0.2.1 dMM_alike_34 rfl (lv_at hl 0 rfl) ?_
            refine hw_get S0 hK hg h0 rfl inMM 2 (by decide) lf_MM_13 rfl rfl dMM_alike_35 ?_
            refine lv_bipush (v := nI 60) S0.1 S0.2.1 dMM_alike_38 (by decide) ?_
            refine lv_iload_n S0.1 S0.2.1 dMM_alike_40 rfl (lv_at hl 1 rfl) ?_
            refine lv_imul S0.1 S0.2.1 dMM_alike_41 ?_
            refine hw_top (nI (60 * r)) (pk_mul _ _) ?_
            refine lv_iload_n S0.1 S0.2.1 dMM_alike_42 rfl (lv_at hl 2 rfl) ?_
            refine lv_iadd S0.1 S0.2.1 dMM_alike_43 ?_
            refine hw_top (nI ((60 * r) + i1)) (nI_add _ _) ?_
            refine lv_iload S0.1 S0.2.1 dMM_alike_44 (lv_at hl 8 rfl) ?_
            refine lv_iadd S0.1 S0.2.1 dMM_alike_46 ?_
            refine hw_top (nI (((60 * r) + i1) + k)) (nI_add _ _) ?_
            refine hw_iald S0 hK hg hlines 0 rfl (by omega) (by omega) dMM_alike_47 ?_
            refine lv_aload_n S0.1 S0.2.1 dMM_alike_48 rfl (lv_at hl 0 rfl) ?_
            refine hw_get S0 hK hg h0 rfl inMM 2 (by decide) lf_MM_13 rfl rfl dMM_alike_49 ?_
            refine lv_bipush (v := nI 60) S0.1 S0.2.1 dMM_alike_52 (by decide) ?_
            refine lv_iload S0.1 S0.2.1 dMM_alike_54 (lv_at hl 4 rfl) ?_
            refine lv_imul S0.1 S0.2.1 dMM_alike_56 ?_
            refine hw_top (nI (60 * r2)) (pk_mul _ _) ?_
            refine lv_iload S0.1 S0.2.1 dMM_alike_57 (lv_at hl 5 rfl) ?_
            refine lv_iadd S0.1 S0.2.1 dMM_alike_59 ?_
            refine hw_top (nI ((60 * r2) + i2)) (nI_add _ _) ?_
            refine lv_iload S0.1 S0.2.1 dMM_alike_60 (lv_at hl 8 rfl) ?_
            refine lv_iadd S0.1 S0.2.1 dMM_alike_62 ?_
            refine hw_top (nI (((60 * r2) + i2) + k)) (nI_add _ _) ?_
            refine hw_iald S0 hK hg hlines 0 rfl (by omega) (by omega) dMM_alike_63 ?_
            refine lv_icmp_ne (tgt := 71) S0.1 S0.2.1 dMM_alike_64 (by decide) (fun c_64 => ?_) (fun c_64 => ?_)
            · skip
              rw [show (60 * r) + i1 + k = 60 * r + (i1 + k) by omega, show (60 * r2) + i2 + k = 60 * r2 + (i2 + k) by omega, hz (i1 + k) (by omega), hy (i2 + k) (by omega)] at c_64
              refine lv_iconst (v := nI 0) S0.1 S0.2.1 dMM_alike_71 (by decide) ?_
              refine lv_istore (lv' := [(7, .int (nI 0)), (0, .ref mm), (1, .int (nI r)), (2, .int (nI i1)), (3, .int (nI j1)), (4, .int (nI r2)), (5, .int (nI i2)), (6, .int (nI j2)), (8, .int (nI k))]) S0.1 S0.2.1 dMM_alike_72 hl (by decide) rfl (fun ls hl => ?_)
              refine lv_iinc (v := nI (k + 1)) (lv' := [(8, .int (nI (k + 1))), (7, .int (nI 0)), (0, .ref mm), (1, .int (nI r)), (2, .int (nI i1)), (3, .int (nI j1)), (4, .int (nI r2)), (5, .int (nI i2)), (6, .int (nI j2))]) S0.1 S0.2.1 dMM_alike_74 hl (k := 8) rfl (by exact nI_add _ 1) (by decide) rfl (fun ls hl => ?_)
              refine lv_goto (tgt := 21) S0.1 S0.2.1 dMM_alike_77 (by decide) ?_
              exact ih_21 (k + 1) 0 _ _ _ (by omega) (by omega) (by omega) (fun h => by omega) (fun _ => pt_diff hj1 hj2 hlen (by omega) c_64) hg hS (lv_sub hl [2, 3, 4, 5, 6, 7, 8, 1, 0] rfl)
            · skip
              rw [show (60 * r) + i1 + k = 60 * r + (i1 + k) by omega, show (60 * r2) + i2 + k = 60 * r2 + (i2 + k) by omega, hz (i1 + k) (by omega), hy (i2 + k) (by omega)] at c_64
              refine lv_iconst (v := nI 1) S0.1 S0.2.1 dMM_alike_67 (by decide) ?_
              refine lv_goto (tgt := 72) S0.1 S0.2.1 dMM_alike_68 (by decide) ?_
              refine lv_istore (lv' := [(7, .int (nI 1)), (0, .ref mm), (1, .int (nI r)), (2, .int (nI i1)), (3, .int (nI j1)), (4, .int (nI r2)), (5, .int (nI i2)), (6, .int (nI j2)), (8, .int (nI k))]) S0.1 S0.2.1 dMM_alike_72 hl (by decide) rfl (fun ls hl => ?_)
              refine lv_iinc (v := nI (k + 1)) (lv' := [(8, .int (nI (k + 1))), (7, .int (nI 1)), (0, .ref mm), (1, .int (nI r)), (2, .int (nI i1)), (3, .int (nI j1)), (4, .int (nI r2)), (5, .int (nI i2)), (6, .int (nI j2))]) S0.1 S0.2.1 dMM_alike_74 hl (k := 8) rfl (by exact nI_add _ 1) (by decide) rfl (fun ls hl => ?_)
              refine lv_goto (tgt := 21) S0.1 S0.2.1 dMM_alike_77 (by decide) ?_
              exact ih_21 (k + 1) 1 _ _ _ (by omega) (by omega) (by omega) (fun _ => ⟨hlen, fun x h => by rcases Nat.lt_or_ge x k with h9 | h9; exact hall x h9; rw [show x = k by omega]; exact c_64⟩) (fun h => by omega) hg hS (lv_sub hl [2, 3, 4, 5, 6, 7, 8, 1, 0] rfl)
    exact loop_21 _ 0 0 _ _ _ (Nat.lt_succ_self _) (Nat.zero_le _) (by omega) (fun h => by omega) (fun _ => pt_lens hj1 hj2 c_8) hg hS (lv_sub hl [2, 3, 4, 5, 6, 7, 8, 1, 0] rfl)
  · skip
    have c_8 : (j1 - i1) = (j2 - i2) := (nI_eq (by omega) (by omega)).mp c_8
    refine lv_iconst (v := nI 1) S0.1 S0.2.1 dMM_alike_11 (by decide) ?_
    refine lv_goto (tgt := 16) S0.1 S0.2.1 dMM_alike_12 (by decide) ?_
    refine lv_istore (lv' := [(7, .int (nI 1)), (0, .ref mm), (1, .int (nI r)), (2, .int (nI i1)), (3, .int (nI j1)), (4, .int (nI r2)), (5, .int (nI i2)), (6, .int (nI j2))]) S0.1 S0.2.1 dMM_alike_16 hl (by decide) rfl (fun ls hl => ?_)
    refine lv_iconst (v := nI 0) S0.1 S0.2.1 dMM_alike_18 (by decide) ?_
    refine lv_istore (lv' := [(8, .int (nI 0)), (7, .int (nI 1)), (0, .ref mm), (1, .int (nI r)), (2, .int (nI i1)), (3, .int (nI j1)), (4, .int (nI r2)), (5, .int (nI i2)), (6, .int (nI j2))]) S0.1 S0.2.1 dMM_alike_19 hl (by decide) rfl (fun ls hl => ?_)
    have loop_21 : ∀ (n_21 : Nat) (k : Nat) (w : Nat) (H : Heap) (locs : List Loc) (ls : Array Slot), j1 - i1 - k < n_21 → (k ≤ j1 - i1) → (w < 2) → (w = 1 → j1 - i1 = j2 - i2 ∧ ∀ x, x < k → zs.getD (i1 + x) 0 = ys.getD (i2 + x) 0) → (w = 0 → ¬ pt zs i1 j1 = pt ys i2 j2) → hw D hC AX g H → va_S AX sX.heap H locs → lv_has ls 9 [(0, .ref mm), (1, .int (nI r)), (2, .int (nI i1)), (3, .int (nI j1)), (4, .int (nI r2)), (5, .int (nI i2)), (6, .int (nI j2)), (7, .int (nI w)), (8, .int (nI k))] → W pX l eX RX sX mX argsX belowX methX cX H locs 0 0 QX (F0 mX 21 ls []) := by
      intro n_21
      induction n_21 with
      | zero => intros; omega
      | succ n_21 ih_21 =>
        intro k w H locs ls hm_21 hk hw1 hw2 hw3 hg hS hl
        refine lv_iload S0.1 S0.2.1 dMM_alike_21 (lv_at hl 8 rfl) ?_
        refine lv_iload_n S0.1 S0.2.1 dMM_alike_23 rfl (lv_at hl 3 rfl) ?_
        refine lv_iload_n S0.1 S0.2.1 dMM_alike_24 rfl (lv_at hl 2 rfl) ?_
        refine lv_isub S0.1 S0.2.1 dMM_alike_25 ?_
        refine hw_top (nI (j1 - i1)) (pk_sub (by omega)) ?_
        refine lv_icmp_ge (tgt := 80) S0.1 S0.2.1 dMM_alike_26 (by decide) (fun c_26 => ?_) (fun c_26 => ?_)
        · skip
          have c_26 : (j1 - i1) ≤ k := (nI_leI (by omega) (by omega)).mp c_26
          refine lv_iload S0.1 S0.2.1 dMM_alike_80 (lv_at hl 7 rfl) ?_
          have hres : (nI w = nI 1 ∧ pt zs i1 j1 = pt ys i2 j2) ∨ (nI w = nI 0 ∧ ¬ pt zs i1 j1 = pt ys i2 j2) := by
            rcases (show w = 0 ∨ w = 1 by omega) with e | e
            · exact Or.inr ⟨by rw [e], hw3 e⟩
            · exact Or.inl ⟨by rw [e], pt_same hj1 hj2 (hw2 e).1 (fun x h => (hw2 e).2 x (by omega))⟩
          have hnr : narrow .boolean (.int (nI w)) = .int (nI w) := by rcases (show w = 0 ∨ w = 1 by omega) with e | e <;> rw [e] <;> rfl
          exact hend _ _ _ _ _ _ _ _ (by decide) (by decide) hnr ⟨rfl, hres⟩ hg hS dMM_alike_82
        · skip
          have c_26 : ¬ ((j1 - i1) ≤ k) := fun h => c_26 ((nI_leI (by omega) (by omega)).mpr h)
          refine lv_iload S0.1 S0.2.1 dMM_alike_29 (lv_at hl 7 rfl) ?_
          refine lv_if_eq (tgt := 80) S0.1 S0.2.1 dMM_alike_31 (by decide) (fun c_31 => ?_) (fun c_31 => ?_)
          · skip
            rw [← nI_0] at c_31
            have c_31 : w = 0 := (nI_eq (by omega) (by omega)).mp c_31
            refine lv_iload S0.1 S0.2.1 dMM_alike_80 (lv_at hl 7 rfl) ?_
            have hres : (nI w = nI 1 ∧ pt zs i1 j1 = pt ys i2 j2) ∨ (nI w = nI 0 ∧ ¬ pt zs i1 j1 = pt ys i2 j2) := by
              rcases (show w = 0 ∨ w = 1 by omega) with e | e
              · exact Or.inr ⟨by rw [e], hw3 e⟩
              · exact Or.inl ⟨by rw [e], pt_same hj1 hj2 (hw2 e).1 (fun x h => (hw2 e).2 x (by omega))⟩
            have hnr : narrow .boolean (.int (nI w)) = .int (nI w) := by rcases (show w = 0 ∨ w = 1 by omega) with e | e <;> rw [e] <;> rfl
            exact hend _ _ _ _ _ _ _ _ (by decide) (by decide) hnr ⟨rfl, hres⟩ hg hS dMM_alike_82
          · skip
            rw [← nI_0] at c_31
            have c_31 : ¬ (w = 0) := fun h => c_31 ((nI_eq (by omega) (by omega)).mpr h)
            obtain ⟨hlen, hall⟩ := hw2 (by omega)
            refine lv_aload_n S0.1 S0.2.1 dMM_alike_34 rfl (lv_at hl 0 rfl) ?_
            refine hw_get S0 hK hg h0 rfl inMM 2 (by decide) lf_MM_13 rfl rfl dMM_alike_35 ?_
            refine lv_bipush (v := nI 60) S0.1 S0.2.1 dMM_alike_38 (by decide) ?_
            refine lv_iload_n S0.1 S0.2.1 dMM_alike_40 rfl (lv_at hl 1 rfl) ?_
            refine lv_imul S0.1 S0.2.1 dMM_alike_41 ?_
            refine hw_top (nI (60 * r)) (pk_mul _ _) ?_
            refine lv_iload_n S0.1 S0.2.1 dMM_alike_42 rfl (lv_at hl 2 rfl) ?_
            refine lv_iadd S0.1 S0.2.1 dMM_alike_43 ?_
            refine hw_top (nI ((60 * r) + i1)) (nI_add _ _) ?_
            refine lv_iload S0.1 S0.2.1 dMM_alike_44 (lv_at hl 8 rfl) ?_
            refine lv_iadd S0.1 S0.2.1 dMM_alike_46 ?_
            refine hw_top (nI (((60 * r) + i1) + k)) (nI_add _ _) ?_
            refine hw_iald S0 hK hg hlines 0 rfl (by omega) (by omega) dMM_alike_47 ?_
            refine lv_aload_n S0.1 S0.2.1 dMM_alike_48 rfl (lv_at hl 0 rfl) ?_
            refine hw_get S0 hK hg h0 rfl inMM 2 (by decide) lf_MM_13 rfl rfl dMM_alike_49 ?_
            refine lv_bipush (v := nI 60) S0.1 S0.2.1 dMM_alike_52 (by decide) ?_
            refine lv_iload S0.1 S0.2.1 dMM_alike_54 (lv_at hl 4 rfl) ?_
            refine lv_imul S0.1 S0.2.1 dMM_alike_56 ?_
            refine hw_top (nI (60 * r2)) (pk_mul _ _) ?_
            refine lv_iload S0.1 S0.2.1 dMM_alike_57 (lv_at hl 5 rfl) ?_
            refine lv_iadd S0.1 S0.2.1 dMM_alike_59 ?_
            refine hw_top (nI ((60 * r2) + i2)) (nI_add _ _) ?_
            refine lv_iload S0.1 S0.2.1 dMM_alike_60 (lv_at hl 8 rfl) ?_
            refine lv_iadd S0.1 S0.2.1 dMM_alike_62 ?_
            refine hw_top (nI (((60 * r2) + i2) + k)) (nI_add _ _) ?_
            refine hw_iald S0 hK hg hlines 0 rfl (by omega) (by omega) dMM_alike_63 ?_
            refine lv_icmp_ne (tgt := 71) S0.1 S0.2.1 dMM_alike_64 (by decide) (fun c_64 => ?_) (fun c_64 => ?_)
            · skip
              rw [show (60 * r) + i1 + k = 60 * r + (i1 + k) by omega, show (60 * r2) + i2 + k = 60 * r2 + (i2 + k) by omega, hz (i1 + k) (by omega), hy (i2 + k) (by omega)] at c_64
              refine lv_iconst (v := nI 0) S0.1 S0.2.1 dMM_alike_71 (by decide) ?_
              refine lv_istore (lv' := [(7, .int (nI 0)), (0, .ref mm), (1, .int (nI r)), (2, .int (nI i1)), (3, .int (nI j1)), (4, .int (nI r2)), (5, .int (nI i2)), (6, .int (nI j2)), (8, .int (nI k))]) S0.1 S0.2.1 dMM_alike_72 hl (by decide) rfl (fun ls hl => ?_)
              refine lv_iinc (v := nI (k + 1)) (lv' := [(8, .int (nI (k + 1))), (7, .int (nI 0)), (0, .ref mm), (1, .int (nI r)), (2, .int (nI i1)), (3, .int (nI j1)), (4, .int (nI r2)), (5, .int (nI i2)), (6, .int (nI j2))]) S0.1 S0.2.1 dMM_alike_74 hl (k := 8) rfl (by exact nI_add _ 1) (by decide) rfl (fun ls hl => ?_)
              refine lv_goto (tgt := 21) S0.1 S0.2.1 dMM_alike_77 (by decide) ?_
              exact ih_21 (k + 1) 0 _ _ _ (by omega) (by omega) (by omega) (fun h => by omega) (fun _ => pt_diff hj1 hj2 hlen (by omega) c_64) hg hS (lv_sub hl [2, 3, 4, 5, 6, 7, 8, 1, 0] rfl)
            · skip
              rw [show (60 * r) + i1 + k = 60 * r + (i1 + k) by omega, show (60 * r2) + i2 + k = 60 * r2 + (i2 + k) by omega, hz (i1 + k) (by omega), hy (i2 + k) (by omega)] at c_64
              refine lv_iconst (v := nI 1) S0.1 S0.2.1 dMM_alike_67 (by decide) ?_
              refine lv_goto (tgt := 72) S0.1 S0.2.1 dMM_alike_68 (by decide) ?_
              refine lv_istore (lv' := [(7, .int (nI 1)), (0, .ref mm), (1, .int (nI r)), (2, .int (nI i1)), (3, .int (nI j1)), (4, .int (nI r2)), (5, .int (nI i2)), (6, .int (nI j2)), (8, .int (nI k))]) S0.1 S0.2.1 dMM_alike_72 hl (by decide) rfl (fun ls hl => ?_)
              refine lv_iinc (v := nI (k + 1)) (lv' := [(8, .int (nI (k + 1))), (7, .int (nI 1)), (0, .ref mm), (1, .int (nI r)), (2, .int (nI i1)), (3, .int (nI j1)), (4, .int (nI r2)), (5, .int (nI i2)), (6, .int (nI j2))]) S0.1 S0.2.1 dMM_alike_74 hl (k := 8) rfl (by exact nI_add _ 1) (by decide) rfl (fun ls hl => ?_)
              refine lv_goto (tgt := 21) S0.1 S0.2.1 dMM_alike_77 (by decide) ?_
              exact ih_21 (k + 1) 1 _ _ _ (by omega) (by omega) (by omega) (fun _ => ⟨hlen, fun x h => by rcases Nat.lt_or_ge x k with h9 | h9; exact hall x h9; rw [show x = k by omega]; exact c_64⟩) (fun h => by omega) hg hS (lv_sub hl [2, 3, 4, 5, 6, 7, 8, 1, 0] rfl)
    exact loop_21 _ 0 1 _ _ _ (Nat.lt_succ_self _) (Nat.zero_le _) (by omega) (fun _ => ⟨c_8, fun x h => absurd h (Nat.not_lt_zero x)⟩) (fun h => by omega) hg hS (lv_sub hl [2, 3, 4, 5, 6, 7, 8, 1, 0] rfl)
set_option maxRecDepth 100000 in
set_option maxHeartbeats 4000000 in
theorem c_MM_apart (l : Launch) (D : va_G) (cI cR cJ : ClassId) (g : Nat → Option va_E) (sz : Nat) (x y : Int) (h1 : -1000 < x) (h2 : x < 1000) (h3 : -1000 < y) (h4 : y < 1000) : hMi l yMM_apart cMM_apart 2 .int (hRm 0 0 0 0) D (hT cI cR cJ) g sz [.int (iZ x), .int (iZ y)] (fun o g1 => g1 = g ∧ o = nI (x - y).natAbs) := by
  refine hMi_of (by decide +kernel) (Nat.le_of_ble_eq_true rfl) ?_
  intro pX eX RX sX mX argsX belowX methX cX QX AX hR S0 hnm hsz hg hK hS hA0 hend ls hl
  have hl : lv_has ls 2 [(0, .int (iZ x)), (1, .int (iZ y))] := hl
  refine lv_iload_n S0.1 S0.2.1 dMM_apart_0 rfl (lv_at hl 0 rfl) ?_
  refine lv_iload_n S0.1 S0.2.1 dMM_apart_1 rfl (lv_at hl 1 rfl) ?_
  refine lv_icmp_ge (tgt := 11) S0.1 S0.2.1 dMM_apart_2 (by decide) (fun c_2 => ?_) (fun c_2 => ?_)
  · skip
    have c_2 : y ≤ x := by rw [Int32.le_iff_toInt_le, iZ_toInt (by omega) (by omega), iZ_toInt (by omega) (by omega)] at c_2; exact c_2
    refine lv_iload_n S0.1 S0.2.1 dMM_apart_11 rfl (lv_at hl 0 rfl) ?_
    refine lv_iload_n S0.1 S0.2.1 dMM_apart_12 rfl (lv_at hl 1 rfl) ?_
    refine lv_isub S0.1 S0.2.1 dMM_apart_13 ?_
    exact hend _ _ _ _ _ _ _ _ (by decide) (by decide) rfl (⟨rfl, by rw [iZ_sub, iZ_nat]; congr 1; omega⟩) hg hS dMM_apart_14
  · skip
    have c_2 : ¬ y ≤ x := fun h => c_2 (by rw [Int32.le_iff_toInt_le, iZ_toInt (by omega) (by omega), iZ_toInt (by omega) (by omega)]; exact h)
    refine lv_iload_n S0.1 S0.2.1 dMM_apart_5 rfl (lv_at hl 1 rfl) ?_
    refine lv_iload_n S0.1 S0.2.1 dMM_apart_6 rfl (lv_at hl 0 rfl) ?_
    refine lv_isub S0.1 S0.2.1 dMM_apart_7 ?_
    refine lv_goto (tgt := 14) S0.1 S0.2.1 dMM_apart_8 (by decide) ?_
    exact hend _ _ _ _ _ _ _ _ (by decide) (by decide) rfl (⟨rfl, by rw [iZ_sub, iZ_nat]; congr 1; omega⟩) hg hS dMM_apart_14
