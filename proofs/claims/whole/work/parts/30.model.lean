/-! THE REFERENCE -/
abbrev mmC (q : Nat → Nat) (v0 v3 v4 v9 v12 v14 v16 v17 v21 v23 v25 : Int32) : va_E := .inr (8, [.int v0, .ref (q 0), .ref (q 1), .int v3, .int v4, .ref (q 2), .ref (q 3), .ref (q 4), .ref (q 5), .int v9, .ref (q 6), .ref (q 7), .int v12, .ref (q 8), .int v14, .ref (q 9), .int v16, .int v17, .ref (q 10), .ref (q 11), .ref (q 12), .int v21, .ref (q 13), .int v23, .ref (q 14), .int v25, .ref (q 15), .ref (q 16), .ref (q 17)])
def qinj (q : Nat → Nat) : Prop := ∀ i j, i < 18 → j < 18 → q i = q j → i = j
theorem qne {q : Nat → Nat} (hq : qinj q) {i j : Nat} (hi : i < 18) (hj : j < 18) (h : i ≠ j) : q i ≠ q j := fun e => h (hq i j hi hj e)
set_option maxRecDepth 100000 in
set_option maxHeartbeats 4000000 in
theorem c_MM_isRow (l : Launch) (D : va_G) (cI cR cJ : ClassId) (g : Nat → Option va_E) (sz : Nat) (r : Int32) : hMi l yMM_isRow cMM_isRow 1 .boolean (hRm 0 0 0 0) D (hT cI cR cJ) g sz [.int r] (fun o g1 => g1 = g ∧ ((o = nI 1 ∧ ∃ k : Nat, k < 6 ∧ r = nI k) ∨ (o = nI 0 ∧ ¬ ∃ k : Nat, k < 6 ∧ r = nI k))) := by
  refine hMi_of (by decide +kernel) (Nat.le_of_ble_eq_true rfl) ?_
  intro pX eX RX sX mX argsX belowX methX cX QX AX hR S0 hnm hsz hg hK hS hA0 hend ls hl
  have hl : lv_has ls 1 [(0, .int r)] := hl
  refine lv_iload_n S0.1 S0.2.1 dMM_isRow_0 rfl (lv_at hl 0 rfl) ?_
  refine lv_if_lt (tgt := 14) S0.1 S0.2.1 dMM_isRow_1 (by decide) (fun c_1 => ?_) (fun c_1 => ?_)
  · skip
    refine lv_iconst (v := nI 0) S0.1 S0.2.1 dMM_isRow_14 (by decide) ?_
    exact hend _ _ _ _ _ _ _ _ (by decide) (by decide) rfl (⟨rfl, Or.inr ⟨rfl, fun ⟨k, hk, hr⟩ => by rw [hr] at c_1; exact nI_pos (by omega) c_1⟩⟩) hg hS dMM_isRow_15
  · skip
    obtain ⟨k, hk, rfl⟩ := nI_of c_1
    refine lv_iload_n S0.1 S0.2.1 dMM_isRow_4 rfl (lv_at hl 0 rfl) ?_
    refine lv_bipush (v := nI 6) S0.1 S0.2.1 dMM_isRow_5 (by decide) ?_
    refine lv_icmp_ge (tgt := 14) S0.1 S0.2.1 dMM_isRow_7 (by decide) (fun c_7 => ?_) (fun c_7 => ?_)
    · skip
      have c_7 : 6 ≤ k := (nI_leI (by omega) (by omega)).mp c_7
      refine lv_iconst (v := nI 0) S0.1 S0.2.1 dMM_isRow_14 (by decide) ?_
      exact hend _ _ _ _ _ _ _ _ (by decide) (by decide) rfl (⟨rfl, Or.inr ⟨rfl, fun ⟨k1, hk1, hr⟩ => by have := (nI_eq (by omega) (by omega)).mp hr; omega⟩⟩) hg hS dMM_isRow_15
    · skip
      have c_7 : ¬ (6 ≤ k) := fun h => c_7 ((nI_leI (by omega) (by omega)).mpr h)
      refine lv_iconst (v := nI 1) S0.1 S0.2.1 dMM_isRow_10 (by decide) ?_
      refine lv_goto (tgt := 15) S0.1 S0.2.1 dMM_isRow_11 (by decide) ?_
      exact hend _ _ _ _ _ _ _ _ (by decide) (by decide) rfl (⟨rfl, Or.inl ⟨rfl, k, by omega, rfl⟩⟩) hg hS dMM_isRow_15
set_option maxRecDepth 100000 in
set_option maxHeartbeats 4000000 in
theorem c_MM_thrown (l : Launch) (D : va_G) (cI cR cJ : ClassId) (g : Nat → Option va_E) (sz : Nat) (mm : Nat) (q : Nat → Nat) (hq : qinj q) (v0 v3 v4 v9 v12 v14 v16 v17 v21 v23 v25 : Int32) (h0 : g mm = some (mmC q v0 v3 v4 v9 v12 v14 v16 v17 v21 v23 v25)) : hMi l yMM_thrown cMM_thrown 1 .int (hRm 0 0 0 0) D (hT cI cR cJ) g sz [.ref mm] (fun o g1 => g1 = g ∧ o = v0) := by
  refine hMi_of (by decide +kernel) (Nat.le_of_ble_eq_true rfl) ?_
  intro pX eX RX sX mX argsX belowX methX cX QX AX hR S0 hnm hsz hg hK hS hA0 hend ls hl
  have hl : lv_has ls 1 [(0, .ref mm)] := hl
  refine lv_aload_n S0.1 S0.2.1 dMM_thrown_0 rfl (lv_at hl 0 rfl) ?_
  refine hw_get S0 hK hg h0 rfl inMM 0 (by decide) lf_MM_64 rfl rfl dMM_thrown_1 ?_
  exact hend _ _ _ _ _ _ _ _ (by decide) (by decide) rfl (⟨rfl, rfl⟩) hg hS dMM_thrown_4
/-- what is thrown: 1 before 2 -/
def rfs (x y : Nat) : Nat := if x = 0 then (if y = 0 then 0 else 2) else 1
set_option maxRecDepth 100000 in
set_option maxHeartbeats 4000000 in
theorem c_MM_refuse (l : Launch) (D : va_G) (cI cR cJ : ClassId) (g : Nat → Option va_E) (sz : Nat) (mm : Nat) (q : Nat → Nat) (hq : qinj q) (v0 v3 v4 v9 v12 v14 v16 v17 v21 v23 v25 : Int32) (x y : Nat) (hx : x < 2) (hy : y < 2) (h0 : g mm = some (mmC q v0 v3 v4 v9 v12 v14 v16 v17 v21 v23 v25)) : hMi l yMM_refuse cMM_refuse 3 .boolean (hRm 0 0 0 0) D (hT cI cR cJ) g sz [.ref mm, .int (nI x), .int (nI y)] (fun o g1 => hfr g g1 [mm] ∧ g1 mm = some (mmC q (nI (rfs x y)) v3 v4 v9 v12 v14 v16 v17 v21 v23 v25) ∧ ((o = nI 1 ∧ 0 < rfs x y) ∨ (o = nI 0 ∧ rfs x y = 0))) := by
  refine hMi_of (by decide +kernel) (Nat.le_of_ble_eq_true rfl) ?_
  intro pX eX RX sX mX argsX belowX methX cX QX AX hR S0 hnm hsz hg hK hS hA0 hend ls hl
  have hl : lv_has ls 3 [(0, .ref mm), (1, .int (nI x)), (2, .int (nI y))] := hl
  have fr : hfr g g [mm] := hfr.rf
  refine lv_aload_n S0.1 S0.2.1 dMM_refuse_0 rfl (lv_at hl 0 rfl) ?_
  refine lv_iload_n S0.1 S0.2.1 dMM_refuse_1 rfl (lv_at hl 1 rfl) ?_
  refine lv_if_eq (tgt := 9) S0.1 S0.2.1 dMM_refuse_2 (by decide) (fun c_2 => ?_) (fun c_2 => ?_)
  · skip
    rw [← nI_0] at c_2
    have c_2 : x = 0 := (nI_eq (by omega) (by omega)).mp c_2
    refine lv_iload_n S0.1 S0.2.1 dMM_refuse_9 rfl (lv_at hl 2 rfl) ?_
    refine lv_if_eq (tgt := 17) S0.1 S0.2.1 dMM_refuse_10 (by decide) (fun c_10 => ?_) (fun c_10 => ?_)
    · skip
      rw [← nI_0] at c_10
      have c_10 : y = 0 := (nI_eq (by omega) (by omega)).mp c_10
      have er : rfs x y = 0 := (if_pos c_2).trans (if_pos c_10)
      refine lv_iconst (v := nI 0) S0.1 S0.2.1 dMM_refuse_17 (by decide) ?_
      refine hw_put S0 hK hg hS h0 rfl inMM tyMM tokMM nmMM 0 (by decide) lf_MM_64 rfl rfl rfl rfl (Nat.le_of_ble_eq_true rfl) dMM_refuse_18 (fun H locs hg hS => ?_)
      obtain ⟨g_1, eg_1⟩ : ∃ z, z = hs g mm (mmC q (nI 0) v3 v4 v9 v12 v14 v16 v17 v21 v23 v25) := ⟨_, rfl⟩
      have hg : hw D hC AX g_1 H := by rw [eg_1]; exact hg
      have f1_0 : g_1 mm = some (mmC q (nI 0) v3 v4 v9 v12 v14 v16 v17 v21 v23 v25) := by rw [eg_1]; exact hs_s _ _ _
      have fr := fr.put eg_1 (by simp)
      refine lv_aload_n S0.1 S0.2.1 dMM_refuse_21 rfl (lv_at hl 0 rfl) ?_
      refine hw_get S0 hK hg f1_0 rfl inMM 0 (by decide) lf_MM_64 rfl rfl dMM_refuse_22 ?_
      refine lv_if_le (tgt := 32) S0.1 S0.2.1 dMM_refuse_25 (by decide) (fun c_25 => ?_) (fun c_25 => ?_)
      · skip
        rw [← nI_0] at c_25
        have c_25 : 0 ≤ 0 := (nI_leI (by omega) (by omega)).mp c_25
        refine lv_iconst (v := nI 0) S0.1 S0.2.1 dMM_refuse_32 (by decide) ?_
        exact hend _ _ _ _ _ _ _ _ (by decide) (by decide) rfl (⟨fr, by rw [er]; exact f1_0, Or.inr ⟨rfl, er⟩⟩) hg hS dMM_refuse_33
      · skip
        rw [← nI_0] at c_25
        have c_25 : ¬ (0 ≤ 0) := fun h => c_25 ((nI_leI (by omega) (by omega)).mpr h)
        omega
    · skip
      rw [← nI_0] at c_10
      have c_10 : ¬ (y = 0) := fun h => c_10 ((nI_eq (by omega) (by omega)).mpr h)
      have er : rfs x y = 2 := (if_pos c_2).trans (if_neg c_10)
      refine lv_iconst (v := nI 2) S0.1 S0.2.1 dMM_refuse_13 (by decide) ?_
      refine lv_goto (tgt := 18) S0.1 S0.2.1 dMM_refuse_14 (by decide) ?_
      refine hw_put S0 hK hg hS h0 rfl inMM tyMM tokMM nmMM 0 (by decide) lf_MM_64 rfl rfl rfl rfl (Nat.le_of_ble_eq_true rfl) dMM_refuse_18 (fun H locs hg hS => ?_)
      obtain ⟨g_2, eg_2⟩ : ∃ z, z = hs g mm (mmC q (nI 2) v3 v4 v9 v12 v14 v16 v17 v21 v23 v25) := ⟨_, rfl⟩
      have hg : hw D hC AX g_2 H := by rw [eg_2]; exact hg
      have f2_0 : g_2 mm = some (mmC q (nI 2) v3 v4 v9 v12 v14 v16 v17 v21 v23 v25) := by rw [eg_2]; exact hs_s _ _ _
      have fr := fr.put eg_2 (by simp)
      refine lv_aload_n S0.1 S0.2.1 dMM_refuse_21 rfl (lv_at hl 0 rfl) ?_
      refine hw_get S0 hK hg f2_0 rfl inMM 0 (by decide) lf_MM_64 rfl rfl dMM_refuse_22 ?_
      refine lv_if_le (tgt := 32) S0.1 S0.2.1 dMM_refuse_25 (by decide) (fun c_25 => ?_) (fun c_25 => ?_)
      · skip
        rw [← nI_0] at c_25
        have c_25 : 2 ≤ 0 := (nI_leI (by omega) (by omega)).mp c_25
        omega
      · skip
        rw [← nI_0] at c_25
        have c_25 : ¬ (2 ≤ 0) := fun h => c_25 ((nI_leI (by omega) (by omega)).mpr h)
        refine lv_iconst (v := nI 1) S0.1 S0.2.1 dMM_refuse_28 (by decide) ?_
        refine lv_goto (tgt := 33) S0.1 S0.2.1 dMM_refuse_29 (by decide) ?_
        exact hend _ _ _ _ _ _ _ _ (by decide) (by decide) rfl (⟨fr, by rw [er]; exact f2_0, Or.inl ⟨rfl, by omega⟩⟩) hg hS dMM_refuse_33
  · skip
    rw [← nI_0] at c_2
    have c_2 : ¬ (x = 0) := fun h => c_2 ((nI_eq (by omega) (by omega)).mpr h)
    have er : rfs x y = 1 := if_neg c_2
    refine lv_iconst (v := nI 1) S0.1 S0.2.1 dMM_refuse_5 (by decide) ?_
    refine lv_goto (tgt := 18) S0.1 S0.2.1 dMM_refuse_6 (by decide) ?_
    refine hw_put S0 hK hg hS h0 rfl inMM tyMM tokMM nmMM 0 (by decide) lf_MM_64 rfl rfl rfl rfl (Nat.le_of_ble_eq_true rfl) dMM_refuse_18 (fun H locs hg hS => ?_)
    obtain ⟨g_3, eg_3⟩ : ∃ z, z = hs g mm (mmC q (nI 1) v3 v4 v9 v12 v14 v16 v17 v21 v23 v25) := ⟨_, rfl⟩
    have hg : hw D hC AX g_3 H := by rw [eg_3]; exact hg
    have f3_0 : g_3 mm = some (mmC q (nI 1) v3 v4 v9 v12 v14 v16 v17 v21 v23 v25) := by rw [eg_3]; exact hs_s _ _ _
    have fr := fr.put eg_3 (by simp)
    refine lv_aload_n S0.1 S0.2.1 dMM_refuse_21 rfl (lv_at hl 0 rfl) ?_
    refine hw_get S0 hK hg f3_0 rfl inMM 0 (by decide) lf_MM_64 rfl rfl dMM_refuse_22 ?_
    refine lv_if_le (tgt := 32) S0.1 S0.2.1 dMM_refuse_25 (by decide) (fun c_25 => ?_) (fun c_25 => ?_)
    · skip
      rw [← nI_0] at c_25
      have c_25 : 1 ≤ 0 := (nI_leI (by omega) (by omega)).mp c_25
      omega
    · skip
      rw [← nI_0] at c_25
      have c_25 : ¬ (1 ≤ 0) := fun h => c_25 ((nI_leI (by omega) (by omega)).mpr h)
      refine lv_iconst (v := nI 1) S0.1 S0.2.1 dMM_refuse_28 (by decide) ?_
      refine lv_goto (tgt := 33) S0.1 S0.2.1 dMM_refuse_29 (by decide) ?_
      exact hend _ _ _ _ _ _ _ _ (by decide) (by decide) rfl (⟨fr, by rw [er]; exact f3_0, Or.inl ⟨rfl, by omega⟩⟩) hg hS dMM_refuse_33
set_option maxRecDepth 100000 in
set_option maxHeartbeats 4000000 in
theorem c_MM_first (l : Launch) (D : va_G) (cI cR cJ : ClassId) (g : Nat → Option va_E) (sz : Nat) (mm : Nat) (q : Nat → Nat) (hq : qinj q) (v0 v3 v4 v9 v12 v14 v16 v17 v21 v23 v25 : Int32) (sr at_ cs : Nat) (zs : List Int32) (fs fx : Nat → Int32) (h0 : g mm = some (mmC q v0 v3 v4 v9 v12 v14 v16 v17 v21 v23 v25)) (hx : g (q 2) = some (.inl (cI, 60, .inl fx))) (h2 : g sr = some (.inl (cI, cs, .inl fs))) (hsr : sr ≠ q 2) (hz : ∀ k, k < zs.length → fs (at_ + k) = zs.getD k 0) (hz6 : zs.length ≤ 60) (hat : at_ + zs.length ≤ cs) (hcs : cs < 4000) : hMv l yMM_first cMM_first 5 (hRm 0 0 0 0) D (hT cI cR cJ) g sz [.ref mm, .ref sr, .int (nI at_), .int (nI zs.length)] (fun g1 => hfr g g1 [mm, q 2] ∧ g1 mm = some (mmC q v0 (nI zs.length) v4 v9 v12 v14 v16 v17 v21 v23 v25) ∧ ∃ f1, g1 (q 2) = some (.inl (cI, 60, .inl f1)) ∧ rp f1 zs) := by
  refine hMv_of (by decide +kernel) (Nat.le_of_ble_eq_true rfl) ?_
  intro pX eX RX sX mX argsX belowX methX cX QX AX hR S0 hnm hsz hg hK hS hA0 hend ls hl
  have hl : lv_has ls 5 [(0, .ref mm), (1, .ref sr), (2, .int (nI at_)), (3, .int (nI zs.length))] := hl
  have fr : hfr g g [mm, q 2] := hfr.rf
  refine lv_aload_n S0.1 S0.2.1 dMM_first_0 rfl (lv_at hl 0 rfl) ?_
  refine lv_iload_n S0.1 S0.2.1 dMM_first_1 rfl (lv_at hl 3 rfl) ?_
  refine hw_put S0 hK hg hS h0 rfl inMM tyMM tokMM nmMM 3 (by decide) lf_MM_76 rfl rfl rfl rfl (Nat.le_of_ble_eq_true rfl) dMM_first_2 (fun H locs hg hS => ?_)
  obtain ⟨g_1, eg_1⟩ : ∃ z, z = hs g mm (mmC q v0 (nI zs.length) v4 v9 v12 v14 v16 v17 v21 v23 v25) := ⟨_, rfl⟩
  have hg : hw D hC AX g_1 H := by rw [eg_1]; exact hg
  have f1_0 : g_1 (q 2) = some (.inl (cI, 60, .inl fx)) := by rw [eg_1, hs_n _ _ (h_ne hx h0 (fun h => by cases h))]; exact hx
  have f1_1 : g_1 sr = some (.inl (cI, cs, .inl fs)) := by rw [eg_1, hs_n _ _ (h_ne h2 h0 (fun h => by cases h))]; exact h2
  have f1_2 : g_1 mm = some (mmC q v0 (nI zs.length) v4 v9 v12 v14 v16 v17 v21 v23 v25) := by rw [eg_1]; exact hs_s _ _ _
  have fr := fr.put eg_1 (by simp)
  refine lv_iconst (v := nI 0) S0.1 S0.2.1 dMM_first_5 (by decide) ?_
  refine lv_istore (lv' := [(4, .int (nI 0)), (0, .ref mm), (1, .ref sr), (2, .int (nI at_)), (3, .int (nI zs.length))]) S0.1 S0.2.1 dMM_first_6 hl (by decide) rfl (fun ls hl => ?_)
  have loop_8 : ∀ (n_8 : Nat) (k : Nat) (fk : Nat → Int32) (gl : Nat → Option va_E) (H : Heap) (locs : List Loc) (ls : Array Slot), zs.length - k < n_8 → (k ≤ zs.length) → (∀ i, i < k → fk i = zs.getD i 0) → (hfr g gl [mm, q 2]) → (gl mm = some (mmC q v0 (nI zs.length) v4 v9 v12 v14 v16 v17 v21 v23 v25)) → (gl (q 2) = some (.inl (cI, 60, .inl fk))) → hw D hC AX gl H → va_S AX sX.heap H locs → lv_has ls 5 [(0, .ref mm), (1, .ref sr), (2, .int (nI at_)), (3, .int (nI zs.length)), (4, .int (nI k))] → W pX l eX RX sX mX argsX belowX methX cX H locs 0 0 QX (F0 mX 8 ls []) := by
    intro n_8
    induction n_8 with
    | zero => intros; omega
    | succ n_8 ih_8 =>
      intro k fk gl H locs ls hm_8 hk hf1 fr e0 e1 hg hS hl
      have q8_sr := fr.at (h_nm (h_ne f1_1 f1_2 (fun h => by cases h)) (h_nm hsr h_n0)) h2
      refine lv_iload S0.1 S0.2.1 dMM_first_8 (lv_at hl 4 rfl) ?_
      refine lv_iload_n S0.1 S0.2.1 dMM_first_10 rfl (lv_at hl 3 rfl) ?_
      refine lv_icmp_ge (tgt := 33) S0.1 S0.2.1 dMM_first_11 (by decide) (fun c_11 => ?_) (fun c_11 => ?_)
      · skip
        have c_11 : zs.length ≤ k := (nI_leI (by omega) (by omega)).mp c_11
        exact hend _ _ _ _ _ _ _ (by decide) (by decide) (⟨fr, e0, fk, e1, fun i h => hf1 i (by omega)⟩) hg hS dMM_first_33
      · skip
        have c_11 : ¬ (zs.length ≤ k) := fun h => c_11 ((nI_leI (by omega) (by omega)).mpr h)
        refine lv_aload_n S0.1 S0.2.1 dMM_first_14 rfl (lv_at hl 0 rfl) ?_
        refine hw_get S0 hK hg e0 rfl inMM 5 (by decide) lf_MM_16 rfl rfl dMM_first_15 ?_
        refine lv_iload S0.1 S0.2.1 dMM_first_18 (lv_at hl 4 rfl) ?_
        refine lv_aload_n S0.1 S0.2.1 dMM_first_20 rfl (lv_at hl 1 rfl) ?_
        refine lv_iload_n S0.1 S0.2.1 dMM_first_21 rfl (lv_at hl 2 rfl) ?_
        refine lv_iload S0.1 S0.2.1 dMM_first_22 (lv_at hl 4 rfl) ?_
        refine lv_iadd S0.1 S0.2.1 dMM_first_24 ?_
        refine hw_top (nI (at_ + k)) (nI_add _ _) ?_
        refine hw_iald S0 hK hg q8_sr 0 rfl (by omega) (by omega) dMM_first_25 ?_
        refine hw_iast S0 hK hg hS e1 0 rfl (by omega) (by omega) dMM_first_26 (fun H locs hg hS => ?_)
        obtain ⟨g_2, eg_2⟩ : ∃ z, z = hs gl (q 2) (.inl (cI, 60, .inl (upd fk k (fs (at_ + k))))) := ⟨_, rfl⟩
        have hg : hw D hC AX g_2 H := by rw [eg_2]; exact hg
        have f2_0 : g_2 sr = some (.inl (cI, cs, .inl fs)) := by rw [eg_2, hs_n _ _ hsr]; exact q8_sr
        have f2_1 : g_2 mm = some (mmC q v0 (nI zs.length) v4 v9 v12 v14 v16 v17 v21 v23 v25) := by rw [eg_2, hs_n _ _ (h_ne e0 e1 (fun h => by cases h))]; exact e0
        have f2_2 : g_2 (q 2) = some (.inl (cI, 60, .inl (upd fk k (fs (at_ + k))))) := by rw [eg_2]; exact hs_s _ _ _
        have fr := fr.put eg_2 (by simp)
        refine lv_iinc (v := nI (k + 1)) (lv' := [(4, .int (nI (k + 1))), (0, .ref mm), (1, .ref sr), (2, .int (nI at_)), (3, .int (nI zs.length))]) S0.1 S0.2.1 dMM_first_27 hl (k := 4) rfl (by exact nI_add _ 1) (by decide) rfl (fun ls hl => ?_)
        refine lv_goto (tgt := 8) S0.1 S0.2.1 dMM_first_30 (by decide) ?_
        exact ih_8 (k + 1) (upd fk k (fs (at_ + k))) g_2 _ _ _ (by omega) (by omega) (fun i h => by rcases Nat.lt_or_ge i k with h9 | h9; rw [pk_un (by omega)]; exact hf1 i h9; rw [show i = k by omega, pk_us]; exact hz k (by omega)) fr f2_1 f2_2 hg hS (lv_sub hl [1, 2, 3, 4, 0] rfl)
  exact loop_8 _ 0 fx g_1 _ _ _ (Nat.lt_succ_self _) (Nat.zero_le _) (fun i h => absurd h (Nat.not_lt_zero i)) fr f1_2 f1_0 hg hS (lv_sub hl [1, 2, 3, 4, 0] rfl)
set_option maxRecDepth 100000 in
set_option maxHeartbeats 4000000 in
theorem c_MM_second (l : Launch) (D : va_G) (cI cR cJ : ClassId) (g : Nat → Option va_E) (sz : Nat) (mm : Nat) (q : Nat → Nat) (hq : qinj q) (v0 v3 v4 v9 v12 v14 v16 v17 v21 v23 v25 : Int32) (sr at_ cs : Nat) (zs : List Int32) (fs fy : Nat → Int32) (h0 : g mm = some (mmC q v0 v3 v4 v9 v12 v14 v16 v17 v21 v23 v25)) (hy : g (q 3) = some (.inl (cI, 60, .inl fy))) (h2 : g sr = some (.inl (cI, cs, .inl fs))) (hsr : sr ≠ q 3) (hz : ∀ k, k < zs.length → fs (at_ + k) = zs.getD k 0) (hz6 : zs.length ≤ 60) (hat : at_ + zs.length ≤ cs) (hcs : cs < 4000) : hMv l yMM_second cMM_second 5 (hRm 0 0 0 0) D (hT cI cR cJ) g sz [.ref mm, .ref sr, .int (nI at_), .int (nI zs.length)] (fun g1 => hfr g g1 [mm, q 3] ∧ g1 mm = some (mmC q v0 v3 (nI zs.length) v9 v12 v14 v16 v17 v21 v23 v25) ∧ ∃ f1, g1 (q 3) = some (.inl (cI, 60, .inl f1)) ∧ rp f1 zs) := by
  refine hMv_of (by decide +kernel) (Nat.le_of_ble_eq_true rfl) ?_
  intro pX eX RX sX mX argsX belowX methX cX QX AX hR S0 hnm hsz hg hK hS hA0 hend ls hl
  have hl : lv_has ls 5 [(0, .ref mm), (1, .ref sr), (2, .int (nI at_)), (3, .int (nI zs.length))] := hl
  have fr : hfr g g [mm, q 3] := hfr.rf
  refine lv_aload_n S0.1 S0.2.1 dMM_second_0 rfl (lv_at hl 0 rfl) ?_
  refine lv_iload_n S0.1 S0.2.1 dMM_second_1 rfl (lv_at hl 3 rfl) ?_
  refine hw_put S0 hK hg hS h0 rfl inMM tyMM tokMM nmMM 4 (by decide) lf_MM_79 rfl rfl rfl rfl (Nat.le_of_ble_eq_true rfl) dMM_second_2 (fun H locs hg hS => ?_)
  obtain ⟨g_1, eg_1⟩ : ∃ z, z = hs g mm (mmC q v0 v3 (nI zs.length) v9 v12 v14 v16 v17 v21 v23 v25) := ⟨_, rfl⟩
  have hg : hw D hC AX g_1 H := by rw [eg_1]; exact hg
  have f1_0 : g_1 (q 3) = some (.inl (cI, 60, .inl fy)) := by rw [eg_1, hs_n _ _ (h_ne hy h0 (fun h => by cases h))]; exact hy
  have f1_1 : g_1 sr = some (.inl (cI, cs, .inl fs)) := by rw [eg_1, hs_n _ _ (h_ne h2 h0 (fun h => by cases h))]; exact h2
  have f1_2 : g_1 mm = some (mmC q v0 v3 (nI zs.length) v9 v12 v14 v16 v17 v21 v23 v25) := by rw [eg_1]; exact hs_s _ _ _
  have fr := fr.put eg_1 (by simp)
  refine lv_iconst (v := nI 0) S0.1 S0.2.1 dMM_second_5 (by decide) ?_
  refine lv_istore (lv' := [(4, .int (nI 0)), (0, .ref mm), (1, .ref sr), (2, .int (nI at_)), (3, .int (nI zs.length))]) S0.1 S0.2.1 dMM_second_6 hl (by decide) rfl (fun ls hl => ?_)
  have loop_8 : ∀ (n_8 : Nat) (k : Nat) (fk : Nat → Int32) (gl : Nat → Option va_E) (H : Heap) (locs : List Loc) (ls : Array Slot), zs.length - k < n_8 → (k ≤ zs.length) → (∀ i, i < k → fk i = zs.getD i 0) → (hfr g gl [mm, q 3]) → (gl mm = some (mmC q v0 v3 (nI zs.length) v9 v12 v14 v16 v17 v21 v23 v25)) → (gl (q 3) = some (.inl (cI, 60, .inl fk))) → hw D hC AX gl H → va_S AX sX.heap H locs → lv_has ls 5 [(0, .ref mm), (1, .ref sr), (2, .int (nI at_)), (3, .int (nI zs.length)), (4, .int (nI k))] → W pX l eX RX sX mX argsX belowX methX cX H locs 0 0 QX (F0 mX 8 ls []) := by
    intro n_8
    induction n_8 with
    | zero => intros; omega
    | succ n_8 ih_8 =>
      intro k fk gl H locs ls hm_8 hk hf1 fr e0 e1 hg hS hl
      have q8_sr := fr.at (h_nm (h_ne f1_1 f1_2 (fun h => by cases h)) (h_nm hsr h_n0)) h2
      refine lv_iload S0.1 S0.2.1 dMM_second_8 (lv_at hl 4 rfl) ?_
      refine lv_iload_n S0.1 S0.2.1 dMM_second_10 rfl (lv_at hl 3 rfl) ?_
      refine lv_icmp_ge (tgt := 33) S0.1 S0.2.1 dMM_second_11 (by decide) (fun c_11 => ?_) (fun c_11 => ?_)
      · skip
        have c_11 : zs.length ≤ k := (nI_leI (by omega) (by omega)).mp c_11
        exact hend _ _ _ _ _ _ _ (by decide) (by decide) (⟨fr, e0, fk, e1, fun i h => hf1 i (by omega)⟩) hg hS dMM_second_33
      · skip
        have c_11 : ¬ (zs.length ≤ k) := fun h => c_11 ((nI_leI (by omega) (by omega)).mpr h)
        refine lv_aload_n S0.1 S0.2.1 dMM_second_14 rfl (lv_at hl 0 rfl) ?_
        refine hw_get S0 hK hg e0 rfl inMM 6 (by decide) lf_MM_19 rfl rfl dMM_second_15 ?_
        refine lv_iload S0.1 S0.2.1 dMM_second_18 (lv_at hl 4 rfl) ?_
        refine lv_aload_n S0.1 S0.2.1 dMM_second_20 rfl (lv_at hl 1 rfl) ?_
        refine lv_iload_n S0.1 S0.2.1 dMM_second_21 rfl (lv_at hl 2 rfl) ?_
        refine lv_iload S0.1 S0.2.1 dMM_second_22 (lv_at hl 4 rfl) ?_
        refine lv_iadd S0.1 S0.2.1 dMM_second_24 ?_
        refine hw_top (nI (at_ + k)) (nI_add _ _) ?_
        refine hw_iald S0 hK hg q8_sr 0 rfl (by omega) (by omega) dMM_second_25 ?_
        refine hw_iast S0 hK hg hS e1 0 rfl (by omega) (by omega) dMM_second_26 (fun H locs hg hS => ?_)
        obtain ⟨g_2, eg_2⟩ : ∃ z, z = hs gl (q 3) (.inl (cI, 60, .inl (upd fk k (fs (at_ + k))))) := ⟨_, rfl⟩
        have hg : hw D hC AX g_2 H := by rw [eg_2]; exact hg
        have f2_0 : g_2 sr = some (.inl (cI, cs, .inl fs)) := by rw [eg_2, hs_n _ _ hsr]; exact q8_sr
        have f2_1 : g_2 mm = some (mmC q v0 v3 (nI zs.length) v9 v12 v14 v16 v17 v21 v23 v25) := by rw [eg_2, hs_n _ _ (h_ne e0 e1 (fun h => by cases h))]; exact e0
        have f2_2 : g_2 (q 3) = some (.inl (cI, 60, .inl (upd fk k (fs (at_ + k))))) := by rw [eg_2]; exact hs_s _ _ _
        have fr := fr.put eg_2 (by simp)
        refine lv_iinc (v := nI (k + 1)) (lv' := [(4, .int (nI (k + 1))), (0, .ref mm), (1, .ref sr), (2, .int (nI at_)), (3, .int (nI zs.length))]) S0.1 S0.2.1 dMM_second_27 hl (k := 4) rfl (by exact nI_add _ 1) (by decide) rfl (fun ls hl => ?_)
        refine lv_goto (tgt := 8) S0.1 S0.2.1 dMM_second_30 (by decide) ?_
        exact ih_8 (k + 1) (upd fk k (fs (at_ + k))) g_2 _ _ _ (by omega) (by omega) (fun i h => by rcases Nat.lt_or_ge i k with h9 | h9; rw [pk_un (by omega)]; exact hf1 i h9; rw [show i = k by omega, pk_us]; exact hz k (by omega)) fr f2_1 f2_2 hg hS (lv_sub hl [1, 2, 3, 4, 0] rfl)
  exact loop_8 _ 0 fy g_1 _ _ _ (Nat.lt_succ_self _) (Nat.zero_le _) (fun i h => absurd h (Nat.not_lt_zero i)) fr f1_2 f1_0 hg hS (lv_sub hl [1, 2, 3, 4, 0] rfl)
/-- the rows in the arrays of the reference -/
def rpR (fs fl : Nat → Int32) (rw : Nat → List Int32) : Prop := ∀ r, r < 6 → fs r = nI (rw r).length ∧ (rw r).length ≤ 60 ∧ ∀ k, k < (rw r).length → fl (60 * r + k) = (rw r).getD k 0
set_option maxRecDepth 100000 in
set_option maxHeartbeats 4000000 in
theorem c_MM_rows (l : Launch) (D : va_G) (cI cR cJ : ClassId) (g : Nat → Option va_E) (sz : Nat) (mm : Nat) (q : Nat → Nat) (hq : qinj q) (v0 v3 v4 v9 v12 v14 v16 v17 v21 v23 v25 : Int32) (r1 r2 : Nat) (rw_ : Nat → List Int32) (fsizes flines fx fy : Nat → Int32) (h0 : g mm = some (mmC q v0 v3 v4 v9 v12 v14 v16 v17 v21 v23 v25)) (hsizes : g (q 0) = some (.inl (cI, 6, .inl fsizes))) (hlines : g (q 1) = some (.inl (cI, 360, .inl flines))) (hx : g (q 2) = some (.inl (cI, 60, .inl fx))) (hy : g (q 3) = some (.inl (cI, 60, .inl fy))) (hR_ : rpR fsizes flines rw_) (hr1 : r1 < 6) (hr2 : r2 < 6) : hMv l yMM_rows cMM_rows 3 (hRm 1 24 0 0) D (hT cI cR cJ) g sz [.ref mm, .int (nI r1), .int (nI r2)] (fun g1 => hfr g g1 [mm, q 2, q 3] ∧ g1 mm = some (mmC q v0 (nI ((rw_ r1).length)) (nI ((rw_ r2).length)) v9 v12 v14 v16 v17 v21 v23 v25) ∧ ∃ f1 f2 : Nat → Int32, g1 (q 2) = some (.inl (cI, 60, .inl f1)) ∧ g1 (q 3) = some (.inl (cI, 60, .inl f2)) ∧ rp f1 (rw_ r1) ∧ rp f2 (rw_ r2)) := by
  refine hMv_of (by decide +kernel) (Nat.le_of_ble_eq_true rfl) ?_
  intro pX eX RX sX mX argsX belowX methX cX QX AX hR S0 hnm hsz hg hK hS hA0 hend ls hl
  have hl : lv_has ls 3 [(0, .ref mm), (1, .int (nI r1)), (2, .int (nI r2))] := hl
  have fr : hfr g g [mm, q 2, q 3] := hfr.rf
  obtain ⟨s1, s2, s3⟩ := hR_ r1 hr1
  obtain ⟨t1, t2, t3⟩ := hR_ r2 hr2
  refine lv_aload_n S0.1 S0.2.1 dMM_rows_0 rfl (lv_at hl 0 rfl) ?_
  refine lv_aload_n S0.1 S0.2.1 dMM_rows_1 rfl (lv_at hl 0 rfl) ?_
  refine hw_get S0 hK hg h0 rfl inMM 2 (by decide) lf_MM_13 rfl rfl dMM_rows_2 ?_
  refine lv_bipush (v := nI 60) S0.1 S0.2.1 dMM_rows_5 (by decide) ?_
  refine lv_iload_n S0.1 S0.2.1 dMM_rows_7 rfl (lv_at hl 1 rfl) ?_
  refine lv_imul S0.1 S0.2.1 dMM_rows_8 ?_
  refine hw_top (nI (60 * r1)) (pk_mul _ _) ?_
  refine lv_aload_n S0.1 S0.2.1 dMM_rows_9 rfl (lv_at hl 0 rfl) ?_
  refine hw_get S0 hK hg h0 rfl inMM 1 (by decide) lf_MM_7 rfl rfl dMM_rows_10 ?_
  refine lv_iload_n S0.1 S0.2.1 dMM_rows_13 rfl (lv_at hl 1 rfl) ?_
  refine hw_iald S0 hK hg hsizes 0 rfl (by omega) (by omega) dMM_rows_14 ?_
  refine hw_top (nI ((rw_ r1).length)) s1 ?_
  refine hw_Vv (As := [.ref (q 1), .int (nI (60 * r1)), .int (nI ((rw_ r1).length))]) (rest := []) S0 hK hg hS hA0 h0 rfl (c_MM_first l D cI cR cJ g _ mm q hq v0 v3 v4 v9 v12 v14 v16 v17 v21 v23 v25 (q 1) (60 * r1) 360 (rw_ r1) flines fx h0 hx hlines (qne hq (by decide) (by decide) (by decide)) s3 s2 (by omega) (by omega)) kMM_first lm_MM_82 (hR.call rfl) rfl hl.1 rfl (Nat.le_of_ble_eq_true rfl) dMM_rows_15 (hR.new (by decide) (by decide)) (fun g_1 H locs hp_15 hg hS => ?_)
  obtain ⟨fr_x, a0_x, f1_x, a1_x, a2_x⟩ := hp_15
  have k1_0 := fr_x.at (h_nm (h_ne hsizes h0 (fun h => by cases h)) (h_nm (qne hq (by decide) (by decide) (by decide)) h_n0)) hsizes
  have k1_1 := fr_x.at (h_nm (h_ne hlines h0 (fun h => by cases h)) (h_nm (qne hq (by decide) (by decide) (by decide)) h_n0)) hlines
  have k1_2 := fr_x.at (h_nm (h_ne hy h0 (fun h => by cases h)) (h_nm (qne hq (by decide) (by decide) (by decide)) h_n0)) hy
  have fr := fr.call fr_x (by simp)
  refine lv_aload_n S0.1 S0.2.1 dMM_rows_18 rfl (lv_at hl 0 rfl) ?_
  refine lv_aload_n S0.1 S0.2.1 dMM_rows_19 rfl (lv_at hl 0 rfl) ?_
  refine hw_get S0 hK hg a0_x rfl inMM 2 (by decide) lf_MM_13 rfl rfl dMM_rows_20 ?_
  refine lv_bipush (v := nI 60) S0.1 S0.2.1 dMM_rows_23 (by decide) ?_
  refine lv_iload_n S0.1 S0.2.1 dMM_rows_25 rfl (lv_at hl 2 rfl) ?_
  refine lv_imul S0.1 S0.2.1 dMM_rows_26 ?_
  refine hw_top (nI (60 * r2)) (pk_mul _ _) ?_
  refine lv_aload_n S0.1 S0.2.1 dMM_rows_27 rfl (lv_at hl 0 rfl) ?_
  refine hw_get S0 hK hg a0_x rfl inMM 1 (by decide) lf_MM_7 rfl rfl dMM_rows_28 ?_
  refine lv_iload_n S0.1 S0.2.1 dMM_rows_31 rfl (lv_at hl 2 rfl) ?_
  refine hw_iald S0 hK hg k1_0 0 rfl (by omega) (by omega) dMM_rows_32 ?_
  refine hw_top (nI ((rw_ r2).length)) t1 ?_
  refine hw_Vv (As := [.ref (q 1), .int (nI (60 * r2)), .int (nI ((rw_ r2).length))]) (rest := []) S0 hK hg hS hA0 a0_x rfl (c_MM_second l D cI cR cJ g_1 _ mm q hq v0 (nI ((rw_ r1).length)) v4 v9 v12 v14 v16 v17 v21 v23 v25 (q 1) (60 * r2) 360 (rw_ r2) flines fy a0_x k1_2 k1_1 (qne hq (by decide) (by decide) (by decide)) t3 t2 (by omega) (by omega)) kMM_second lm_MM_86 (hR.call rfl) rfl hl.1 rfl (Nat.le_of_ble_eq_true rfl) dMM_rows_33 (hR.new (by decide) (by decide)) (fun g_2 H locs hp_33 hg hS => ?_)
  obtain ⟨fr_y, a0_y, f1_y, a1_y, a2_y⟩ := hp_33
  have k2_0 := fr_y.at (h_nm (h_ne k1_0 a0_x (fun h => by cases h)) (h_nm (qne hq (by decide) (by decide) (by decide)) h_n0)) k1_0
  have k2_1 := fr_y.at (h_nm (h_ne k1_1 a0_x (fun h => by cases h)) (h_nm (qne hq (by decide) (by decide) (by decide)) h_n0)) k1_1
  have k2_2 := fr_y.at (h_nm (h_ne a1_x a0_x (fun h => by cases h)) (h_nm (qne hq (by decide) (by decide) (by decide)) h_n0)) a1_x
  have fr := fr.call fr_y (by simp)
  exact hend _ _ _ _ _ _ _ (by decide) (by decide) (⟨fr, a0_y, f1_x, f1_y, k2_2, a1_y, a2_x, a2_y⟩) hg hS dMM_rows_36
def rpP (f : Nat → Int32) (a b : List Int32) (n : Nat) : Prop := ∀ i, i < n → f i = oI (pn a b i)
set_option maxRecDepth 100000 in
set_option maxHeartbeats 4000000 in
theorem c_MM_compare (l : Launch) (D : va_G) (cI cR cJ : ClassId) (g : Nat → Option va_E) (sz : Nat) (mm : Nat) (q : Nat → Nat) (hq : qinj q) (v0 v9 v12 v14 v16 v17 v21 v23 v25 : Int32) (a b : List Int32) (fx fy fbest fpartner : Nat → Int32) (h0 : g mm = some (mmC q v0 (nI a.length) (nI b.length) v9 v12 v14 v16 v17 v21 v23 v25)) (hx : g (q 2) = some (.inl (cI, 60, .inl fx))) (hy : g (q 3) = some (.inl (cI, 60, .inl fy))) (hbest : g (q 4) = some (.inl (cI, 3721, .inl fbest))) (hpartner : g (q 5) = some (.inl (cI, 60, .inl fpartner))) (ea : rp fx a) (eb : rp fy b) (hna : a.length ≤ 60) (hnb : b.length ≤ 60) : hMv l yMM_compare cMM_compare 7 (hRm 0 0 0 0) D (hT cI cR cJ) g sz [.ref mm] (fun g1 => hfr g g1 [q 4, q 5] ∧ ∃ f1 f2 : Nat → Int32, g1 (q 4) = some (.inl (cI, 3721, .inl f1)) ∧ g1 (q 5) = some (.inl (cI, 60, .inl f2)) ∧ rpP f2 a b a.length) := by
  refine hMv_of (by decide +kernel) (Nat.le_of_ble_eq_true rfl) ?_
  intro pX eX RX sX mX argsX belowX methX cX QX AX hR S0 hnm hsz hg hK hS hA0 hend ls hl
  have hl : lv_has ls 7 [(0, .ref mm)] := hl
  have fr : hfr g g [q 4, q 5] := hfr.rf
  refine lv_aload_n S0.1 S0.2.1 dMM_compare_0 rfl (lv_at hl 0 rfl) ?_
  refine hw_get S0 hK hg h0 rfl inMM 3 (by decide) lf_MM_76 rfl rfl dMM_compare_1 ?_
  refine lv_istore_n (lv' := [(1, .int (nI a.length)), (0, .ref mm)]) S0.1 S0.2.1 dMM_compare_4 rfl hl (by decide) rfl (fun ls hl => ?_)
  rw [← nJ_succ a.length] at hl
  have loop_5 : ∀ (n_5 : Nat) (t : Nat) (fo : Nat → Int32) (gl : Nat → Option va_E) (H : Heap) (locs : List Loc) (ls : Array Slot), t < n_5 → (t ≤ a.length + 1) → (∀ x y, t ≤ x → x ≤ a.length → y ≤ b.length → fo (61 * x + y) = nI (Lc a b x y)) → (hfr g gl [q 4, q 5]) → (gl (q 4) = some (.inl (cI, 3721, .inl fo))) → (gl (q 5) = some (.inl (cI, 60, .inl fpartner))) → hw D hC AX gl H → va_S AX sX.heap H locs → lv_has ls 7 [(0, .ref mm), (1, .int (nJ t))] → W pX l eX RX sX mX argsX belowX methX cX H locs 0 0 QX (F0 mX 5 ls []) := by
    intro n_5
    induction n_5 with
    | zero => intros; omega
    | succ n_5 ih_5 =>
      intro t fo gl H locs ls hm_5 ht hrow fr e1 e2 hg hS hl
      have q5_mm := fr.at (h_nm (h_ne h0 hbest (fun h => by cases h)) (h_nm (h_ne h0 hpartner (fun h => by cases h)) h_n0)) h0
      have q5_q2 := fr.at (h_nm (qne hq (by decide) (by decide) (by decide)) (h_nm (qne hq (by decide) (by decide) (by decide)) h_n0)) hx
      have q5_q3 := fr.at (h_nm (qne hq (by decide) (by decide) (by decide)) (h_nm (qne hq (by decide) (by decide) (by decide)) h_n0)) hy
      refine lv_iload_n S0.1 S0.2.1 dMM_compare_5 rfl (lv_at hl 1 rfl) ?_
      refine lv_if_lt (tgt := 156) S0.1 S0.2.1 dMM_compare_6 (by decide) (fun c_6 => ?_) (fun c_6 => ?_)
      · skip
        have c_6 : t = 0 := (nJ_neg (by omega)).mp c_6
        refine lv_iconst (v := nI 0) S0.1 S0.2.1 dMM_compare_156 (by decide) ?_
        refine lv_istore_n (lv' := [(1, .int (nI 0)), (0, .ref mm)]) S0.1 S0.2.1 dMM_compare_157 rfl hl (by decide) rfl (fun ls hl => ?_)
        refine lv_iconst (v := nI 0) S0.1 S0.2.1 dMM_compare_158 (by decide) ?_
        refine lv_istore_n (lv' := [(2, .int (nI 0)), (1, .int (nI 0)), (0, .ref mm)]) S0.1 S0.2.1 dMM_compare_159 rfl hl (by decide) rfl (fun ls hl => ?_)
        have loop_160 : ∀ (n_160 : Nat) (i : Nat) (fr_ : Nat) (fp : Nat → Int32) (gm : Nat → Option va_E) (H : Heap) (locs : List Loc) (ls : Array Slot), a.length - i < n_160 → (i ≤ a.length) → (fr_ = fro a b i) → (∀ x, x < i → fp x = oI (pn a b x)) → (hfr g gm [q 4, q 5]) → (gm (q 4) = some (.inl (cI, 3721, .inl fo))) → (gm (q 5) = some (.inl (cI, 60, .inl fp))) → hw D hC AX gm H → va_S AX sX.heap H locs → lv_has ls 7 [(0, .ref mm), (1, .int (nI fr_)), (2, .int (nI i))] → W pX l eX RX sX mX argsX belowX methX cX H locs 0 0 QX (F0 mX 160 ls []) := by
          intro n_160
          induction n_160 with
          | zero => intros; omega
          | succ n_160 ih_160 =>
            intro i fr_ fp gm H locs ls hm_160 hi hf hpp fr e5 e6 hg hS hl
            have q160_mm := fr.at (h_nm (h_ne q5_mm e1 (fun h => by cases h)) (h_nm (h_ne q5_mm e2 (fun h => by cases h)) h_n0)) h0
            have q160_q2 := fr.at (h_nm (qne hq (by decide) (by decide) (by decide)) (h_nm (qne hq (by decide) (by decide) (by decide)) h_n0)) hx
            have q160_q3 := fr.at (h_nm (qne hq (by decide) (by decide) (by decide)) (h_nm (qne hq (by decide) (by decide) (by decide)) h_n0)) hy
            refine lv_iload_n S0.1 S0.2.1 dMM_compare_160 rfl (lv_at hl 2 rfl) ?_
            refine lv_aload_n S0.1 S0.2.1 dMM_compare_161 rfl (lv_at hl 0 rfl) ?_
            refine hw_get S0 hK hg q160_mm rfl inMM 3 (by decide) lf_MM_76 rfl rfl dMM_compare_162 ?_
            refine lv_icmp_ge (tgt := 262) S0.1 S0.2.1 dMM_compare_165 (by decide) (fun c_165 => ?_) (fun c_165 => ?_)
            · skip
              have c_165 : a.length ≤ i := (nI_leI (by omega) (by omega)).mp c_165
              have ei : i = a.length := by omega
              subst ei
              exact hend _ _ _ _ _ _ _ (by decide) (by decide) (⟨fr, fo, fp, e5, e6, hpp⟩) hg hS dMM_compare_262
            · skip
              have c_165 : ¬ (a.length ≤ i) := fun h => c_165 ((nI_leI (by omega) (by omega)).mpr h)
              refine lv_aload_n S0.1 S0.2.1 dMM_compare_168 rfl (lv_at hl 0 rfl) ?_
              refine hw_get S0 hK hg q160_mm rfl inMM 8 (by decide) lf_MM_25 rfl rfl dMM_compare_169 ?_
              refine lv_iload_n S0.1 S0.2.1 dMM_compare_172 rfl (lv_at hl 2 rfl) ?_
              refine lv_iconst (v := (-1)) S0.1 S0.2.1 dMM_compare_173 (by decide) ?_
              refine hw_iast S0 hK hg hS e6 0 rfl (by omega) (by omega) dMM_compare_174 (fun H locs hg hS => ?_)
              obtain ⟨g_1, eg_1⟩ : ∃ z, z = hs gm (q 5) (.inl (cI, 60, .inl (upd fp i (-1)))) := ⟨_, rfl⟩
              have hg : hw D hC AX g_1 H := by rw [eg_1]; exact hg
              have f1_0 : g_1 mm = some (mmC q v0 (nI a.length) (nI b.length) v9 v12 v14 v16 v17 v21 v23 v25) := by rw [eg_1, hs_n _ _ (h_ne q160_mm e6 (fun h => by cases h))]; exact q160_mm
              have f1_1 : g_1 (q 2) = some (.inl (cI, 60, .inl fx)) := by rw [eg_1, hs_n _ _ (qne hq (by decide) (by decide) (by decide))]; exact q160_q2
              have f1_2 : g_1 (q 3) = some (.inl (cI, 60, .inl fy)) := by rw [eg_1, hs_n _ _ (qne hq (by decide) (by decide) (by decide))]; exact q160_q3
              have f1_3 : g_1 (q 4) = some (.inl (cI, 3721, .inl fo)) := by rw [eg_1, hs_n _ _ (qne hq (by decide) (by decide) (by decide))]; exact e5
              have f1_4 : g_1 (q 5) = some (.inl (cI, 60, .inl (upd fp i (-1)))) := by rw [eg_1]; exact hs_s _ _ _
              have fr := fr.put eg_1 (by simp)
              refine lv_iload_n S0.1 S0.2.1 dMM_compare_175 rfl (lv_at hl 1 rfl) ?_
              refine lv_istore_n (lv' := [(3, .int (nI fr_)), (0, .ref mm), (1, .int (nI fr_)), (2, .int (nI i))]) S0.1 S0.2.1 dMM_compare_176 rfl hl (by decide) rfl (fun ls hl => ?_)
              have hfl := fro_le a b i
              have loop_177 : ∀ (n_177 : Nat) (j : Nat) (H : Heap) (locs : List Loc) (ls : Array Slot), b.length - j < n_177 → (fr_ ≤ j) → (j ≤ b.length) → (∀ x, fr_ ≤ x → x < j → b.getD x 0 ≠ a.getD i 0) → hw D hC AX g_1 H → va_S AX sX.heap H locs → lv_has ls 7 [(0, .ref mm), (1, .int (nI fr_)), (2, .int (nI i)), (3, .int (nI j))] → W pX l eX RX sX mX argsX belowX methX cX H locs 0 0 QX (F0 mX 177 ls []) := by
                intro n_177
                induction n_177 with
                | zero => intros; omega
                | succ n_177 ih_177 =>
                  intro j H locs ls hm_177 hj1 hj2 hno hg hS hl
                  refine lv_iload_n S0.1 S0.2.1 dMM_compare_177 rfl (lv_at hl 3 rfl) ?_
                  refine lv_aload_n S0.1 S0.2.1 dMM_compare_178 rfl (lv_at hl 0 rfl) ?_
                  refine hw_get S0 hK hg f1_0 rfl inMM 4 (by decide) lf_MM_79 rfl rfl dMM_compare_179 ?_
                  refine lv_icmp_ge (tgt := 206) S0.1 S0.2.1 dMM_compare_182 (by decide) (fun c_182 => ?_) (fun c_182 => ?_)
                  · skip
                    have c_182 : b.length ≤ j := (nI_leI (by omega) (by omega)).mp c_182
                    refine lv_iload_n S0.1 S0.2.1 dMM_compare_206 rfl (lv_at hl 3 rfl) ?_
                    refine lv_aload_n S0.1 S0.2.1 dMM_compare_207 rfl (lv_at hl 0 rfl) ?_
                    refine hw_get S0 hK hg f1_0 rfl inMM 4 (by decide) lf_MM_79 rfl rfl dMM_compare_208 ?_
                    refine lv_icmp_ge (tgt := 256) S0.1 S0.2.1 dMM_compare_211 (by decide) (fun c_211 => ?_) (fun c_211 => ?_)
                    · skip
                      have c_211 : b.length ≤ j := (nI_leI (by omega) (by omega)).mp c_211
                      have hpn : pn a b i = none := stp_none (fp_none (fun x h1 h2 => hno x (by omega) (by omega)))
                      refine lv_iinc (v := nI (i + 1)) (lv' := [(2, .int (nI (i + 1))), (0, .ref mm), (1, .int (nI fr_)), (3, .int (nI j))]) S0.1 S0.2.1 dMM_compare_256 hl (k := 2) rfl (by exact nI_add _ 1) (by decide) rfl (fun ls hl => ?_)
                      refine lv_goto (tgt := 160) S0.1 S0.2.1 dMM_compare_259 (by decide) ?_
                      exact ih_160 (i + 1) fr_ (upd fp i (-1)) g_1 _ _ _ (by omega) (by omega) (by rw [fro_none hpn]; exact hf) (fun x h => by rcases Nat.lt_or_ge x i with h9 | h9; rw [pk_un (by omega)]; exact hpp x h9; rw [show x = i by omega, pk_us, hpn]; rfl) fr f1_3 f1_4 hg hS (lv_sub hl [1, 2, 0] rfl)
                    · skip
                      have c_211 : ¬ (b.length ≤ j) := fun h => c_211 ((nI_leI (by omega) (by omega)).mpr h)
                      omega
                  · skip
                    have c_182 : ¬ (b.length ≤ j) := fun h => c_182 ((nI_leI (by omega) (by omega)).mpr h)
                    refine lv_aload_n S0.1 S0.2.1 dMM_compare_185 rfl (lv_at hl 0 rfl) ?_
                    refine hw_get S0 hK hg f1_0 rfl inMM 6 (by decide) lf_MM_19 rfl rfl dMM_compare_186 ?_
                    refine lv_iload_n S0.1 S0.2.1 dMM_compare_189 rfl (lv_at hl 3 rfl) ?_
                    refine hw_iald S0 hK hg f1_2 0 rfl (by omega) (by omega) dMM_compare_190 ?_
                    refine lv_aload_n S0.1 S0.2.1 dMM_compare_191 rfl (lv_at hl 0 rfl) ?_
                    refine hw_get S0 hK hg f1_0 rfl inMM 5 (by decide) lf_MM_16 rfl rfl dMM_compare_192 ?_
                    refine lv_iload_n S0.1 S0.2.1 dMM_compare_195 rfl (lv_at hl 2 rfl) ?_
                    refine hw_iald S0 hK hg f1_1 0 rfl (by omega) (by omega) dMM_compare_196 ?_
                    refine lv_icmp_eq (tgt := 206) S0.1 S0.2.1 dMM_compare_197 (by decide) (fun c_197 => ?_) (fun c_197 => ?_)
                    · skip
                      rw [ea i (by omega), eb j (by omega)] at c_197
                      refine lv_iload_n S0.1 S0.2.1 dMM_compare_206 rfl (lv_at hl 3 rfl) ?_
                      refine lv_aload_n S0.1 S0.2.1 dMM_compare_207 rfl (lv_at hl 0 rfl) ?_
                      refine hw_get S0 hK hg f1_0 rfl inMM 4 (by decide) lf_MM_79 rfl rfl dMM_compare_208 ?_
                      refine lv_icmp_ge (tgt := 256) S0.1 S0.2.1 dMM_compare_211 (by decide) (fun c_211 => ?_) (fun c_211 => ?_)
                      · skip
                        have c_211 : b.length ≤ j := (nI_leI (by omega) (by omega)).mp c_211
                        omega
                      · skip
                        have c_211 : ¬ (b.length ≤ j) := fun h => c_211 ((nI_leI (by omega) (by omega)).mpr h)
                        have hfp := fp_of (b := b) (v := a.getD i 0) (i := fro a b i) (k := j) (by omega) (by omega) c_197 (fun x h1 h2 => hno x (by omega) h2)
                        have b3 := Lc_le a b (i + 1) (j + 1)
                        have b4 := Lc_le a b i fr_
                        have q3 : fo (((61 * (i + 1)) + j) + 1) = nI (Lc a b (i + 1) (j + 1)) := hrow (i + 1) (j + 1) (by omega) (by omega) (by omega)
                        have q4 : fo ((61 * i) + fr_) = nI (Lc a b i fr_) := hrow i fr_ (by omega) (by omega) (by omega)
                        refine lv_iconst (v := nI 1) S0.1 S0.2.1 dMM_compare_214 (by decide) ?_
                        refine lv_aload_n S0.1 S0.2.1 dMM_compare_215 rfl (lv_at hl 0 rfl) ?_
                        refine hw_get S0 hK hg f1_0 rfl inMM 7 (by decide) lf_MM_22 rfl rfl dMM_compare_216 ?_
                        refine lv_bipush (v := nI 61) S0.1 S0.2.1 dMM_compare_219 (by decide) ?_
                        refine lv_iload_n S0.1 S0.2.1 dMM_compare_221 rfl (lv_at hl 2 rfl) ?_
                        refine lv_iconst (v := nI 1) S0.1 S0.2.1 dMM_compare_222 (by decide) ?_
                        refine lv_iadd S0.1 S0.2.1 dMM_compare_223 ?_
                        refine hw_top (nI (i + 1)) (nI_add _ _) ?_
                        refine lv_imul S0.1 S0.2.1 dMM_compare_224 ?_
                        refine hw_top (nI (61 * (i + 1))) (pk_mul _ _) ?_
                        refine lv_iload_n S0.1 S0.2.1 dMM_compare_225 rfl (lv_at hl 3 rfl) ?_
                        refine lv_iadd S0.1 S0.2.1 dMM_compare_226 ?_
                        refine hw_top (nI ((61 * (i + 1)) + j)) (nI_add _ _) ?_
                        refine lv_iconst (v := nI 1) S0.1 S0.2.1 dMM_compare_227 (by decide) ?_
                        refine lv_iadd S0.1 S0.2.1 dMM_compare_228 ?_
                        refine hw_top (nI (((61 * (i + 1)) + j) + 1)) (nI_add _ _) ?_
                        refine hw_iald S0 hK hg f1_3 0 rfl (by omega) (by omega) dMM_compare_229 ?_
                        refine hw_top (nI (Lc a b (i + 1) (j + 1))) q3 ?_
                        refine lv_iadd S0.1 S0.2.1 dMM_compare_230 ?_
                        refine hw_top (nI (1 + (Lc a b (i + 1) (j + 1)))) (nI_add _ _) ?_
                        refine lv_aload_n S0.1 S0.2.1 dMM_compare_231 rfl (lv_at hl 0 rfl) ?_
                        refine hw_get S0 hK hg f1_0 rfl inMM 7 (by decide) lf_MM_22 rfl rfl dMM_compare_232 ?_
                        refine lv_bipush (v := nI 61) S0.1 S0.2.1 dMM_compare_235 (by decide) ?_
                        refine lv_iload_n S0.1 S0.2.1 dMM_compare_237 rfl (lv_at hl 2 rfl) ?_
                        refine lv_imul S0.1 S0.2.1 dMM_compare_238 ?_
                        refine hw_top (nI (61 * i)) (pk_mul _ _) ?_
                        refine lv_iload_n S0.1 S0.2.1 dMM_compare_239 rfl (lv_at hl 1 rfl) ?_
                        refine lv_iadd S0.1 S0.2.1 dMM_compare_240 ?_
                        refine hw_top (nI ((61 * i) + fr_)) (nI_add _ _) ?_
                        refine hw_iald S0 hK hg f1_3 0 rfl (by omega) (by omega) dMM_compare_241 ?_
                        refine hw_top (nI (Lc a b i fr_)) q4 ?_
                        refine lv_icmp_ne (tgt := 256) S0.1 S0.2.1 dMM_compare_242 (by decide) (fun c_242 => ?_) (fun c_242 => ?_)
                        · skip
                          have c_242 : ¬ ((1 + (Lc a b (i + 1) (j + 1))) = (Lc a b i fr_)) := fun h => c_242 ((nI_eq (by omega) (by omega)).mpr h)
                          have hpn : pn a b i = none := stp_not hfp (by rw [← hf]; omega)
                          refine lv_iinc (v := nI (i + 1)) (lv' := [(2, .int (nI (i + 1))), (0, .ref mm), (1, .int (nI fr_)), (3, .int (nI j))]) S0.1 S0.2.1 dMM_compare_256 hl (k := 2) rfl (by exact nI_add _ 1) (by decide) rfl (fun ls hl => ?_)
                          refine lv_goto (tgt := 160) S0.1 S0.2.1 dMM_compare_259 (by decide) ?_
                          exact ih_160 (i + 1) fr_ (upd fp i (-1)) g_1 _ _ _ (by omega) (by omega) (by rw [fro_none hpn]; exact hf) (fun x h => by rcases Nat.lt_or_ge x i with h9 | h9; rw [pk_un (by omega)]; exact hpp x h9; rw [show x = i by omega, pk_us, hpn]; rfl) fr f1_3 f1_4 hg hS (lv_sub hl [1, 2, 0] rfl)
                        · skip
                          have c_242 : (1 + (Lc a b (i + 1) (j + 1))) = (Lc a b i fr_) := (nI_eq (by omega) (by omega)).mp c_242
                          have hpn : pn a b i = some j := stp_some hfp (by rw [← hf]; omega)
                          refine lv_aload_n S0.1 S0.2.1 dMM_compare_245 rfl (lv_at hl 0 rfl) ?_
                          refine hw_get S0 hK hg f1_0 rfl inMM 8 (by decide) lf_MM_25 rfl rfl dMM_compare_246 ?_
                          refine lv_iload_n S0.1 S0.2.1 dMM_compare_249 rfl (lv_at hl 2 rfl) ?_
                          refine lv_iload_n S0.1 S0.2.1 dMM_compare_250 rfl (lv_at hl 3 rfl) ?_
                          refine hw_iast S0 hK hg hS f1_4 0 rfl (by omega) (by omega) dMM_compare_251 (fun H locs hg hS => ?_)
                          obtain ⟨g_2, eg_2⟩ : ∃ z, z = hs g_1 (q 5) (.inl (cI, 60, .inl (upd (upd fp i (-1)) i (nI j)))) := ⟨_, rfl⟩
                          have hg : hw D hC AX g_2 H := by rw [eg_2]; exact hg
                          have f2_0 : g_2 mm = some (mmC q v0 (nI a.length) (nI b.length) v9 v12 v14 v16 v17 v21 v23 v25) := by rw [eg_2, hs_n _ _ (h_ne f1_0 f1_4 (fun h => by cases h))]; exact f1_0
                          have f2_1 : g_2 (q 2) = some (.inl (cI, 60, .inl fx)) := by rw [eg_2, hs_n _ _ (qne hq (by decide) (by decide) (by decide))]; exact f1_1
                          have f2_2 : g_2 (q 3) = some (.inl (cI, 60, .inl fy)) := by rw [eg_2, hs_n _ _ (qne hq (by decide) (by decide) (by decide))]; exact f1_2
                          have f2_3 : g_2 (q 4) = some (.inl (cI, 3721, .inl fo)) := by rw [eg_2, hs_n _ _ (qne hq (by decide) (by decide) (by decide))]; exact f1_3
                          have f2_4 : g_2 (q 5) = some (.inl (cI, 60, .inl (upd (upd fp i (-1)) i (nI j)))) := by rw [eg_2]; exact hs_s _ _ _
                          have fr := fr.put eg_2 (by simp)
                          refine lv_iload_n S0.1 S0.2.1 dMM_compare_252 rfl (lv_at hl 3 rfl) ?_
                          refine lv_iconst (v := nI 1) S0.1 S0.2.1 dMM_compare_253 (by decide) ?_
                          refine lv_iadd S0.1 S0.2.1 dMM_compare_254 ?_
                          refine hw_top (nI (j + 1)) (nI_add _ _) ?_
                          refine lv_istore_n (lv' := [(1, .int (nI (j + 1))), (0, .ref mm), (2, .int (nI i)), (3, .int (nI j))]) S0.1 S0.2.1 dMM_compare_255 rfl hl (by decide) rfl (fun ls hl => ?_)
                          refine lv_iinc (v := nI (i + 1)) (lv' := [(2, .int (nI (i + 1))), (1, .int (nI (j + 1))), (0, .ref mm), (3, .int (nI j))]) S0.1 S0.2.1 dMM_compare_256 hl (k := 2) rfl (by exact nI_add _ 1) (by decide) rfl (fun ls hl => ?_)
                          refine lv_goto (tgt := 160) S0.1 S0.2.1 dMM_compare_259 (by decide) ?_
                          exact ih_160 (i + 1) (j + 1) (upd (upd fp i (-1)) i (nI j)) g_2 _ _ _ (by omega) (by omega) (by rw [fro_some hpn]) (fun x h => by rcases Nat.lt_or_ge x i with h9 | h9; rw [pk_un (by omega), pk_un (by omega)]; exact hpp x h9; rw [show x = i by omega, pk_us, hpn]; rfl) fr f2_3 f2_4 hg hS (lv_sub hl [2, 1, 0] rfl)
                    · skip
                      rw [ea i (by omega), eb j (by omega)] at c_197
                      refine lv_iinc (v := nI (j + 1)) (lv' := [(3, .int (nI (j + 1))), (0, .ref mm), (1, .int (nI fr_)), (2, .int (nI i))]) S0.1 S0.2.1 dMM_compare_200 hl (k := 3) rfl (by exact nI_add _ 1) (by decide) rfl (fun ls hl => ?_)
                      refine lv_goto (tgt := 177) S0.1 S0.2.1 dMM_compare_203 (by decide) ?_
                      exact ih_177 (j + 1) _ _ _ (by omega) (by omega) (by omega) (fun x h1 h2 => by rcases Nat.lt_or_ge x j with h9 | h9; exact hno x h1 h9; rw [show x = j by omega]; exact c_197) hg hS (lv_sub hl [1, 2, 3, 0] rfl)
              exact loop_177 _ fr_ _ _ _ (Nat.lt_succ_self _) (Nat.le_refl _) (by omega) (fun x h1 h2 => by omega) hg hS (lv_sub hl [1, 2, 3, 0] rfl)
        exact loop_160 _ 0 0 fpartner gl _ _ _ (Nat.lt_succ_self _) (Nat.zero_le _) rfl (fun x h => absurd h (Nat.not_lt_zero x)) fr e1 e2 hg hS (lv_sub hl [2, 1, 0] rfl)
      · skip
        obtain ⟨i, rfl⟩ : ∃ i, t = i + 1 := ⟨t - 1, by have : ¬ t = 0 := fun h => c_6 ((nJ_neg (by omega)).mpr h); omega⟩
        rw [nJ_succ] at hl
        refine lv_aload_n S0.1 S0.2.1 dMM_compare_9 rfl (lv_at hl 0 rfl) ?_
        refine hw_get S0 hK hg q5_mm rfl inMM 4 (by decide) lf_MM_79 rfl rfl dMM_compare_10 ?_
        refine lv_istore_n (lv' := [(2, .int (nI b.length)), (0, .ref mm), (1, .int (nI i))]) S0.1 S0.2.1 dMM_compare_13 rfl hl (by decide) rfl (fun ls hl => ?_)
        rw [← nJ_succ b.length] at hl
        have loop_14 : ∀ (n_14 : Nat) (u : Nat) (fi : Nat → Int32) (gi : Nat → Option va_E) (H : Heap) (locs : List Loc) (ls : Array Slot), u < n_14 → (u ≤ b.length + 1) → (∀ x y, i + 1 ≤ x → x ≤ a.length → y ≤ b.length → fi (61 * x + y) = nI (Lc a b x y)) → (∀ y, u ≤ y → y ≤ b.length → fi (61 * i + y) = nI (Lc a b i y)) → (hfr g gi [q 4, q 5]) → (gi (q 4) = some (.inl (cI, 3721, .inl fi))) → (gi (q 5) = some (.inl (cI, 60, .inl fpartner))) → hw D hC AX gi H → va_S AX sX.heap H locs → lv_has ls 7 [(0, .ref mm), (1, .int (nI i)), (2, .int (nJ u))] → W pX l eX RX sX mX argsX belowX methX cX H locs 0 0 QX (F0 mX 14 ls []) := by
          intro n_14
          induction n_14 with
          | zero => intros; omega
          | succ n_14 ih_14 =>
            intro u fi gi H locs ls hm_14 hu hrow hin fr e3 e4 hg hS hl
            have q14_mm := fr.at (h_nm (h_ne q5_mm e1 (fun h => by cases h)) (h_nm (h_ne q5_mm e2 (fun h => by cases h)) h_n0)) h0
            have q14_q2 := fr.at (h_nm (qne hq (by decide) (by decide) (by decide)) (h_nm (qne hq (by decide) (by decide) (by decide)) h_n0)) hx
            have q14_q3 := fr.at (h_nm (qne hq (by decide) (by decide) (by decide)) (h_nm (qne hq (by decide) (by decide) (by decide)) h_n0)) hy
            refine lv_iload_n S0.1 S0.2.1 dMM_compare_14 rfl (lv_at hl 2 rfl) ?_
            refine lv_if_lt (tgt := 150) S0.1 S0.2.1 dMM_compare_15 (by decide) (fun c_15 => ?_) (fun c_15 => ?_)
            · skip
              have c_15 : u = 0 := (nJ_neg (by omega)).mp c_15
              refine lv_iinc (v := nJ i) (lv' := [(1, .int (nJ i)), (0, .ref mm), (2, .int (nJ u))]) S0.1 S0.2.1 dMM_compare_150 hl (k := 1) rfl (by exact nJ_dec _) (by decide) rfl (fun ls hl => ?_)
              refine lv_goto (tgt := 5) S0.1 S0.2.1 dMM_compare_153 (by decide) ?_
              exact ih_5 i fi gi _ _ _ (by omega) (by omega) (fun x y h1 h2 h3 => by by_cases e : x = i; rw [e]; exact hin y (by omega) h3; exact hrow x y (by omega) h2 h3) fr e3 e4 hg hS (lv_sub hl [1, 0] rfl)
            · skip
              obtain ⟨j, rfl⟩ : ∃ j, u = j + 1 := ⟨u - 1, by have : ¬ u = 0 := fun h => c_15 ((nJ_neg (by omega)).mpr h); omega⟩
              rw [nJ_succ] at hl
              refine lv_iconst (v := nI 0) S0.1 S0.2.1 dMM_compare_18 (by decide) ?_
              refine lv_istore_n (lv' := [(3, .int (nI 0)), (0, .ref mm), (1, .int (nI i)), (2, .int (nI j))]) S0.1 S0.2.1 dMM_compare_19 rfl hl (by decide) rfl (fun ls hl => ?_)
              refine lv_iload_n S0.1 S0.2.1 dMM_compare_20 rfl (lv_at hl 2 rfl) ?_
              refine lv_aload_n S0.1 S0.2.1 dMM_compare_21 rfl (lv_at hl 1 rfl) ?_
              refine hw_get S0 hK hg q14_mm rfl inMM 3 (by decide) lf_MM_76 rfl rfl dMM_compare_22 ?_
              refine lv_icmp_ge (tgt := 132) S0.1 S0.2.1 dMM_compare_25 (by decide) (fun c_25 => ?_) (fun c_25 => ?_)
              · skip
                have c_25 : a.length ≤ i := (nI_leI (by omega) (by omega)).mp c_25
                have hval : nI 0 = nI (Lc a b i j) := by rw [show i = a.length by omega, Lc_endA]
                refine lv_aload_n S0.1 S0.2.1 dMM_compare_132 rfl (lv_at hl 1 rfl) ?_
                refine hw_get S0 hK hg q14_mm rfl inMM 7 (by decide) lf_MM_22 rfl rfl dMM_compare_133 ?_
                refine lv_bipush (v := nI 61) S0.1 S0.2.1 dMM_compare_136 (by decide) ?_
                refine lv_iload_n S0.1 S0.2.1 dMM_compare_138 rfl (lv_at hl 2 rfl) ?_
                refine lv_imul S0.1 S0.2.1 dMM_compare_139 ?_
                refine hw_top (nI (61 * i)) (pk_mul _ _) ?_
                refine lv_iload_n S0.1 S0.2.1 dMM_compare_140 rfl (lv_at hl 3 rfl) ?_
                refine lv_iadd S0.1 S0.2.1 dMM_compare_141 ?_
                refine hw_top (nI ((61 * i) + j)) (nI_add _ _) ?_
                refine lv_iload_n S0.1 S0.2.1 dMM_compare_142 rfl (lv_at hl 0 rfl) ?_
                refine hw_iast S0 hK hg hS e3 0 rfl (by omega) (by omega) dMM_compare_143 (fun H locs hg hS => ?_)
                obtain ⟨g_3, eg_3⟩ : ∃ z, z = hs gi (q 4) (.inl (cI, 3721, .inl (upd fi ((61 * i) + j) (nI 0)))) := ⟨_, rfl⟩
                have hg : hw D hC AX g_3 H := by rw [eg_3]; exact hg
                have f3_0 : g_3 mm = some (mmC q v0 (nI a.length) (nI b.length) v9 v12 v14 v16 v17 v21 v23 v25) := by rw [eg_3, hs_n _ _ (h_ne q14_mm e3 (fun h => by cases h))]; exact q14_mm
                have f3_1 : g_3 (q 2) = some (.inl (cI, 60, .inl fx)) := by rw [eg_3, hs_n _ _ (qne hq (by decide) (by decide) (by decide))]; exact q14_q2
                have f3_2 : g_3 (q 3) = some (.inl (cI, 60, .inl fy)) := by rw [eg_3, hs_n _ _ (qne hq (by decide) (by decide) (by decide))]; exact q14_q3
                have f3_3 : g_3 (q 5) = some (.inl (cI, 60, .inl fpartner)) := by rw [eg_3, hs_n _ _ (qne hq (by decide) (by decide) (by decide))]; exact e4
                have f3_4 : g_3 (q 4) = some (.inl (cI, 3721, .inl (upd fi ((61 * i) + j) (nI 0)))) := by rw [eg_3]; exact hs_s _ _ _
                have fr := fr.put eg_3 (by simp)
                refine lv_iinc (v := nJ j) (lv' := [(2, .int (nJ j)), (3, .int (nI 0)), (0, .ref mm), (1, .int (nI i))]) S0.1 S0.2.1 dMM_compare_144 hl (k := 3) rfl (by exact nJ_dec _) (by decide) rfl (fun ls hl => ?_)
                refine lv_goto (tgt := 14) S0.1 S0.2.1 dMM_compare_147 (by decide) ?_
                exact ih_14 j (upd fi ((61 * i) + j) (nI 0)) g_3 _ _ _ (by omega) (by omega) (fun x y h1 h2 h3 => by rw [pk_un (by omega)]; exact hrow x y h1 h2 h3) (fun y h1 h2 => by by_cases e : y = j; rw [e, pk_us, hval]; rw [pk_un (by omega)]; exact hin y (by omega) h2) fr f3_4 f3_3 hg hS (lv_sub hl [2, 3, 0] rfl)
              · skip
                have c_25 : ¬ (a.length ≤ i) := fun h => c_25 ((nI_leI (by omega) (by omega)).mpr h)
                refine lv_iload_n S0.1 S0.2.1 dMM_compare_28 rfl (lv_at hl 3 rfl) ?_
                refine lv_aload_n S0.1 S0.2.1 dMM_compare_29 rfl (lv_at hl 1 rfl) ?_
                refine hw_get S0 hK hg q14_mm rfl inMM 4 (by decide) lf_MM_79 rfl rfl dMM_compare_30 ?_
                refine lv_icmp_ge (tgt := 132) S0.1 S0.2.1 dMM_compare_33 (by decide) (fun c_33 => ?_) (fun c_33 => ?_)
                · skip
                  have c_33 : b.length ≤ j := (nI_leI (by omega) (by omega)).mp c_33
                  have hval : nI 0 = nI (Lc a b i j) := by rw [show j = b.length by omega, Lc_endB]
                  refine lv_aload_n S0.1 S0.2.1 dMM_compare_132 rfl (lv_at hl 1 rfl) ?_
                  refine hw_get S0 hK hg q14_mm rfl inMM 7 (by decide) lf_MM_22 rfl rfl dMM_compare_133 ?_
                  refine lv_bipush (v := nI 61) S0.1 S0.2.1 dMM_compare_136 (by decide) ?_
                  refine lv_iload_n S0.1 S0.2.1 dMM_compare_138 rfl (lv_at hl 2 rfl) ?_
                  refine lv_imul S0.1 S0.2.1 dMM_compare_139 ?_
                  refine hw_top (nI (61 * i)) (pk_mul _ _) ?_
                  refine lv_iload_n S0.1 S0.2.1 dMM_compare_140 rfl (lv_at hl 3 rfl) ?_
                  refine lv_iadd S0.1 S0.2.1 dMM_compare_141 ?_
                  refine hw_top (nI ((61 * i) + j)) (nI_add _ _) ?_
                  refine lv_iload_n S0.1 S0.2.1 dMM_compare_142 rfl (lv_at hl 0 rfl) ?_
                  refine hw_iast S0 hK hg hS e3 0 rfl (by omega) (by omega) dMM_compare_143 (fun H locs hg hS => ?_)
                  obtain ⟨g_4, eg_4⟩ : ∃ z, z = hs gi (q 4) (.inl (cI, 3721, .inl (upd fi ((61 * i) + j) (nI 0)))) := ⟨_, rfl⟩
                  have hg : hw D hC AX g_4 H := by rw [eg_4]; exact hg
                  have f4_0 : g_4 mm = some (mmC q v0 (nI a.length) (nI b.length) v9 v12 v14 v16 v17 v21 v23 v25) := by rw [eg_4, hs_n _ _ (h_ne q14_mm e3 (fun h => by cases h))]; exact q14_mm
                  have f4_1 : g_4 (q 2) = some (.inl (cI, 60, .inl fx)) := by rw [eg_4, hs_n _ _ (qne hq (by decide) (by decide) (by decide))]; exact q14_q2
                  have f4_2 : g_4 (q 3) = some (.inl (cI, 60, .inl fy)) := by rw [eg_4, hs_n _ _ (qne hq (by decide) (by decide) (by decide))]; exact q14_q3
                  have f4_3 : g_4 (q 5) = some (.inl (cI, 60, .inl fpartner)) := by rw [eg_4, hs_n _ _ (qne hq (by decide) (by decide) (by decide))]; exact e4
                  have f4_4 : g_4 (q 4) = some (.inl (cI, 3721, .inl (upd fi ((61 * i) + j) (nI 0)))) := by rw [eg_4]; exact hs_s _ _ _
                  have fr := fr.put eg_4 (by simp)
                  refine lv_iinc (v := nJ j) (lv' := [(2, .int (nJ j)), (3, .int (nI 0)), (0, .ref mm), (1, .int (nI i))]) S0.1 S0.2.1 dMM_compare_144 hl (k := 3) rfl (by exact nJ_dec _) (by decide) rfl (fun ls hl => ?_)
                  refine lv_goto (tgt := 14) S0.1 S0.2.1 dMM_compare_147 (by decide) ?_
                  exact ih_14 j (upd fi ((61 * i) + j) (nI 0)) g_4 _ _ _ (by omega) (by omega) (fun x y h1 h2 h3 => by rw [pk_un (by omega)]; exact hrow x y h1 h2 h3) (fun y h1 h2 => by by_cases e : y = j; rw [e, pk_us, hval]; rw [pk_un (by omega)]; exact hin y (by omega) h2) fr f4_4 f4_3 hg hS (lv_sub hl [2, 3, 0] rfl)
                · skip
                  have c_33 : ¬ (b.length ≤ j) := fun h => c_33 ((nI_leI (by omega) (by omega)).mpr h)
                  have b1 := Lc_le a b (i + 1) j
                  have b2 := Lc_le a b i (j + 1)
                  have b3 := Lc_le a b (i + 1) (j + 1)
                  have b4 := Lc_le a b i j
                  have q1 : fi ((61 * (i + 1)) + j) = nI (Lc a b (i + 1) j) := hrow (i + 1) j (by omega) (by omega) (by omega)
                  have q2 : fi (((61 * i) + j) + 1) = nI (Lc a b i (j + 1)) := hin (j + 1) (by omega) (by omega)
                  have q3 : fi (((61 * (i + 1)) + j) + 1) = nI (Lc a b (i + 1) (j + 1)) := hrow (i + 1) (j + 1) (by omega) (by omega) (by omega)
                  have hst := Lc_step (a := a) (b := b) (i := i) (j := j) (by omega) (by omega)
                  have hnr := Lc_near (a := a) (b := b) (i := i) (j := j) (by omega) (by omega)
                  refine lv_aload_n S0.1 S0.2.1 dMM_compare_36 rfl (lv_at hl 1 rfl) ?_
                  refine hw_get S0 hK hg q14_mm rfl inMM 7 (by decide) lf_MM_22 rfl rfl dMM_compare_37 ?_
                  refine lv_bipush (v := nI 61) S0.1 S0.2.1 dMM_compare_40 (by decide) ?_
                  refine lv_iload_n S0.1 S0.2.1 dMM_compare_42 rfl (lv_at hl 2 rfl) ?_
                  refine lv_iconst (v := nI 1) S0.1 S0.2.1 dMM_compare_43 (by decide) ?_
                  refine lv_iadd S0.1 S0.2.1 dMM_compare_44 ?_
                  refine hw_top (nI (i + 1)) (nI_add _ _) ?_
                  refine lv_imul S0.1 S0.2.1 dMM_compare_45 ?_
                  refine hw_top (nI (61 * (i + 1))) (pk_mul _ _) ?_
                  refine lv_iload_n S0.1 S0.2.1 dMM_compare_46 rfl (lv_at hl 3 rfl) ?_
                  refine lv_iadd S0.1 S0.2.1 dMM_compare_47 ?_
                  refine hw_top (nI ((61 * (i + 1)) + j)) (nI_add _ _) ?_
                  refine hw_iald S0 hK hg e3 0 rfl (by omega) (by omega) dMM_compare_48 ?_
                  refine hw_top (nI (Lc a b (i + 1) j)) q1 ?_
                  refine lv_istore (lv' := [(4, .int (nI (Lc a b (i + 1) j))), (3, .int (nI 0)), (0, .ref mm), (1, .int (nI i)), (2, .int (nI j))]) S0.1 S0.2.1 dMM_compare_49 hl (by decide) rfl (fun ls hl => ?_)
                  refine lv_aload_n S0.1 S0.2.1 dMM_compare_51 rfl (lv_at hl 2 rfl) ?_
                  refine hw_get S0 hK hg q14_mm rfl inMM 7 (by decide) lf_MM_22 rfl rfl dMM_compare_52 ?_
                  refine lv_bipush (v := nI 61) S0.1 S0.2.1 dMM_compare_55 (by decide) ?_
                  refine lv_iload_n S0.1 S0.2.1 dMM_compare_57 rfl (lv_at hl 3 rfl) ?_
                  refine lv_imul S0.1 S0.2.1 dMM_compare_58 ?_
                  refine hw_top (nI (61 * i)) (pk_mul _ _) ?_
                  refine lv_iload_n S0.1 S0.2.1 dMM_compare_59 rfl (lv_at hl 4 rfl) ?_
                  refine lv_iadd S0.1 S0.2.1 dMM_compare_60 ?_
                  refine hw_top (nI ((61 * i) + j)) (nI_add _ _) ?_
                  refine lv_iconst (v := nI 1) S0.1 S0.2.1 dMM_compare_61 (by decide) ?_
                  refine lv_iadd S0.1 S0.2.1 dMM_compare_62 ?_
                  refine hw_top (nI (((61 * i) + j) + 1)) (nI_add _ _) ?_
                  refine hw_iald S0 hK hg e3 0 rfl (by omega) (by omega) dMM_compare_63 ?_
                  refine hw_top (nI (Lc a b i (j + 1))) q2 ?_
                  refine lv_istore (lv' := [(5, .int (nI (Lc a b i (j + 1)))), (4, .int (nI (Lc a b (i + 1) j))), (3, .int (nI 0)), (0, .ref mm), (1, .int (nI i)), (2, .int (nI j))]) S0.1 S0.2.1 dMM_compare_64 hl (by decide) rfl (fun ls hl => ?_)
                  refine lv_iload S0.1 S0.2.1 dMM_compare_66 (lv_at hl 1 rfl) ?_
                  refine lv_iload S0.1 S0.2.1 dMM_compare_68 (lv_at hl 0 rfl) ?_
                  refine lv_icmp_le (tgt := 78) S0.1 S0.2.1 dMM_compare_70 (by decide) (fun c_70 => ?_) (fun c_70 => ?_)
                  · skip
                    have c_70 : (Lc a b (i + 1) j) ≤ (Lc a b i (j + 1)) := (nI_leI (by omega) (by omega)).mp c_70
                    refine lv_iload S0.1 S0.2.1 dMM_compare_78 (lv_at hl 0 rfl) ?_
                    refine lv_istore_n (lv' := [(3, .int (nI (Lc a b i (j + 1)))), (5, .int (nI (Lc a b i (j + 1)))), (4, .int (nI (Lc a b (i + 1) j))), (0, .ref mm), (1, .int (nI i)), (2, .int (nI j))]) S0.1 S0.2.1 dMM_compare_80 rfl hl (by decide) rfl (fun ls hl => ?_)
                    refine lv_aload_n S0.1 S0.2.1 dMM_compare_81 rfl (lv_at hl 3 rfl) ?_
                    refine hw_get S0 hK hg q14_mm rfl inMM 5 (by decide) lf_MM_16 rfl rfl dMM_compare_82 ?_
                    refine lv_iload_n S0.1 S0.2.1 dMM_compare_85 rfl (lv_at hl 4 rfl) ?_
                    refine hw_iald S0 hK hg q14_q2 0 rfl (by omega) (by omega) dMM_compare_86 ?_
                    refine lv_aload_n S0.1 S0.2.1 dMM_compare_87 rfl (lv_at hl 3 rfl) ?_
                    refine hw_get S0 hK hg q14_mm rfl inMM 6 (by decide) lf_MM_19 rfl rfl dMM_compare_88 ?_
                    refine lv_iload_n S0.1 S0.2.1 dMM_compare_91 rfl (lv_at hl 5 rfl) ?_
                    refine hw_iald S0 hK hg q14_q3 0 rfl (by omega) (by omega) dMM_compare_92 ?_
                    refine lv_icmp_ne (tgt := 116) S0.1 S0.2.1 dMM_compare_93 (by decide) (fun c_93 => ?_) (fun c_93 => ?_)
                    · skip
                      rw [ea i (by omega), eb j (by omega)] at c_93
                      rw [if_neg c_93] at hst
                      refine lv_iconst (v := nI 0) S0.1 S0.2.1 dMM_compare_116 (by decide) ?_
                      refine lv_istore (lv' := [(6, .int (nI 0)), (3, .int (nI (Lc a b i (j + 1)))), (5, .int (nI (Lc a b i (j + 1)))), (4, .int (nI (Lc a b (i + 1) j))), (0, .ref mm), (1, .int (nI i)), (2, .int (nI j))]) S0.1 S0.2.1 dMM_compare_117 hl (by decide) rfl (fun ls hl => ?_)
                      refine lv_iload S0.1 S0.2.1 dMM_compare_119 (lv_at hl 0 rfl) ?_
                      refine lv_iload_n S0.1 S0.2.1 dMM_compare_121 rfl (lv_at hl 1 rfl) ?_
                      refine lv_icmp_le (tgt := 130) S0.1 S0.2.1 dMM_compare_122 (by decide) (fun c_122 => ?_) (fun c_122 => ?_)
                      · skip
                        have c_122 : 0 ≤ (Lc a b i (j + 1)) := (nI_leI (by omega) (by omega)).mp c_122
                        refine lv_iload_n S0.1 S0.2.1 dMM_compare_130 rfl (lv_at hl 1 rfl) ?_
                        refine lv_istore_n (lv' := [(3, .int (nI (Lc a b i (j + 1)))), (6, .int (nI 0)), (5, .int (nI (Lc a b i (j + 1)))), (4, .int (nI (Lc a b (i + 1) j))), (0, .ref mm), (1, .int (nI i)), (2, .int (nI j))]) S0.1 S0.2.1 dMM_compare_131 rfl hl (by decide) rfl (fun ls hl => ?_)
                        have hval : nI (Lc a b i (j + 1)) = nI (Lc a b i j) := by congr 1; omega
                        refine lv_aload_n S0.1 S0.2.1 dMM_compare_132 rfl (lv_at hl 4 rfl) ?_
                        refine hw_get S0 hK hg q14_mm rfl inMM 7 (by decide) lf_MM_22 rfl rfl dMM_compare_133 ?_
                        refine lv_bipush (v := nI 61) S0.1 S0.2.1 dMM_compare_136 (by decide) ?_
                        refine lv_iload_n S0.1 S0.2.1 dMM_compare_138 rfl (lv_at hl 5 rfl) ?_
                        refine lv_imul S0.1 S0.2.1 dMM_compare_139 ?_
                        refine hw_top (nI (61 * i)) (pk_mul _ _) ?_
                        refine lv_iload_n S0.1 S0.2.1 dMM_compare_140 rfl (lv_at hl 6 rfl) ?_
                        refine lv_iadd S0.1 S0.2.1 dMM_compare_141 ?_
                        refine hw_top (nI ((61 * i) + j)) (nI_add _ _) ?_
                        refine lv_iload_n S0.1 S0.2.1 dMM_compare_142 rfl (lv_at hl 0 rfl) ?_
                        refine hw_iast S0 hK hg hS e3 0 rfl (by omega) (by omega) dMM_compare_143 (fun H locs hg hS => ?_)
                        obtain ⟨g_5, eg_5⟩ : ∃ z, z = hs gi (q 4) (.inl (cI, 3721, .inl (upd fi ((61 * i) + j) (nI (Lc a b i (j + 1)))))) := ⟨_, rfl⟩
                        have hg : hw D hC AX g_5 H := by rw [eg_5]; exact hg
                        have f5_0 : g_5 mm = some (mmC q v0 (nI a.length) (nI b.length) v9 v12 v14 v16 v17 v21 v23 v25) := by rw [eg_5, hs_n _ _ (h_ne q14_mm e3 (fun h => by cases h))]; exact q14_mm
                        have f5_1 : g_5 (q 2) = some (.inl (cI, 60, .inl fx)) := by rw [eg_5, hs_n _ _ (qne hq (by decide) (by decide) (by decide))]; exact q14_q2
                        have f5_2 : g_5 (q 3) = some (.inl (cI, 60, .inl fy)) := by rw [eg_5, hs_n _ _ (qne hq (by decide) (by decide) (by decide))]; exact q14_q3
                        have f5_3 : g_5 (q 5) = some (.inl (cI, 60, .inl fpartner)) := by rw [eg_5, hs_n _ _ (qne hq (by decide) (by decide) (by decide))]; exact e4
                        have f5_4 : g_5 (q 4) = some (.inl (cI, 3721, .inl (upd fi ((61 * i) + j) (nI (Lc a b i (j + 1)))))) := by rw [eg_5]; exact hs_s _ _ _
                        have fr := fr.put eg_5 (by simp)
                        refine lv_iinc (v := nJ j) (lv' := [(2, .int (nJ j)), (3, .int (nI (Lc a b i (j + 1)))), (6, .int (nI 0)), (5, .int (nI (Lc a b i (j + 1)))), (4, .int (nI (Lc a b (i + 1) j))), (0, .ref mm), (1, .int (nI i))]) S0.1 S0.2.1 dMM_compare_144 hl (k := 6) rfl (by exact nJ_dec _) (by decide) rfl (fun ls hl => ?_)
                        refine lv_goto (tgt := 14) S0.1 S0.2.1 dMM_compare_147 (by decide) ?_
                        exact ih_14 j (upd fi ((61 * i) + j) (nI (Lc a b i (j + 1)))) g_5 _ _ _ (by omega) (by omega) (fun x y h1 h2 h3 => by rw [pk_un (by omega)]; exact hrow x y h1 h2 h3) (fun y h1 h2 => by by_cases e : y = j; rw [e, pk_us, hval]; rw [pk_un (by omega)]; exact hin y (by omega) h2) fr f5_4 f5_3 hg hS (lv_sub hl [5, 6, 0] rfl)
                      · skip
                        have c_122 : ¬ (0 ≤ (Lc a b i (j + 1))) := fun h => c_122 ((nI_leI (by omega) (by omega)).mpr h)
                        omega
                    · skip
                      rw [ea i (by omega), eb j (by omega)] at c_93
                      rw [if_pos c_93] at hst
                      refine lv_iconst (v := nI 1) S0.1 S0.2.1 dMM_compare_96 (by decide) ?_
                      refine lv_aload_n S0.1 S0.2.1 dMM_compare_97 rfl (lv_at hl 3 rfl) ?_
                      refine hw_get S0 hK hg q14_mm rfl inMM 7 (by decide) lf_MM_22 rfl rfl dMM_compare_98 ?_
                      refine lv_bipush (v := nI 61) S0.1 S0.2.1 dMM_compare_101 (by decide) ?_
                      refine lv_iload_n S0.1 S0.2.1 dMM_compare_103 rfl (lv_at hl 4 rfl) ?_
                      refine lv_iconst (v := nI 1) S0.1 S0.2.1 dMM_compare_104 (by decide) ?_
                      refine lv_iadd S0.1 S0.2.1 dMM_compare_105 ?_
                      refine hw_top (nI (i + 1)) (nI_add _ _) ?_
                      refine lv_imul S0.1 S0.2.1 dMM_compare_106 ?_
                      refine hw_top (nI (61 * (i + 1))) (pk_mul _ _) ?_
                      refine lv_iload_n S0.1 S0.2.1 dMM_compare_107 rfl (lv_at hl 5 rfl) ?_
                      refine lv_iadd S0.1 S0.2.1 dMM_compare_108 ?_
                      refine hw_top (nI ((61 * (i + 1)) + j)) (nI_add _ _) ?_
                      refine lv_iconst (v := nI 1) S0.1 S0.2.1 dMM_compare_109 (by decide) ?_
                      refine lv_iadd S0.1 S0.2.1 dMM_compare_110 ?_
                      refine hw_top (nI (((61 * (i + 1)) + j) + 1)) (nI_add _ _) ?_
                      refine hw_iald S0 hK hg e3 0 rfl (by omega) (by omega) dMM_compare_111 ?_
                      refine hw_top (nI (Lc a b (i + 1) (j + 1))) q3 ?_
                      refine lv_iadd S0.1 S0.2.1 dMM_compare_112 ?_
                      refine hw_top (nI (1 + (Lc a b (i + 1) (j + 1)))) (nI_add _ _) ?_
                      refine lv_goto (tgt := 117) S0.1 S0.2.1 dMM_compare_113 (by decide) ?_
                      refine lv_istore (lv' := [(6, .int (nI (1 + (Lc a b (i + 1) (j + 1))))), (3, .int (nI (Lc a b i (j + 1)))), (5, .int (nI (Lc a b i (j + 1)))), (4, .int (nI (Lc a b (i + 1) j))), (0, .ref mm), (1, .int (nI i)), (2, .int (nI j))]) S0.1 S0.2.1 dMM_compare_117 hl (by decide) rfl (fun ls hl => ?_)
                      refine lv_iload S0.1 S0.2.1 dMM_compare_119 (lv_at hl 0 rfl) ?_
                      refine lv_iload_n S0.1 S0.2.1 dMM_compare_121 rfl (lv_at hl 1 rfl) ?_
                      refine lv_icmp_le (tgt := 130) S0.1 S0.2.1 dMM_compare_122 (by decide) (fun c_122 => ?_) (fun c_122 => ?_)
                      · skip
                        have c_122 : (1 + (Lc a b (i + 1) (j + 1))) ≤ (Lc a b i (j + 1)) := (nI_leI (by omega) (by omega)).mp c_122
                        refine lv_iload_n S0.1 S0.2.1 dMM_compare_130 rfl (lv_at hl 1 rfl) ?_
                        refine lv_istore_n (lv' := [(3, .int (nI (Lc a b i (j + 1)))), (6, .int (nI (1 + (Lc a b (i + 1) (j + 1))))), (5, .int (nI (Lc a b i (j + 1)))), (4, .int (nI (Lc a b (i + 1) j))), (0, .ref mm), (1, .int (nI i)), (2, .int (nI j))]) S0.1 S0.2.1 dMM_compare_131 rfl hl (by decide) rfl (fun ls hl => ?_)
                        have hval : nI (Lc a b i (j + 1)) = nI (Lc a b i j) := by congr 1; omega
                        refine lv_aload_n S0.1 S0.2.1 dMM_compare_132 rfl (lv_at hl 4 rfl) ?_
                        refine hw_get S0 hK hg q14_mm rfl inMM 7 (by decide) lf_MM_22 rfl rfl dMM_compare_133 ?_
                        refine lv_bipush (v := nI 61) S0.1 S0.2.1 dMM_compare_136 (by decide) ?_
                        refine lv_iload_n S0.1 S0.2.1 dMM_compare_138 rfl (lv_at hl 5 rfl) ?_
                        refine lv_imul S0.1 S0.2.1 dMM_compare_139 ?_
                        refine hw_top (nI (61 * i)) (pk_mul _ _) ?_
                        refine lv_iload_n S0.1 S0.2.1 dMM_compare_140 rfl (lv_at hl 6 rfl) ?_
                        refine lv_iadd S0.1 S0.2.1 dMM_compare_141 ?_
                        refine hw_top (nI ((61 * i) + j)) (nI_add _ _) ?_
                        refine lv_iload_n S0.1 S0.2.1 dMM_compare_142 rfl (lv_at hl 0 rfl) ?_
                        refine hw_iast S0 hK hg hS e3 0 rfl (by omega) (by omega) dMM_compare_143 (fun H locs hg hS => ?_)
                        obtain ⟨g_6, eg_6⟩ : ∃ z, z = hs gi (q 4) (.inl (cI, 3721, .inl (upd fi ((61 * i) + j) (nI (Lc a b i (j + 1)))))) := ⟨_, rfl⟩
                        have hg : hw D hC AX g_6 H := by rw [eg_6]; exact hg
                        have f6_0 : g_6 mm = some (mmC q v0 (nI a.length) (nI b.length) v9 v12 v14 v16 v17 v21 v23 v25) := by rw [eg_6, hs_n _ _ (h_ne q14_mm e3 (fun h => by cases h))]; exact q14_mm
                        have f6_1 : g_6 (q 2) = some (.inl (cI, 60, .inl fx)) := by rw [eg_6, hs_n _ _ (qne hq (by decide) (by decide) (by decide))]; exact q14_q2
                        have f6_2 : g_6 (q 3) = some (.inl (cI, 60, .inl fy)) := by rw [eg_6, hs_n _ _ (qne hq (by decide) (by decide) (by decide))]; exact q14_q3
                        have f6_3 : g_6 (q 5) = some (.inl (cI, 60, .inl fpartner)) := by rw [eg_6, hs_n _ _ (qne hq (by decide) (by decide) (by decide))]; exact e4
                        have f6_4 : g_6 (q 4) = some (.inl (cI, 3721, .inl (upd fi ((61 * i) + j) (nI (Lc a b i (j + 1)))))) := by rw [eg_6]; exact hs_s _ _ _
                        have fr := fr.put eg_6 (by simp)
                        refine lv_iinc (v := nJ j) (lv' := [(2, .int (nJ j)), (3, .int (nI (Lc a b i (j + 1)))), (6, .int (nI (1 + (Lc a b (i + 1) (j + 1))))), (5, .int (nI (Lc a b i (j + 1)))), (4, .int (nI (Lc a b (i + 1) j))), (0, .ref mm), (1, .int (nI i))]) S0.1 S0.2.1 dMM_compare_144 hl (k := 6) rfl (by exact nJ_dec _) (by decide) rfl (fun ls hl => ?_)
                        refine lv_goto (tgt := 14) S0.1 S0.2.1 dMM_compare_147 (by decide) ?_
                        exact ih_14 j (upd fi ((61 * i) + j) (nI (Lc a b i (j + 1)))) g_6 _ _ _ (by omega) (by omega) (fun x y h1 h2 h3 => by rw [pk_un (by omega)]; exact hrow x y h1 h2 h3) (fun y h1 h2 => by by_cases e : y = j; rw [e, pk_us, hval]; rw [pk_un (by omega)]; exact hin y (by omega) h2) fr f6_4 f6_3 hg hS (lv_sub hl [5, 6, 0] rfl)
                      · skip
                        have c_122 : ¬ ((1 + (Lc a b (i + 1) (j + 1))) ≤ (Lc a b i (j + 1))) := fun h => c_122 ((nI_leI (by omega) (by omega)).mpr h)
                        refine lv_iload S0.1 S0.2.1 dMM_compare_125 (lv_at hl 0 rfl) ?_
                        refine lv_goto (tgt := 131) S0.1 S0.2.1 dMM_compare_127 (by decide) ?_
                        refine lv_istore_n (lv' := [(3, .int (nI (1 + (Lc a b (i + 1) (j + 1))))), (6, .int (nI (1 + (Lc a b (i + 1) (j + 1))))), (5, .int (nI (Lc a b i (j + 1)))), (4, .int (nI (Lc a b (i + 1) j))), (0, .ref mm), (1, .int (nI i)), (2, .int (nI j))]) S0.1 S0.2.1 dMM_compare_131 rfl hl (by decide) rfl (fun ls hl => ?_)
                        have hval : nI (1 + (Lc a b (i + 1) (j + 1))) = nI (Lc a b i j) := by congr 1; omega
                        refine lv_aload_n S0.1 S0.2.1 dMM_compare_132 rfl (lv_at hl 4 rfl) ?_
                        refine hw_get S0 hK hg q14_mm rfl inMM 7 (by decide) lf_MM_22 rfl rfl dMM_compare_133 ?_
                        refine lv_bipush (v := nI 61) S0.1 S0.2.1 dMM_compare_136 (by decide) ?_
                        refine lv_iload_n S0.1 S0.2.1 dMM_compare_138 rfl (lv_at hl 5 rfl) ?_
                        refine lv_imul S0.1 S0.2.1 dMM_compare_139 ?_
                        refine hw_top (nI (61 * i)) (pk_mul _ _) ?_
                        refine lv_iload_n S0.1 S0.2.1 dMM_compare_140 rfl (lv_at hl 6 rfl) ?_
                        refine lv_iadd S0.1 S0.2.1 dMM_compare_141 ?_
                        refine hw_top (nI ((61 * i) + j)) (nI_add _ _) ?_
                        refine lv_iload_n S0.1 S0.2.1 dMM_compare_142 rfl (lv_at hl 0 rfl) ?_
                        refine hw_iast S0 hK hg hS e3 0 rfl (by omega) (by omega) dMM_compare_143 (fun H locs hg hS => ?_)
                        obtain ⟨g_7, eg_7⟩ : ∃ z, z = hs gi (q 4) (.inl (cI, 3721, .inl (upd fi ((61 * i) + j) (nI (1 + (Lc a b (i + 1) (j + 1))))))) := ⟨_, rfl⟩
                        have hg : hw D hC AX g_7 H := by rw [eg_7]; exact hg
                        have f7_0 : g_7 mm = some (mmC q v0 (nI a.length) (nI b.length) v9 v12 v14 v16 v17 v21 v23 v25) := by rw [eg_7, hs_n _ _ (h_ne q14_mm e3 (fun h => by cases h))]; exact q14_mm
                        have f7_1 : g_7 (q 2) = some (.inl (cI, 60, .inl fx)) := by rw [eg_7, hs_n _ _ (qne hq (by decide) (by decide) (by decide))]; exact q14_q2
                        have f7_2 : g_7 (q 3) = some (.inl (cI, 60, .inl fy)) := by rw [eg_7, hs_n _ _ (qne hq (by decide) (by decide) (by decide))]; exact q14_q3
                        have f7_3 : g_7 (q 5) = some (.inl (cI, 60, .inl fpartner)) := by rw [eg_7, hs_n _ _ (qne hq (by decide) (by decide) (by decide))]; exact e4
                        have f7_4 : g_7 (q 4) = some (.inl (cI, 3721, .inl (upd fi ((61 * i) + j) (nI (1 + (Lc a b (i + 1) (j + 1))))))) := by rw [eg_7]; exact hs_s _ _ _
                        have fr := fr.put eg_7 (by simp)
                        refine lv_iinc (v := nJ j) (lv' := [(2, .int (nJ j)), (3, .int (nI (1 + (Lc a b (i + 1) (j + 1))))), (6, .int (nI (1 + (Lc a b (i + 1) (j + 1))))), (5, .int (nI (Lc a b i (j + 1)))), (4, .int (nI (Lc a b (i + 1) j))), (0, .ref mm), (1, .int (nI i))]) S0.1 S0.2.1 dMM_compare_144 hl (k := 6) rfl (by exact nJ_dec _) (by decide) rfl (fun ls hl => ?_)
                        refine lv_goto (tgt := 14) S0.1 S0.2.1 dMM_compare_147 (by decide) ?_
                        exact ih_14 j (upd fi ((61 * i) + j) (nI (1 + (Lc a b (i + 1) (j + 1))))) g_7 _ _ _ (by omega) (by omega) (fun x y h1 h2 h3 => by rw [pk_un (by omega)]; exact hrow x y h1 h2 h3) (fun y h1 h2 => by by_cases e : y = j; rw [e, pk_us, hval]; rw [pk_un (by omega)]; exact hin y (by omega) h2) fr f7_4 f7_3 hg hS (lv_sub hl [5, 6, 0] rfl)
                  · skip
                    have c_70 : ¬ ((Lc a b (i + 1) j) ≤ (Lc a b i (j + 1))) := fun h => c_70 ((nI_leI (by omega) (by omega)).mpr h)
                    refine lv_iload S0.1 S0.2.1 dMM_compare_73 (lv_at hl 1 rfl) ?_
                    refine lv_goto (tgt := 80) S0.1 S0.2.1 dMM_compare_75 (by decide) ?_
                    refine lv_istore_n (lv' := [(3, .int (nI (Lc a b (i + 1) j))), (5, .int (nI (Lc a b i (j + 1)))), (4, .int (nI (Lc a b (i + 1) j))), (0, .ref mm), (1, .int (nI i)), (2, .int (nI j))]) S0.1 S0.2.1 dMM_compare_80 rfl hl (by decide) rfl (fun ls hl => ?_)
                    refine lv_aload_n S0.1 S0.2.1 dMM_compare_81 rfl (lv_at hl 3 rfl) ?_
                    refine hw_get S0 hK hg q14_mm rfl inMM 5 (by decide) lf_MM_16 rfl rfl dMM_compare_82 ?_
                    refine lv_iload_n S0.1 S0.2.1 dMM_compare_85 rfl (lv_at hl 4 rfl) ?_
                    refine hw_iald S0 hK hg q14_q2 0 rfl (by omega) (by omega) dMM_compare_86 ?_
                    refine lv_aload_n S0.1 S0.2.1 dMM_compare_87 rfl (lv_at hl 3 rfl) ?_
                    refine hw_get S0 hK hg q14_mm rfl inMM 6 (by decide) lf_MM_19 rfl rfl dMM_compare_88 ?_
                    refine lv_iload_n S0.1 S0.2.1 dMM_compare_91 rfl (lv_at hl 5 rfl) ?_
                    refine hw_iald S0 hK hg q14_q3 0 rfl (by omega) (by omega) dMM_compare_92 ?_
                    refine lv_icmp_ne (tgt := 116) S0.1 S0.2.1 dMM_compare_93 (by decide) (fun c_93 => ?_) (fun c_93 => ?_)
                    · skip
                      rw [ea i (by omega), eb j (by omega)] at c_93
                      rw [if_neg c_93] at hst
                      refine lv_iconst (v := nI 0) S0.1 S0.2.1 dMM_compare_116 (by decide) ?_
                      refine lv_istore (lv' := [(6, .int (nI 0)), (3, .int (nI (Lc a b (i + 1) j))), (5, .int (nI (Lc a b i (j + 1)))), (4, .int (nI (Lc a b (i + 1) j))), (0, .ref mm), (1, .int (nI i)), (2, .int (nI j))]) S0.1 S0.2.1 dMM_compare_117 hl (by decide) rfl (fun ls hl => ?_)
                      refine lv_iload S0.1 S0.2.1 dMM_compare_119 (lv_at hl 0 rfl) ?_
                      refine lv_iload_n S0.1 S0.2.1 dMM_compare_121 rfl (lv_at hl 1 rfl) ?_
                      refine lv_icmp_le (tgt := 130) S0.1 S0.2.1 dMM_compare_122 (by decide) (fun c_122 => ?_) (fun c_122 => ?_)
                      · skip
                        have c_122 : 0 ≤ (Lc a b (i + 1) j) := (nI_leI (by omega) (by omega)).mp c_122
                        refine lv_iload_n S0.1 S0.2.1 dMM_compare_130 rfl (lv_at hl 1 rfl) ?_
                        refine lv_istore_n (lv' := [(3, .int (nI (Lc a b (i + 1) j))), (6, .int (nI 0)), (5, .int (nI (Lc a b i (j + 1)))), (4, .int (nI (Lc a b (i + 1) j))), (0, .ref mm), (1, .int (nI i)), (2, .int (nI j))]) S0.1 S0.2.1 dMM_compare_131 rfl hl (by decide) rfl (fun ls hl => ?_)
                        have hval : nI (Lc a b (i + 1) j) = nI (Lc a b i j) := by congr 1; omega
                        refine lv_aload_n S0.1 S0.2.1 dMM_compare_132 rfl (lv_at hl 4 rfl) ?_
                        refine hw_get S0 hK hg q14_mm rfl inMM 7 (by decide) lf_MM_22 rfl rfl dMM_compare_133 ?_
                        refine lv_bipush (v := nI 61) S0.1 S0.2.1 dMM_compare_136 (by decide) ?_
                        refine lv_iload_n S0.1 S0.2.1 dMM_compare_138 rfl (lv_at hl 5 rfl) ?_
                        refine lv_imul S0.1 S0.2.1 dMM_compare_139 ?_
                        refine hw_top (nI (61 * i)) (pk_mul _ _) ?_
                        refine lv_iload_n S0.1 S0.2.1 dMM_compare_140 rfl (lv_at hl 6 rfl) ?_
                        refine lv_iadd S0.1 S0.2.1 dMM_compare_141 ?_
                        refine hw_top (nI ((61 * i) + j)) (nI_add _ _) ?_
                        refine lv_iload_n S0.1 S0.2.1 dMM_compare_142 rfl (lv_at hl 0 rfl) ?_
                        refine hw_iast S0 hK hg hS e3 0 rfl (by omega) (by omega) dMM_compare_143 (fun H locs hg hS => ?_)
                        obtain ⟨g_8, eg_8⟩ : ∃ z, z = hs gi (q 4) (.inl (cI, 3721, .inl (upd fi ((61 * i) + j) (nI (Lc a b (i + 1) j))))) := ⟨_, rfl⟩
                        have hg : hw D hC AX g_8 H := by rw [eg_8]; exact hg
                        have f8_0 : g_8 mm = some (mmC q v0 (nI a.length) (nI b.length) v9 v12 v14 v16 v17 v21 v23 v25) := by rw [eg_8, hs_n _ _ (h_ne q14_mm e3 (fun h => by cases h))]; exact q14_mm
                        have f8_1 : g_8 (q 2) = some (.inl (cI, 60, .inl fx)) := by rw [eg_8, hs_n _ _ (qne hq (by decide) (by decide) (by decide))]; exact q14_q2
                        have f8_2 : g_8 (q 3) = some (.inl (cI, 60, .inl fy)) := by rw [eg_8, hs_n _ _ (qne hq (by decide) (by decide) (by decide))]; exact q14_q3
                        have f8_3 : g_8 (q 5) = some (.inl (cI, 60, .inl fpartner)) := by rw [eg_8, hs_n _ _ (qne hq (by decide) (by decide) (by decide))]; exact e4
                        have f8_4 : g_8 (q 4) = some (.inl (cI, 3721, .inl (upd fi ((61 * i) + j) (nI (Lc a b (i + 1) j))))) := by rw [eg_8]; exact hs_s _ _ _
                        have fr := fr.put eg_8 (by simp)
                        refine lv_iinc (v := nJ j) (lv' := [(2, .int (nJ j)), (3, .int (nI (Lc a b (i + 1) j))), (6, .int (nI 0)), (5, .int (nI (Lc a b i (j + 1)))), (4, .int (nI (Lc a b (i + 1) j))), (0, .ref mm), (1, .int (nI i))]) S0.1 S0.2.1 dMM_compare_144 hl (k := 6) rfl (by exact nJ_dec _) (by decide) rfl (fun ls hl => ?_)
                        refine lv_goto (tgt := 14) S0.1 S0.2.1 dMM_compare_147 (by decide) ?_
                        exact ih_14 j (upd fi ((61 * i) + j) (nI (Lc a b (i + 1) j))) g_8 _ _ _ (by omega) (by omega) (fun x y h1 h2 h3 => by rw [pk_un (by omega)]; exact hrow x y h1 h2 h3) (fun y h1 h2 => by by_cases e : y = j; rw [e, pk_us, hval]; rw [pk_un (by omega)]; exact hin y (by omega) h2) fr f8_4 f8_3 hg hS (lv_sub hl [5, 6, 0] rfl)
                      · skip
                        have c_122 : ¬ (0 ≤ (Lc a b (i + 1) j)) := fun h => c_122 ((nI_leI (by omega) (by omega)).mpr h)
                        omega
                    · skip
                      rw [ea i (by omega), eb j (by omega)] at c_93
                      rw [if_pos c_93] at hst
                      refine lv_iconst (v := nI 1) S0.1 S0.2.1 dMM_compare_96 (by decide) ?_
                      refine lv_aload_n S0.1 S0.2.1 dMM_compare_97 rfl (lv_at hl 3 rfl) ?_
                      refine hw_get S0 hK hg q14_mm rfl inMM 7 (by decide) lf_MM_22 rfl rfl dMM_compare_98 ?_
                      refine lv_bipush (v := nI 61) S0.1 S0.2.1 dMM_compare_101 (by decide) ?_
                      refine lv_iload_n S0.1 S0.2.1 dMM_compare_103 rfl (lv_at hl 4 rfl) ?_
                      refine lv_iconst (v := nI 1) S0.1 S0.2.1 dMM_compare_104 (by decide) ?_
                      refine lv_iadd S0.1 S0.2.1 dMM_compare_105 ?_
                      refine hw_top (nI (i + 1)) (nI_add _ _) ?_
                      refine lv_imul S0.1 S0.2.1 dMM_compare_106 ?_
                      refine hw_top (nI (61 * (i + 1))) (pk_mul _ _) ?_
                      refine lv_iload_n S0.1 S0.2.1 dMM_compare_107 rfl (lv_at hl 5 rfl) ?_
                      refine lv_iadd S0.1 S0.2.1 dMM_compare_108 ?_
                      refine hw_top (nI ((61 * (i + 1)) + j)) (nI_add _ _) ?_
                      refine lv_iconst (v := nI 1) S0.1 S0.2.1 dMM_compare_109 (by decide) ?_
                      refine lv_iadd S0.1 S0.2.1 dMM_compare_110 ?_
                      refine hw_top (nI (((61 * (i + 1)) + j) + 1)) (nI_add _ _) ?_
                      refine hw_iald S0 hK hg e3 0 rfl (by omega) (by omega) dMM_compare_111 ?_
                      refine hw_top (nI (Lc a b (i + 1) (j + 1))) q3 ?_
                      refine lv_iadd S0.1 S0.2.1 dMM_compare_112 ?_
                      refine hw_top (nI (1 + (Lc a b (i + 1) (j + 1)))) (nI_add _ _) ?_
                      refine lv_goto (tgt := 117) S0.1 S0.2.1 dMM_compare_113 (by decide) ?_
                      refine lv_istore (lv' := [(6, .int (nI (1 + (Lc a b (i + 1) (j + 1))))), (3, .int (nI (Lc a b (i + 1) j))), (5, .int (nI (Lc a b i (j + 1)))), (4, .int (nI (Lc a b (i + 1) j))), (0, .ref mm), (1, .int (nI i)), (2, .int (nI j))]) S0.1 S0.2.1 dMM_compare_117 hl (by decide) rfl (fun ls hl => ?_)
                      refine lv_iload S0.1 S0.2.1 dMM_compare_119 (lv_at hl 0 rfl) ?_
                      refine lv_iload_n S0.1 S0.2.1 dMM_compare_121 rfl (lv_at hl 1 rfl) ?_
                      refine lv_icmp_le (tgt := 130) S0.1 S0.2.1 dMM_compare_122 (by decide) (fun c_122 => ?_) (fun c_122 => ?_)
                      · skip
                        have c_122 : (1 + (Lc a b (i + 1) (j + 1))) ≤ (Lc a b (i + 1) j) := (nI_leI (by omega) (by omega)).mp c_122
                        refine lv_iload_n S0.1 S0.2.1 dMM_compare_130 rfl (lv_at hl 1 rfl) ?_
                        refine lv_istore_n (lv' := [(3, .int (nI (Lc a b (i + 1) j))), (6, .int (nI (1 + (Lc a b (i + 1) (j + 1))))), (5, .int (nI (Lc a b i (j + 1)))), (4, .int (nI (Lc a b (i + 1) j))), (0, .ref mm), (1, .int (nI i)), (2, .int (nI j))]) S0.1 S0.2.1 dMM_compare_131 rfl hl (by decide) rfl (fun ls hl => ?_)
                        have hval : nI (Lc a b (i + 1) j) = nI (Lc a b i j) := by congr 1; omega
                        refine lv_aload_n S0.1 S0.2.1 dMM_compare_132 rfl (lv_at hl 4 rfl) ?_
                        refine hw_get S0 hK hg q14_mm rfl inMM 7 (by decide) lf_MM_22 rfl rfl dMM_compare_133 ?_
                        refine lv_bipush (v := nI 61) S0.1 S0.2.1 dMM_compare_136 (by decide) ?_
                        refine lv_iload_n S0.1 S0.2.1 dMM_compare_138 rfl (lv_at hl 5 rfl) ?_
                        refine lv_imul S0.1 S0.2.1 dMM_compare_139 ?_
                        refine hw_top (nI (61 * i)) (pk_mul _ _) ?_
                        refine lv_iload_n S0.1 S0.2.1 dMM_compare_140 rfl (lv_at hl 6 rfl) ?_
                        refine lv_iadd S0.1 S0.2.1 dMM_compare_141 ?_
                        refine hw_top (nI ((61 * i) + j)) (nI_add _ _) ?_
                        refine lv_iload_n S0.1 S0.2.1 dMM_compare_142 rfl (lv_at hl 0 rfl) ?_
                        refine hw_iast S0 hK hg hS e3 0 rfl (by omega) (by omega) dMM_compare_143 (fun H locs hg hS => ?_)
                        obtain ⟨g_9, eg_9⟩ : ∃ z, z = hs gi (q 4) (.inl (cI, 3721, .inl (upd fi ((61 * i) + j) (nI (Lc a b (i + 1) j))))) := ⟨_, rfl⟩
                        have hg : hw D hC AX g_9 H := by rw [eg_9]; exact hg
                        have f9_0 : g_9 mm = some (mmC q v0 (nI a.length) (nI b.length) v9 v12 v14 v16 v17 v21 v23 v25) := by rw [eg_9, hs_n _ _ (h_ne q14_mm e3 (fun h => by cases h))]; exact q14_mm
                        have f9_1 : g_9 (q 2) = some (.inl (cI, 60, .inl fx)) := by rw [eg_9, hs_n _ _ (qne hq (by decide) (by decide) (by decide))]; exact q14_q2
                        have f9_2 : g_9 (q 3) = some (.inl (cI, 60, .inl fy)) := by rw [eg_9, hs_n _ _ (qne hq (by decide) (by decide) (by decide))]; exact q14_q3
                        have f9_3 : g_9 (q 5) = some (.inl (cI, 60, .inl fpartner)) := by rw [eg_9, hs_n _ _ (qne hq (by decide) (by decide) (by decide))]; exact e4
                        have f9_4 : g_9 (q 4) = some (.inl (cI, 3721, .inl (upd fi ((61 * i) + j) (nI (Lc a b (i + 1) j))))) := by rw [eg_9]; exact hs_s _ _ _
                        have fr := fr.put eg_9 (by simp)
                        refine lv_iinc (v := nJ j) (lv' := [(2, .int (nJ j)), (3, .int (nI (Lc a b (i + 1) j))), (6, .int (nI (1 + (Lc a b (i + 1) (j + 1))))), (5, .int (nI (Lc a b i (j + 1)))), (4, .int (nI (Lc a b (i + 1) j))), (0, .ref mm), (1, .int (nI i))]) S0.1 S0.2.1 dMM_compare_144 hl (k := 6) rfl (by exact nJ_dec _) (by decide) rfl (fun ls hl => ?_)
                        refine lv_goto (tgt := 14) S0.1 S0.2.1 dMM_compare_147 (by decide) ?_
                        exact ih_14 j (upd fi ((61 * i) + j) (nI (Lc a b (i + 1) j))) g_9 _ _ _ (by omega) (by omega) (fun x y h1 h2 h3 => by rw [pk_un (by omega)]; exact hrow x y h1 h2 h3) (fun y h1 h2 => by by_cases e : y = j; rw [e, pk_us, hval]; rw [pk_un (by omega)]; exact hin y (by omega) h2) fr f9_4 f9_3 hg hS (lv_sub hl [5, 6, 0] rfl)
                      · skip
                        have c_122 : ¬ ((1 + (Lc a b (i + 1) (j + 1))) ≤ (Lc a b (i + 1) j)) := fun h => c_122 ((nI_leI (by omega) (by omega)).mpr h)
                        refine lv_iload S0.1 S0.2.1 dMM_compare_125 (lv_at hl 0 rfl) ?_
                        refine lv_goto (tgt := 131) S0.1 S0.2.1 dMM_compare_127 (by decide) ?_
                        refine lv_istore_n (lv' := [(3, .int (nI (1 + (Lc a b (i + 1) (j + 1))))), (6, .int (nI (1 + (Lc a b (i + 1) (j + 1))))), (5, .int (nI (Lc a b i (j + 1)))), (4, .int (nI (Lc a b (i + 1) j))), (0, .ref mm), (1, .int (nI i)), (2, .int (nI j))]) S0.1 S0.2.1 dMM_compare_131 rfl hl (by decide) rfl (fun ls hl => ?_)
                        have hval : nI (1 + (Lc a b (i + 1) (j + 1))) = nI (Lc a b i j) := by congr 1; omega
                        refine lv_aload_n S0.1 S0.2.1 dMM_compare_132 rfl (lv_at hl 4 rfl) ?_
                        refine hw_get S0 hK hg q14_mm rfl inMM 7 (by decide) lf_MM_22 rfl rfl dMM_compare_133 ?_
                        refine lv_bipush (v := nI 61) S0.1 S0.2.1 dMM_compare_136 (by decide) ?_
                        refine lv_iload_n S0.1 S0.2.1 dMM_compare_138 rfl (lv_at hl 5 rfl) ?_
                        refine lv_imul S0.1 S0.2.1 dMM_compare_139 ?_
                        refine hw_top (nI (61 * i)) (pk_mul _ _) ?_
                        refine lv_iload_n S0.1 S0.2.1 dMM_compare_140 rfl (lv_at hl 6 rfl) ?_
                        refine lv_iadd S0.1 S0.2.1 dMM_compare_141 ?_
                        refine hw_top (nI ((61 * i) + j)) (nI_add _ _) ?_
                        refine lv_iload_n S0.1 S0.2.1 dMM_compare_142 rfl (lv_at hl 0 rfl) ?_
                        refine hw_iast S0 hK hg hS e3 0 rfl (by omega) (by omega) dMM_compare_143 (fun H locs hg hS => ?_)
                        obtain ⟨g_10, eg_10⟩ : ∃ z, z = hs gi (q 4) (.inl (cI, 3721, .inl (upd fi ((61 * i) + j) (nI (1 + (Lc a b (i + 1) (j + 1))))))) := ⟨_, rfl⟩
                        have hg : hw D hC AX g_10 H := by rw [eg_10]; exact hg
                        have f10_0 : g_10 mm = some (mmC q v0 (nI a.length) (nI b.length) v9 v12 v14 v16 v17 v21 v23 v25) := by rw [eg_10, hs_n _ _ (h_ne q14_mm e3 (fun h => by cases h))]; exact q14_mm
                        have f10_1 : g_10 (q 2) = some (.inl (cI, 60, .inl fx)) := by rw [eg_10, hs_n _ _ (qne hq (by decide) (by decide) (by decide))]; exact q14_q2
                        have f10_2 : g_10 (q 3) = some (.inl (cI, 60, .inl fy)) := by rw [eg_10, hs_n _ _ (qne hq (by decide) (by decide) (by decide))]; exact q14_q3
                        have f10_3 : g_10 (q 5) = some (.inl (cI, 60, .inl fpartner)) := by rw [eg_10, hs_n _ _ (qne hq (by decide) (by decide) (by decide))]; exact e4
                        have f10_4 : g_10 (q 4) = some (.inl (cI, 3721, .inl (upd fi ((61 * i) + j) (nI (1 + (Lc a b (i + 1) (j + 1))))))) := by rw [eg_10]; exact hs_s _ _ _
                        have fr := fr.put eg_10 (by simp)
                        refine lv_iinc (v := nJ j) (lv' := [(2, .int (nJ j)), (3, .int (nI (1 + (Lc a b (i + 1) (j + 1))))), (6, .int (nI (1 + (Lc a b (i + 1) (j + 1))))), (5, .int (nI (Lc a b i (j + 1)))), (4, .int (nI (Lc a b (i + 1) j))), (0, .ref mm), (1, .int (nI i))]) S0.1 S0.2.1 dMM_compare_144 hl (k := 6) rfl (by exact nJ_dec _) (by decide) rfl (fun ls hl => ?_)
                        refine lv_goto (tgt := 14) S0.1 S0.2.1 dMM_compare_147 (by decide) ?_
                        exact ih_14 j (upd fi ((61 * i) + j) (nI (1 + (Lc a b (i + 1) (j + 1))))) g_10 _ _ _ (by omega) (by omega) (fun x y h1 h2 h3 => by rw [pk_un (by omega)]; exact hrow x y h1 h2 h3) (fun y h1 h2 => by by_cases e : y = j; rw [e, pk_us, hval]; rw [pk_un (by omega)]; exact hin y (by omega) h2) fr f10_4 f10_3 hg hS (lv_sub hl [5, 6, 0] rfl)
        exact loop_14 _ (b.length + 1) fo gl _ _ _ (Nat.lt_succ_self _) (Nat.le_refl _) (fun x y h1 h2 h3 => hrow x y h1 h2 h3) (fun y h1 h2 => by omega) fr e1 e2 hg hS (lv_sub hl [1, 2, 0] rfl)
  exact loop_5 _ (a.length + 1) fbest g _ _ _ (Nat.lt_succ_self _) (Nat.le_refl _) (fun x y h1 h2 h3 => by omega) fr hbest hpartner hg hS (lv_sub hl [1, 0] rfl)
