/-! ROWS of lines -/
abbrev hT (cI cR cJ : ClassId) : List (ClassId × FieldType) := [(cI, .int), (cR, .object "MergeRows$Row"), (cJ, .long)]
set_option maxRecDepth 100000 in
set_option maxHeartbeats 4000000 in
theorem c_Ro_add (l : Launch) (D : va_G) (cI cR cJ : ClassId) (g : Nat → Option va_E) (sz : Nat) (r la n cap : Nat) (f : Nat → Int32) (v : Int32) (h0 : g r = some (.inr (5, [.ref la, .int (nI n)]))) (h1 : g la = some (.inl (cI, cap, .inl f))) (hn : n < cap) (hcap : cap < 4000) : hMv l yRo_add cRo_add 2 (hRm 0 0 0 0) D (hT cI cR cJ) g sz [.ref r, .int v] (fun g1 => hfr g g1 [r, la] ∧ g1 r = some (.inr (5, [.ref la, .int (nI (n + 1))])) ∧ g1 la = some (.inl (cI, cap, .inl (upd f n v)))) := by
  refine hMv_of (by decide +kernel) (Nat.le_of_ble_eq_true rfl) ?_
  intro p e R s m args below meth c Q A hR S0 hnm hsz hg hK hS hA0 hend ls hl
  have hl : lv_has ls 2 [(0, .ref r), (1, .int v)] := hl
  have fr : hfr g g [r, la] := hfr.rf
  refine lv_aload_n S0.1 S0.2.1 dRo_add_0 rfl (lv_at hl 0 rfl) ?_
  refine hw_get S0 hK hg h0 rfl inRo 1 (by decide) lf_Ro_15 rfl rfl dRo_add_1 ?_
  refine lv_aload_n S0.1 S0.2.1 dRo_add_4 rfl (lv_at hl 0 rfl) ?_
  refine hw_get S0 hK hg h0 rfl inRo 0 (by decide) lf_Ro_9 rfl rfl dRo_add_5 ?_
  refine hw_alen S0 hK hg h1 0 rfl dRo_add_8 ?_
  refine lv_icmp_ge (tgt := 32) S0.1 S0.2.1 dRo_add_9 (by decide) (fun c_9 => ?_) (fun c_9 => ?_)
  · skip
    have c_9 : cap ≤ n := (nI_leI (by omega) (by omega)).mp c_9
    exact absurd hn (by omega)
  · skip
    have c_9 : ¬ (cap ≤ n) := fun h => c_9 ((nI_leI (by omega) (by omega)).mpr h)
    refine lv_aload_n S0.1 S0.2.1 dRo_add_12 rfl (lv_at hl 0 rfl) ?_
    refine hw_get S0 hK hg h0 rfl inRo 0 (by decide) lf_Ro_9 rfl rfl dRo_add_13 ?_
    refine lv_aload_n S0.1 S0.2.1 dRo_add_16 rfl (lv_at hl 0 rfl) ?_
    refine hw_get S0 hK hg h0 rfl inRo 1 (by decide) lf_Ro_15 rfl rfl dRo_add_17 ?_
    refine lv_iload_n S0.1 S0.2.1 dRo_add_20 rfl (lv_at hl 1 rfl) ?_
    refine hw_iast S0 hK hg hS h1 0 rfl (by omega) (by omega) dRo_add_21 (fun H locs hg hS => ?_)
    obtain ⟨g_1, eg_1⟩ : ∃ z, z = hs g la (.inl (cI, cap, .inl (upd f n v))) := ⟨_, rfl⟩
    have hg : hw D hC A g_1 H := by rw [eg_1]; exact hg
    have f1_0 : g_1 r = some (.inr (5, [.ref la, .int (nI n)])) := by rw [eg_1, hs_n _ _ (h_ne h0 h1 (fun h => by cases h))]; exact h0
    have f1_1 : g_1 la = some (.inl (cI, cap, .inl (upd f n v))) := by rw [eg_1]; exact hs_s _ _ _
    have fr := fr.put eg_1 (by simp)
    refine lv_aload_n S0.1 S0.2.1 dRo_add_22 rfl (lv_at hl 0 rfl) ?_
    refine lv_dup S0.1 S0.2.1 dRo_add_23 rfl ?_
    refine hw_get S0 hK hg f1_0 rfl inRo 1 (by decide) lf_Ro_15 rfl rfl dRo_add_24 ?_
    refine lv_iconst (v := nI 1) S0.1 S0.2.1 dRo_add_27 (by decide) ?_
    refine lv_iadd S0.1 S0.2.1 dRo_add_28 ?_
    refine hw_top (nI (n + 1)) (nI_add _ _) ?_
    refine hw_put S0 hK hg hS f1_0 rfl inRo tyRo tokRo nmRo 1 (by decide) lf_Ro_15 rfl rfl rfl rfl (Nat.le_of_ble_eq_true rfl) dRo_add_29 (fun H locs hg hS => ?_)
    obtain ⟨g_2, eg_2⟩ : ∃ z, z = hs g_1 r (.inr (5, [.ref la, .int (nI (n + 1))])) := ⟨_, rfl⟩
    have hg : hw D hC A g_2 H := by rw [eg_2]; exact hg
    have f2_0 : g_2 la = some (.inl (cI, cap, .inl (upd f n v))) := by rw [eg_2, hs_n _ _ (h_ne f1_1 f1_0 (fun h => by cases h))]; exact f1_1
    have f2_1 : g_2 r = some (.inr (5, [.ref la, .int (nI (n + 1))])) := by rw [eg_2]; exact hs_s _ _ _
    have fr := fr.put eg_2 (by simp)
    exact hend _ _ _ _ _ _ _ (by decide) (by decide) (⟨fr, f2_1, f2_0⟩) hg hS dRo_add_32
set_option maxRecDepth 100000 in
set_option maxHeartbeats 4000000 in
theorem c_Ro_hasAt (l : Launch) (D : va_G) (cI cR cJ : ClassId) (g : Nat → Option va_E) (sz : Nat) (r la n cap : Nat) (f : Nat → Int32) (p v : Int32) (h0 : g r = some (.inr (5, [.ref la, .int (nI n)]))) (h1 : g la = some (.inl (cI, cap, .inl f))) (hn : n ≤ cap) (hcap : cap < 4000) : hMi l yRo_hasAt cRo_hasAt 3 .boolean (hRm 0 0 0 0) D (hT cI cR cJ) g sz [.ref r, .int p, .int v] (fun o g1 => g1 = g ∧ ((o = 1 ∧ ∃ k : Nat, k < n ∧ p = nI k ∧ f k = v) ∨ (o = 0 ∧ ¬ ∃ k : Nat, k < n ∧ p = nI k ∧ f k = v))) := by
  refine hMi_of (by decide +kernel) (Nat.le_of_ble_eq_true rfl) ?_
  intro p9 e R s m args below meth c Q A hR S0 hnm hsz hg hK hS hA0 hend ls hl
  have hl : lv_has ls 3 [(0, .ref r), (1, .int p), (2, .int v)] := hl
  refine lv_iload_n S0.1 S0.2.1 dRo_hasAt_0 rfl (lv_at hl 1 rfl) ?_
  refine lv_if_lt (tgt := 26) S0.1 S0.2.1 dRo_hasAt_1 (by decide) (fun c_1 => ?_) (fun c_1 => ?_)
  · skip
    refine lv_iconst (v := nI 0) S0.1 S0.2.1 dRo_hasAt_26 (by decide) ?_
    refine hend _ _ _ _ _ _ _ _ (by decide) (by decide) rfl ⟨rfl, ?_⟩ hg hS dRo_hasAt_27
    exact Or.inr ⟨rfl, fun ⟨k, hk, hp, _⟩ => by rw [hp] at c_1; exact nI_pos (by omega) c_1⟩
  · skip
    obtain ⟨k, hk, rfl⟩ := nI_of c_1
    refine lv_iload_n S0.1 S0.2.1 dRo_hasAt_4 rfl (lv_at hl 1 rfl) ?_
    refine lv_aload_n S0.1 S0.2.1 dRo_hasAt_5 rfl (lv_at hl 0 rfl) ?_
    refine hw_get S0 hK hg h0 rfl inRo 1 (by decide) lf_Ro_15 rfl rfl dRo_hasAt_6 ?_
    refine lv_icmp_ge (tgt := 26) S0.1 S0.2.1 dRo_hasAt_9 (by decide) (fun c_9 => ?_) (fun c_9 => ?_)
    · skip
      have c_9 : n ≤ k := (nI_leI (by omega) (by omega)).mp c_9
      refine lv_iconst (v := nI 0) S0.1 S0.2.1 dRo_hasAt_26 (by decide) ?_
      refine hend _ _ _ _ _ _ _ _ (by decide) (by decide) rfl ⟨rfl, ?_⟩ hg hS dRo_hasAt_27
      exact Or.inr ⟨rfl, fun ⟨k1, hk1, hp, _⟩ => by have := (nI_eq (by omega) (by omega)).mp hp; omega⟩
    · skip
      have c_9 : ¬ (n ≤ k) := fun h => c_9 ((nI_leI (by omega) (by omega)).mpr h)
      refine lv_aload_n S0.1 S0.2.1 dRo_hasAt_12 rfl (lv_at hl 0 rfl) ?_
      refine hw_get S0 hK hg h0 rfl inRo 0 (by decide) lf_Ro_9 rfl rfl dRo_hasAt_13 ?_
      refine lv_iload_n S0.1 S0.2.1 dRo_hasAt_16 rfl (lv_at hl 1 rfl) ?_
      refine hw_iald S0 hK hg h1 0 rfl (by omega) (by omega) dRo_hasAt_17 ?_
      refine lv_iload_n S0.1 S0.2.1 dRo_hasAt_18 rfl (lv_at hl 2 rfl) ?_
      refine lv_icmp_ne (tgt := 26) S0.1 S0.2.1 dRo_hasAt_19 (by decide) (fun c_19 => ?_) (fun c_19 => ?_)
      · skip
        refine lv_iconst (v := nI 0) S0.1 S0.2.1 dRo_hasAt_26 (by decide) ?_
        refine hend _ _ _ _ _ _ _ _ (by decide) (by decide) rfl ⟨rfl, ?_⟩ hg hS dRo_hasAt_27
        exact Or.inr ⟨rfl, fun ⟨k1, hk1, hp, hf⟩ => c_19 (by have := (nI_eq (by omega) (by omega)).mp hp; subst this; exact hf)⟩
      · skip
        refine lv_iconst (v := nI 1) S0.1 S0.2.1 dRo_hasAt_22 (by decide) ?_
        refine lv_goto (tgt := 27) S0.1 S0.2.1 dRo_hasAt_23 (by decide) ?_
        refine hend _ _ _ _ _ _ _ _ (by decide) (by decide) rfl ⟨rfl, ?_⟩ hg hS dRo_hasAt_27
        exact Or.inl ⟨rfl, k, by omega, rfl, c_19⟩
