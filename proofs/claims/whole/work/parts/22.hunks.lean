/-! HUNKS -/
set_option maxRecDepth 100000 in
set_option maxHeartbeats 4000000 in
theorem c_Hu_addUnlessEmpty (l : Launch) (D : va_G) (cI cR cJ : ClassId) (g : Nat → Option va_E) (sz : Nat) (hu ce cm n x0 x1 y0 y1 : Nat) (f : Nat → Int32) (hk_ : List N4) (h0 : g hu = some (.inr (1, [.ref ce, .int (nI n), .ref cm]))) (h1 : g ce = some (.inl (cI, 244, .inl f))) (hn : n = hk_.length) (hn6 : n < 61) (hr : rpN f (fl4 hk_)) (hx : x0 ≤ x1) (hy : y0 ≤ y1) (hx6 : x1 ≤ 60) (hy6 : y1 ≤ 60) : hMv l yHu_addUnlessEmpty cHu_addUnlessEmpty 6 (hRm 0 0 0 0) D (hT cI cR cJ) g sz [.ref hu, .int (nI x0), .int (nI x1), .int (nI y0), .int (nI y1)] (fun g1 => hfr g g1 [hu, ce] ∧ ∃ f1 : Nat → Int32, g1 hu = some (.inr (1, [.ref ce, .int (nI (hk_ ++ hk1 x0 x1 y0 y1).length), .ref cm])) ∧ g1 ce = some (.inl (cI, 244, .inl f1)) ∧ rpN f1 (fl4 (hk_ ++ hk1 x0 x1 y0 y1))) := by
  refine hMv_of (by decide +kernel) (Nat.le_of_ble_eq_true rfl) ?_
  intro pX eX RX sX mX argsX belowX methX cX QX AX hR S0 hnm hsz hg hK hS hA0 hend ls hl
  have hl : lv_has ls 6 [(0, .ref hu), (1, .int (nI x0)), (2, .int (nI x1)), (3, .int (nI y0)), (4, .int (nI y1))] := hl
  have fr : hfr g g [hu, ce] := hfr.rf
  refine lv_iload_n S0.1 S0.2.1 dHu_addUnlessEmpty_0 rfl (lv_at hl 1 rfl) ?_
  refine lv_iload_n S0.1 S0.2.1 dHu_addUnlessEmpty_1 rfl (lv_at hl 2 rfl) ?_
  refine lv_icmp_lt (tgt := 11) S0.1 S0.2.1 dHu_addUnlessEmpty_2 (by decide) (fun c_2 => ?_) (fun c_2 => ?_)
  · skip
    have c_2 : x0 < x1 := (nI_ltI (by omega) (by omega)).mp c_2
    refine lv_aload_n S0.1 S0.2.1 dHu_addUnlessEmpty_11 rfl (lv_at hl 0 rfl) ?_
    refine hw_get S0 hK hg h0 rfl inHu 1 (by decide) lf_Hu_15 rfl rfl dHu_addUnlessEmpty_12 ?_
    refine lv_bipush (v := nI 61) S0.1 S0.2.1 dHu_addUnlessEmpty_15 (by decide) ?_
    refine lv_icmp_ge (tgt := 83) S0.1 S0.2.1 dHu_addUnlessEmpty_17 (by decide) (fun c_17 => ?_) (fun c_17 => ?_)
    · skip
      have c_17 : 61 ≤ n := (nI_leI (by omega) (by omega)).mp c_17
      exact absurd hn6 (by omega)
    · skip
      have c_17 : ¬ (61 ≤ n) := fun h => c_17 ((nI_leI (by omega) (by omega)).mpr h)
      refine lv_aload_n S0.1 S0.2.1 dHu_addUnlessEmpty_20 rfl (lv_at hl 0 rfl) ?_
      refine hw_get S0 hK hg h0 rfl inHu 1 (by decide) lf_Hu_15 rfl rfl dHu_addUnlessEmpty_21 ?_
      refine lv_iconst (v := nI 4) S0.1 S0.2.1 dHu_addUnlessEmpty_24 (by decide) ?_
      refine lv_imul S0.1 S0.2.1 dHu_addUnlessEmpty_25 ?_
      refine hw_top (nI (n * 4)) (pk_mul _ _) ?_
      refine lv_istore (lv' := [(5, .int (nI (n * 4))), (0, .ref hu), (1, .int (nI x0)), (2, .int (nI x1)), (3, .int (nI y0)), (4, .int (nI y1))]) S0.1 S0.2.1 dHu_addUnlessEmpty_26 hl (by decide) rfl (fun ls hl => ?_)
      refine lv_aload_n S0.1 S0.2.1 dHu_addUnlessEmpty_28 rfl (lv_at hl 1 rfl) ?_
      refine hw_get S0 hK hg h0 rfl inHu 0 (by decide) lf_Hu_11 rfl rfl dHu_addUnlessEmpty_29 ?_
      refine lv_iload S0.1 S0.2.1 dHu_addUnlessEmpty_32 (lv_at hl 0 rfl) ?_
      refine lv_iconst (v := nI 0) S0.1 S0.2.1 dHu_addUnlessEmpty_34 (by decide) ?_
      refine lv_iadd S0.1 S0.2.1 dHu_addUnlessEmpty_35 ?_
      refine hw_top (nI ((n * 4) + 0)) (nI_add _ _) ?_
      refine lv_iload_n S0.1 S0.2.1 dHu_addUnlessEmpty_36 rfl (lv_at hl 2 rfl) ?_
      refine hw_iast S0 hK hg hS h1 0 rfl (by omega) (by omega) dHu_addUnlessEmpty_37 (fun H locs hg hS => ?_)
      obtain ⟨g_1, eg_1⟩ : ∃ z, z = hs g ce (.inl (cI, 244, .inl (upd f ((n * 4) + 0) (nI x0)))) := ⟨_, rfl⟩
      have hg : hw D hC AX g_1 H := by rw [eg_1]; exact hg
      have f1_0 : g_1 hu = some (.inr (1, [.ref ce, .int (nI n), .ref cm])) := by rw [eg_1, hs_n _ _ (h_ne h0 h1 (fun h => by cases h))]; exact h0
      have f1_1 : g_1 ce = some (.inl (cI, 244, .inl (upd f ((n * 4) + 0) (nI x0)))) := by rw [eg_1]; exact hs_s _ _ _
      have fr := fr.put eg_1 (by simp)
      refine lv_aload_n S0.1 S0.2.1 dHu_addUnlessEmpty_38 rfl (lv_at hl 1 rfl) ?_
      refine hw_get S0 hK hg f1_0 rfl inHu 0 (by decide) lf_Hu_11 rfl rfl dHu_addUnlessEmpty_39 ?_
      refine lv_iload S0.1 S0.2.1 dHu_addUnlessEmpty_42 (lv_at hl 0 rfl) ?_
      refine lv_iconst (v := nI 1) S0.1 S0.2.1 dHu_addUnlessEmpty_44 (by decide) ?_
      refine lv_iadd S0.1 S0.2.1 dHu_addUnlessEmpty_45 ?_
      refine hw_top (nI ((n * 4) + 1)) (nI_add _ _) ?_
      refine lv_iload_n S0.1 S0.2.1 dHu_addUnlessEmpty_46 rfl (lv_at hl 3 rfl) ?_
      refine lv_iload_n S0.1 S0.2.1 dHu_addUnlessEmpty_47 rfl (lv_at hl 2 rfl) ?_
      refine lv_isub S0.1 S0.2.1 dHu_addUnlessEmpty_48 ?_
      refine hw_top (nI (x1 - x0)) (pk_sub (by omega)) ?_
      refine hw_iast S0 hK hg hS f1_1 0 rfl (by omega) (by omega) dHu_addUnlessEmpty_49 (fun H locs hg hS => ?_)
      obtain ⟨g_2, eg_2⟩ : ∃ z, z = hs g_1 ce (.inl (cI, 244, .inl (upd (upd f ((n * 4) + 0) (nI x0)) ((n * 4) + 1) (nI (x1 - x0))))) := ⟨_, rfl⟩
      have hg : hw D hC AX g_2 H := by rw [eg_2]; exact hg
      have f2_0 : g_2 hu = some (.inr (1, [.ref ce, .int (nI n), .ref cm])) := by rw [eg_2, hs_n _ _ (h_ne f1_0 f1_1 (fun h => by cases h))]; exact f1_0
      have f2_1 : g_2 ce = some (.inl (cI, 244, .inl (upd (upd f ((n * 4) + 0) (nI x0)) ((n * 4) + 1) (nI (x1 - x0))))) := by rw [eg_2]; exact hs_s _ _ _
      have fr := fr.put eg_2 (by simp)
      refine lv_aload_n S0.1 S0.2.1 dHu_addUnlessEmpty_50 rfl (lv_at hl 1 rfl) ?_
      refine hw_get S0 hK hg f2_0 rfl inHu 0 (by decide) lf_Hu_11 rfl rfl dHu_addUnlessEmpty_51 ?_
      refine lv_iload S0.1 S0.2.1 dHu_addUnlessEmpty_54 (lv_at hl 0 rfl) ?_
      refine lv_iconst (v := nI 2) S0.1 S0.2.1 dHu_addUnlessEmpty_56 (by decide) ?_
      refine lv_iadd S0.1 S0.2.1 dHu_addUnlessEmpty_57 ?_
      refine hw_top (nI ((n * 4) + 2)) (nI_add _ _) ?_
      refine lv_iload_n S0.1 S0.2.1 dHu_addUnlessEmpty_58 rfl (lv_at hl 4 rfl) ?_
      refine hw_iast S0 hK hg hS f2_1 0 rfl (by omega) (by omega) dHu_addUnlessEmpty_59 (fun H locs hg hS => ?_)
      obtain ⟨g_3, eg_3⟩ : ∃ z, z = hs g_2 ce (.inl (cI, 244, .inl (upd (upd (upd f ((n * 4) + 0) (nI x0)) ((n * 4) + 1) (nI (x1 - x0))) ((n * 4) + 2) (nI y0)))) := ⟨_, rfl⟩
      have hg : hw D hC AX g_3 H := by rw [eg_3]; exact hg
      have f3_0 : g_3 hu = some (.inr (1, [.ref ce, .int (nI n), .ref cm])) := by rw [eg_3, hs_n _ _ (h_ne f2_0 f2_1 (fun h => by cases h))]; exact f2_0
      have f3_1 : g_3 ce = some (.inl (cI, 244, .inl (upd (upd (upd f ((n * 4) + 0) (nI x0)) ((n * 4) + 1) (nI (x1 - x0))) ((n * 4) + 2) (nI y0)))) := by rw [eg_3]; exact hs_s _ _ _
      have fr := fr.put eg_3 (by simp)
      refine lv_aload_n S0.1 S0.2.1 dHu_addUnlessEmpty_60 rfl (lv_at hl 1 rfl) ?_
      refine hw_get S0 hK hg f3_0 rfl inHu 0 (by decide) lf_Hu_11 rfl rfl dHu_addUnlessEmpty_61 ?_
      refine lv_iload S0.1 S0.2.1 dHu_addUnlessEmpty_64 (lv_at hl 0 rfl) ?_
      refine lv_iconst (v := nI 3) S0.1 S0.2.1 dHu_addUnlessEmpty_66 (by decide) ?_
      refine lv_iadd S0.1 S0.2.1 dHu_addUnlessEmpty_67 ?_
      refine hw_top (nI ((n * 4) + 3)) (nI_add _ _) ?_
      refine lv_iload S0.1 S0.2.1 dHu_addUnlessEmpty_68 (lv_at hl 5 rfl) ?_
      refine lv_iload_n S0.1 S0.2.1 dHu_addUnlessEmpty_70 rfl (lv_at hl 4 rfl) ?_
      refine lv_isub S0.1 S0.2.1 dHu_addUnlessEmpty_71 ?_
      refine hw_top (nI (y1 - y0)) (pk_sub (by omega)) ?_
      refine hw_iast S0 hK hg hS f3_1 0 rfl (by omega) (by omega) dHu_addUnlessEmpty_72 (fun H locs hg hS => ?_)
      obtain ⟨g_4, eg_4⟩ : ∃ z, z = hs g_3 ce (.inl (cI, 244, .inl (upd (upd (upd (upd f ((n * 4) + 0) (nI x0)) ((n * 4) + 1) (nI (x1 - x0))) ((n * 4) + 2) (nI y0)) ((n * 4) + 3) (nI (y1 - y0))))) := ⟨_, rfl⟩
      have hg : hw D hC AX g_4 H := by rw [eg_4]; exact hg
      have f4_0 : g_4 hu = some (.inr (1, [.ref ce, .int (nI n), .ref cm])) := by rw [eg_4, hs_n _ _ (h_ne f3_0 f3_1 (fun h => by cases h))]; exact f3_0
      have f4_1 : g_4 ce = some (.inl (cI, 244, .inl (upd (upd (upd (upd f ((n * 4) + 0) (nI x0)) ((n * 4) + 1) (nI (x1 - x0))) ((n * 4) + 2) (nI y0)) ((n * 4) + 3) (nI (y1 - y0))))) := by rw [eg_4]; exact hs_s _ _ _
      have fr := fr.put eg_4 (by simp)
      refine lv_aload_n S0.1 S0.2.1 dHu_addUnlessEmpty_73 rfl (lv_at hl 1 rfl) ?_
      refine lv_dup S0.1 S0.2.1 dHu_addUnlessEmpty_74 rfl ?_
      refine hw_get S0 hK hg f4_0 rfl inHu 1 (by decide) lf_Hu_15 rfl rfl dHu_addUnlessEmpty_75 ?_
      refine lv_iconst (v := nI 1) S0.1 S0.2.1 dHu_addUnlessEmpty_78 (by decide) ?_
      refine lv_iadd S0.1 S0.2.1 dHu_addUnlessEmpty_79 ?_
      refine hw_top (nI (n + 1)) (nI_add _ _) ?_
      refine hw_put S0 hK hg hS f4_0 rfl inHu tyHu tokHu nmHu 1 (by decide) lf_Hu_15 rfl rfl rfl rfl (Nat.le_of_ble_eq_true rfl) dHu_addUnlessEmpty_80 (fun H locs hg hS => ?_)
      obtain ⟨g_5, eg_5⟩ : ∃ z, z = hs g_4 hu (.inr (1, [.ref ce, .int (nI (n + 1)), .ref cm])) := ⟨_, rfl⟩
      have hg : hw D hC AX g_5 H := by rw [eg_5]; exact hg
      have f5_0 : g_5 ce = some (.inl (cI, 244, .inl (upd (upd (upd (upd f ((n * 4) + 0) (nI x0)) ((n * 4) + 1) (nI (x1 - x0))) ((n * 4) + 2) (nI y0)) ((n * 4) + 3) (nI (y1 - y0))))) := by rw [eg_5, hs_n _ _ (h_ne f4_1 f4_0 (fun h => by cases h))]; exact f4_1
      have f5_1 : g_5 hu = some (.inr (1, [.ref ce, .int (nI (n + 1)), .ref cm])) := by rw [eg_5]; exact hs_s _ _ _
      have fr := fr.put eg_5 (by simp)
      have e : hk1 x0 x1 y0 y1 = [(x0, x1 - x0, y0, y1 - y0)] := if_pos (by omega)
      exact hend _ _ _ _ _ _ _ (by decide) (by decide) (by rw [e, List.length_append, ← hn]; exact ⟨fr, _, f5_1, f5_0, rp4_snoc hr hn x0 (x1 - x0) y0 (y1 - y0)⟩) hg hS dHu_addUnlessEmpty_83
  · skip
    have c_2 : ¬ (x0 < x1) := fun h => c_2 ((nI_ltI (by omega) (by omega)).mpr h)
    refine lv_iload_n S0.1 S0.2.1 dHu_addUnlessEmpty_5 rfl (lv_at hl 3 rfl) ?_
    refine lv_iload S0.1 S0.2.1 dHu_addUnlessEmpty_6 (lv_at hl 4 rfl) ?_
    refine lv_icmp_ge (tgt := 83) S0.1 S0.2.1 dHu_addUnlessEmpty_8 (by decide) (fun c_8 => ?_) (fun c_8 => ?_)
    · skip
      have c_8 : y1 ≤ y0 := (nI_leI (by omega) (by omega)).mp c_8
      have e : hk1 x0 x1 y0 y1 = [] := if_neg (by omega)
      exact hend _ _ _ _ _ _ _ (by decide) (by decide) (by rw [e, List.append_nil, ← hn]; exact ⟨fr, f, h0, h1, hr⟩) hg hS dHu_addUnlessEmpty_83
    · skip
      have c_8 : ¬ (y1 ≤ y0) := fun h => c_8 ((nI_leI (by omega) (by omega)).mpr h)
      refine lv_aload_n S0.1 S0.2.1 dHu_addUnlessEmpty_11 rfl (lv_at hl 0 rfl) ?_
      refine hw_get S0 hK hg h0 rfl inHu 1 (by decide) lf_Hu_15 rfl rfl dHu_addUnlessEmpty_12 ?_
      refine lv_bipush (v := nI 61) S0.1 S0.2.1 dHu_addUnlessEmpty_15 (by decide) ?_
      refine lv_icmp_ge (tgt := 83) S0.1 S0.2.1 dHu_addUnlessEmpty_17 (by decide) (fun c_17 => ?_) (fun c_17 => ?_)
      · skip
        have c_17 : 61 ≤ n := (nI_leI (by omega) (by omega)).mp c_17
        exact absurd hn6 (by omega)
      · skip
        have c_17 : ¬ (61 ≤ n) := fun h => c_17 ((nI_leI (by omega) (by omega)).mpr h)
        refine lv_aload_n S0.1 S0.2.1 dHu_addUnlessEmpty_20 rfl (lv_at hl 0 rfl) ?_
        refine hw_get S0 hK hg h0 rfl inHu 1 (by decide) lf_Hu_15 rfl rfl dHu_addUnlessEmpty_21 ?_
        refine lv_iconst (v := nI 4) S0.1 S0.2.1 dHu_addUnlessEmpty_24 (by decide) ?_
        refine lv_imul S0.1 S0.2.1 dHu_addUnlessEmpty_25 ?_
        refine hw_top (nI (n * 4)) (pk_mul _ _) ?_
        refine lv_istore (lv' := [(5, .int (nI (n * 4))), (0, .ref hu), (1, .int (nI x0)), (2, .int (nI x1)), (3, .int (nI y0)), (4, .int (nI y1))]) S0.1 S0.2.1 dHu_addUnlessEmpty_26 hl (by decide) rfl (fun ls hl => ?_)
        refine lv_aload_n S0.1 S0.2.1 dHu_addUnlessEmpty_28 rfl (lv_at hl 1 rfl) ?_
        refine hw_get S0 hK hg h0 rfl inHu 0 (by decide) lf_Hu_11 rfl rfl dHu_addUnlessEmpty_29 ?_
        refine lv_iload S0.1 S0.2.1 dHu_addUnlessEmpty_32 (lv_at hl 0 rfl) ?_
        refine lv_iconst (v := nI 0) S0.1 S0.2.1 dHu_addUnlessEmpty_34 (by decide) ?_
        refine lv_iadd S0.1 S0.2.1 dHu_addUnlessEmpty_35 ?_
        refine hw_top (nI ((n * 4) + 0)) (nI_add _ _) ?_
        refine lv_iload_n S0.1 S0.2.1 dHu_addUnlessEmpty_36 rfl (lv_at hl 2 rfl) ?_
        refine hw_iast S0 hK hg hS h1 0 rfl (by omega) (by omega) dHu_addUnlessEmpty_37 (fun H locs hg hS => ?_)
        obtain ⟨g_6, eg_6⟩ : ∃ z, z = hs g ce (.inl (cI, 244, .inl (upd f ((n * 4) + 0) (nI x0)))) := ⟨_, rfl⟩
        have hg : hw D hC AX g_6 H := by rw [eg_6]; exact hg
        have f6_0 : g_6 hu = some (.inr (1, [.ref ce, .int (nI n), .ref cm])) := by rw [eg_6, hs_n _ _ (h_ne h0 h1 (fun h => by cases h))]; exact h0
        have f6_1 : g_6 ce = some (.inl (cI, 244, .inl (upd f ((n * 4) + 0) (nI x0)))) := by rw [eg_6]; exact hs_s _ _ _
        have fr := fr.put eg_6 (by simp)
        refine lv_aload_n S0.1 S0.2.1 dHu_addUnlessEmpty_38 rfl (lv_at hl 1 rfl) ?_
        refine hw_get S0 hK hg f6_0 rfl inHu 0 (by decide) lf_Hu_11 rfl rfl dHu_addUnlessEmpty_39 ?_
        refine lv_iload S0.1 S0.2.1 dHu_addUnlessEmpty_42 (lv_at hl 0 rfl) ?_
        refine lv_iconst (v := nI 1) S0.1 S0.2.1 dHu_addUnlessEmpty_44 (by decide) ?_
        refine lv_iadd S0.1 S0.2.1 dHu_addUnlessEmpty_45 ?_
        refine hw_top (nI ((n * 4) + 1)) (nI_add _ _) ?_
        refine lv_iload_n S0.1 S0.2.1 dHu_addUnlessEmpty_46 rfl (lv_at hl 3 rfl) ?_
        refine lv_iload_n S0.1 S0.2.1 dHu_addUnlessEmpty_47 rfl (lv_at hl 2 rfl) ?_
        refine lv_isub S0.1 S0.2.1 dHu_addUnlessEmpty_48 ?_
        refine hw_top (nI (x1 - x0)) (pk_sub (by omega)) ?_
        refine hw_iast S0 hK hg hS f6_1 0 rfl (by omega) (by omega) dHu_addUnlessEmpty_49 (fun H locs hg hS => ?_)
        obtain ⟨g_7, eg_7⟩ : ∃ z, z = hs g_6 ce (.inl (cI, 244, .inl (upd (upd f ((n * 4) + 0) (nI x0)) ((n * 4) + 1) (nI (x1 - x0))))) := ⟨_, rfl⟩
        have hg : hw D hC AX g_7 H := by rw [eg_7]; exact hg
        have f7_0 : g_7 hu = some (.inr (1, [.ref ce, .int (nI n), .ref cm])) := by rw [eg_7, hs_n _ _ (h_ne f6_0 f6_1 (fun h => by cases h))]; exact f6_0
        have f7_1 : g_7 ce = some (.inl (cI, 244, .inl (upd (upd f ((n * 4) + 0) (nI x0)) ((n * 4) + 1) (nI (x1 - x0))))) := by rw [eg_7]; exact hs_s _ _ _
        have fr := fr.put eg_7 (by simp)
        refine lv_aload_n S0.1 S0.2.1 dHu_addUnlessEmpty_50 rfl (lv_at hl 1 rfl) ?_
        refine hw_get S0 hK hg f7_0 rfl inHu 0 (by decide) lf_Hu_11 rfl rfl dHu_addUnlessEmpty_51 ?_
        refine lv_iload S0.1 S0.2.1 dHu_addUnlessEmpty_54 (lv_at hl 0 rfl) ?_
        refine lv_iconst (v := nI 2) S0.1 S0.2.1 dHu_addUnlessEmpty_56 (by decide) ?_
        refine lv_iadd S0.1 S0.2.1 dHu_addUnlessEmpty_57 ?_
        refine hw_top (nI ((n * 4) + 2)) (nI_add _ _) ?_
        refine lv_iload_n S0.1 S0.2.1 dHu_addUnlessEmpty_58 rfl (lv_at hl 4 rfl) ?_
        refine hw_iast S0 hK hg hS f7_1 0 rfl (by omega) (by omega) dHu_addUnlessEmpty_59 (fun H locs hg hS => ?_)
        obtain ⟨g_8, eg_8⟩ : ∃ z, z = hs g_7 ce (.inl (cI, 244, .inl (upd (upd (upd f ((n * 4) + 0) (nI x0)) ((n * 4) + 1) (nI (x1 - x0))) ((n * 4) + 2) (nI y0)))) := ⟨_, rfl⟩
        have hg : hw D hC AX g_8 H := by rw [eg_8]; exact hg
        have f8_0 : g_8 hu = some (.inr (1, [.ref ce, .int (nI n), .ref cm])) := by rw [eg_8, hs_n _ _ (h_ne f7_0 f7_1 (fun h => by cases h))]; exact f7_0
        have f8_1 : g_8 ce = some (.inl (cI, 244, .inl (upd (upd (upd f ((n * 4) + 0) (nI x0)) ((n * 4) + 1) (nI (x1 - x0))) ((n * 4) + 2) (nI y0)))) := by rw [eg_8]; exact hs_s _ _ _
        have fr := fr.put eg_8 (by simp)
        refine lv_aload_n S0.1 S0.2.1 dHu_addUnlessEmpty_60 rfl (lv_at hl 1 rfl) ?_
        refine hw_get S0 hK hg f8_0 rfl inHu 0 (by decide) lf_Hu_11 rfl rfl dHu_addUnlessEmpty_61 ?_
        refine lv_iload S0.1 S0.2.1 dHu_addUnlessEmpty_64 (lv_at hl 0 rfl) ?_
        refine lv_iconst (v := nI 3) S0.1 S0.2.1 dHu_addUnlessEmpty_66 (by decide) ?_
        refine lv_iadd S0.1 S0.2.1 dHu_addUnlessEmpty_67 ?_
        refine hw_top (nI ((n * 4) + 3)) (nI_add _ _) ?_
        refine lv_iload S0.1 S0.2.1 dHu_addUnlessEmpty_68 (lv_at hl 5 rfl) ?_
        refine lv_iload_n S0.1 S0.2.1 dHu_addUnlessEmpty_70 rfl (lv_at hl 4 rfl) ?_
        refine lv_isub S0.1 S0.2.1 dHu_addUnlessEmpty_71 ?_
        refine hw_top (nI (y1 - y0)) (pk_sub (by omega)) ?_
        refine hw_iast S0 hK hg hS f8_1 0 rfl (by omega) (by omega) dHu_addUnlessEmpty_72 (fun H locs hg hS => ?_)
        obtain ⟨g_9, eg_9⟩ : ∃ z, z = hs g_8 ce (.inl (cI, 244, .inl (upd (upd (upd (upd f ((n * 4) + 0) (nI x0)) ((n * 4) + 1) (nI (x1 - x0))) ((n * 4) + 2) (nI y0)) ((n * 4) + 3) (nI (y1 - y0))))) := ⟨_, rfl⟩
        have hg : hw D hC AX g_9 H := by rw [eg_9]; exact hg
        have f9_0 : g_9 hu = some (.inr (1, [.ref ce, .int (nI n), .ref cm])) := by rw [eg_9, hs_n _ _ (h_ne f8_0 f8_1 (fun h => by cases h))]; exact f8_0
        have f9_1 : g_9 ce = some (.inl (cI, 244, .inl (upd (upd (upd (upd f ((n * 4) + 0) (nI x0)) ((n * 4) + 1) (nI (x1 - x0))) ((n * 4) + 2) (nI y0)) ((n * 4) + 3) (nI (y1 - y0))))) := by rw [eg_9]; exact hs_s _ _ _
        have fr := fr.put eg_9 (by simp)
        refine lv_aload_n S0.1 S0.2.1 dHu_addUnlessEmpty_73 rfl (lv_at hl 1 rfl) ?_
        refine lv_dup S0.1 S0.2.1 dHu_addUnlessEmpty_74 rfl ?_
        refine hw_get S0 hK hg f9_0 rfl inHu 1 (by decide) lf_Hu_15 rfl rfl dHu_addUnlessEmpty_75 ?_
        refine lv_iconst (v := nI 1) S0.1 S0.2.1 dHu_addUnlessEmpty_78 (by decide) ?_
        refine lv_iadd S0.1 S0.2.1 dHu_addUnlessEmpty_79 ?_
        refine hw_top (nI (n + 1)) (nI_add _ _) ?_
        refine hw_put S0 hK hg hS f9_0 rfl inHu tyHu tokHu nmHu 1 (by decide) lf_Hu_15 rfl rfl rfl rfl (Nat.le_of_ble_eq_true rfl) dHu_addUnlessEmpty_80 (fun H locs hg hS => ?_)
        obtain ⟨g_10, eg_10⟩ : ∃ z, z = hs g_9 hu (.inr (1, [.ref ce, .int (nI (n + 1)), .ref cm])) := ⟨_, rfl⟩
        have hg : hw D hC AX g_10 H := by rw [eg_10]; exact hg
        have f10_0 : g_10 ce = some (.inl (cI, 244, .inl (upd (upd (upd (upd f ((n * 4) + 0) (nI x0)) ((n * 4) + 1) (nI (x1 - x0))) ((n * 4) + 2) (nI y0)) ((n * 4) + 3) (nI (y1 - y0))))) := by rw [eg_10, hs_n _ _ (h_ne f9_1 f9_0 (fun h => by cases h))]; exact f9_1
        have f10_1 : g_10 hu = some (.inr (1, [.ref ce, .int (nI (n + 1)), .ref cm])) := by rw [eg_10]; exact hs_s _ _ _
        have fr := fr.put eg_10 (by simp)
        have e : hk1 x0 x1 y0 y1 = [(x0, x1 - x0, y0, y1 - y0)] := if_pos (by omega)
        exact hend _ _ _ _ _ _ _ (by decide) (by decide) (by rw [e, List.length_append, ← hn]; exact ⟨fr, _, f10_1, f10_0, rp4_snoc hr hn x0 (x1 - x0) y0 (y1 - y0)⟩) hg hS dHu_addUnlessEmpty_83
set_option maxRecDepth 100000 in
set_option maxHeartbeats 4000000 in
theorem c_Hu_find (l : Launch) (D : va_G) (cI cR cJ : ClassId) (g : Nat → Option va_E) (sz : Nat) (cm pa pb len ra la ca rb lb cb : Nat) (cnt : Int32) (a b : List Int32) (fa fb fl : Nat → Int32) (h0 : g cm = some (.inr (0, [.ref pa, .ref pb, .int cnt, .ref len]))) (h1 : g len = some (.inl (cI, 3721, .inl fl))) (h2 : g ra = some (.inr (5, [.ref la, .int (nI a.length)]))) (h3 : g la = some (.inl (cI, ca, .inl fa))) (h4 : g rb = some (.inr (5, [.ref lb, .int (nI b.length)]))) (h5 : g lb = some (.inl (cI, cb, .inl fb))) (ea : rp fa a) (eb : rp fb b) (hla : la ≠ len) (hlb : lb ≠ len) (hna : a.length ≤ 60) (hnb : b.length ≤ 60) (hca : a.length ≤ ca) (hcb : b.length ≤ cb) (hca4 : ca < 4000) (hcb4 : cb < 4000) (fp0 fq0 : Nat → Int32) (h6 : g pa = some (.inl (cI, 60, .inl fp0))) (h7 : g pb = some (.inl (cI, 60, .inl fq0))) (hap : la ≠ pa) (haq : la ≠ pb) (hbp : lb ≠ pa) (hbq : lb ≠ pb) (hpq : pa ≠ pb) (hpl : pa ≠ len) (hql : pb ≠ len) (hu ce : Nat) (hc0 : Int32) (fc0 : Nat → Int32) (h8 : g hu = some (.inr (1, [.ref ce, .int hc0, .ref cm]))) (h9 : g ce = some (.inl (cI, 244, .inl fc0))) (hac : la ≠ ce) (hbc : lb ≠ ce) (hpc : pa ≠ ce) (hqc : pb ≠ ce) (hlc : len ≠ ce) : hMv l yHu_find cHu_find 6 (hRm 3 73 0 0) D (hT cI cR cJ) g sz [.ref hu, .ref ra, .ref rb] (fun g1 => hfr g g1 [hu, ce, cm, pa, pb, len] ∧ ∃ (n1 : Nat) (fA fB fL fc : Nat → Int32), g1 cm = some (.inr (0, [.ref pa, .ref pb, .int (nI n1), .ref len])) ∧ g1 pa = some (.inl (cI, 60, .inl fA)) ∧ g1 pb = some (.inl (cI, 60, .inl fB)) ∧ g1 len = some (.inl (cI, 3721, .inl fL)) ∧ g1 hu = some (.inr (1, [.ref ce, .int (nI (hunksOf a b).length), .ref cm])) ∧ g1 ce = some (.inl (cI, 244, .inl fc)) ∧ rpN fc (fl4 (hunksOf a b))) := by
  refine hMv_of (by decide +kernel) (Nat.le_of_ble_eq_true rfl) ?_
  intro pX eX RX sX mX argsX belowX methX cX QX AX hR S0 hnm hsz hg hK hS hA0 hend ls hl
  have hl : lv_has ls 6 [(0, .ref hu), (1, .ref ra), (2, .ref rb)] := hl
  have fr : hfr g g [hu, ce, cm, pa, pb, len] := hfr.rf
  refine lv_aload_n S0.1 S0.2.1 dHu_find_0 rfl (lv_at hl 0 rfl) ?_
  refine hw_get S0 hK hg h8 rfl inHu 2 (by decide) lf_Hu_19 rfl rfl dHu_find_1 ?_
  refine lv_aload_n S0.1 S0.2.1 dHu_find_4 rfl (lv_at hl 1 rfl) ?_
  refine lv_aload_n S0.1 S0.2.1 dHu_find_5 rfl (lv_at hl 2 rfl) ?_
  refine hw_Vv (As := [.ref ra, .ref rb]) (rest := []) S0 hK hg hS hA0 h0 rfl (c_Co_find l D cI cR cJ g _ cm pa pb len ra la ca rb lb cb cnt a b fa fb fl h0 h1 h2 h3 h4 h5 ea eb hla hlb hna hnb hca hcb hca4 hcb4 fp0 fq0 h6 h7 hap haq hbp hbq hpq hpl hql) kCo_find lm_Hu_23 (hR.call rfl) rfl hl.1 rfl (Nat.le_of_ble_eq_true rfl) dHu_find_6 (hR.new (by decide) (by decide)) (fun g_1 H locs hp_6 hg hS => ?_)
  obtain ⟨fr1, fA, fB, fL, a0, a1, a2, a3, hA, hB⟩ := hp_6
  generalize hP : prs a b a.length = P at a0 hA hB
  have k1_0 := fr1.at (h_nm (h_ne h2 h0 (fun h => by simp at h)) (h_nm (h_ne h2 h6 (fun h => by cases h)) (h_nm (h_ne h2 h7 (fun h => by cases h)) (h_nm (h_ne h2 h1 (fun h => by cases h)) h_n0)))) h2
  have k1_1 := fr1.at (h_nm (h_ne h3 h0 (fun h => by cases h)) (h_nm hap (h_nm haq (h_nm hla h_n0)))) h3
  have k1_2 := fr1.at (h_nm (h_ne h4 h0 (fun h => by simp at h)) (h_nm (h_ne h4 h6 (fun h => by cases h)) (h_nm (h_ne h4 h7 (fun h => by cases h)) (h_nm (h_ne h4 h1 (fun h => by cases h)) h_n0)))) h4
  have k1_3 := fr1.at (h_nm (h_ne h5 h0 (fun h => by cases h)) (h_nm hbp (h_nm hbq (h_nm hlb h_n0)))) h5
  have k1_4 := fr1.at (h_nm (h_ne h8 h0 (fun h => by simp at h)) (h_nm (h_ne h8 h6 (fun h => by cases h)) (h_nm (h_ne h8 h7 (fun h => by cases h)) (h_nm (h_ne h8 h1 (fun h => by cases h)) h_n0)))) h8
  have k1_5 := fr1.at (h_nm (h_ne h9 h0 (fun h => by cases h)) (h_nm (Ne.symm hpc) (h_nm (Ne.symm hqc) (h_nm (Ne.symm hlc) h_n0)))) h9
  have fr := fr.call fr1 (by simp)
  have hP60 : P.length ≤ 60 := by rw [← hP]; have := (prs_len a b a.length).1; omega
  refine lv_aload_n S0.1 S0.2.1 dHu_find_9 rfl (lv_at hl 0 rfl) ?_
  refine lv_iconst (v := nI 0) S0.1 S0.2.1 dHu_find_10 (by decide) ?_
  refine hw_put S0 hK hg hS k1_4 rfl inHu tyHu tokHu nmHu 1 (by decide) lf_Hu_15 rfl rfl rfl rfl (Nat.le_of_ble_eq_true rfl) dHu_find_11 (fun H locs hg hS => ?_)
  obtain ⟨g_2, eg_2⟩ : ∃ z, z = hs g_1 hu (.inr (1, [.ref ce, .int (nI 0), .ref cm])) := ⟨_, rfl⟩
  have hg : hw D hC AX g_2 H := by rw [eg_2]; exact hg
  have f2_0 : g_2 ra = some (.inr (5, [.ref la, .int (nI a.length)])) := by rw [eg_2, hs_n _ _ (h_ne k1_0 k1_4 (fun h => by simp at h))]; exact k1_0
  have f2_1 : g_2 la = some (.inl (cI, ca, .inl fa)) := by rw [eg_2, hs_n _ _ (h_ne k1_1 k1_4 (fun h => by cases h))]; exact k1_1
  have f2_2 : g_2 rb = some (.inr (5, [.ref lb, .int (nI b.length)])) := by rw [eg_2, hs_n _ _ (h_ne k1_2 k1_4 (fun h => by simp at h))]; exact k1_2
  have f2_3 : g_2 lb = some (.inl (cI, cb, .inl fb)) := by rw [eg_2, hs_n _ _ (h_ne k1_3 k1_4 (fun h => by cases h))]; exact k1_3
  have f2_4 : g_2 ce = some (.inl (cI, 244, .inl fc0)) := by rw [eg_2, hs_n _ _ (h_ne k1_5 k1_4 (fun h => by cases h))]; exact k1_5
  have f2_5 : g_2 cm = some (.inr (0, [.ref pa, .ref pb, .int (nI P.length), .ref len])) := by rw [eg_2, hs_n _ _ (h_ne a0 k1_4 (fun h => by simp at h))]; exact a0
  have f2_6 : g_2 pa = some (.inl (cI, 60, .inl fA)) := by rw [eg_2, hs_n _ _ (h_ne a1 k1_4 (fun h => by cases h))]; exact a1
  have f2_7 : g_2 pb = some (.inl (cI, 60, .inl fB)) := by rw [eg_2, hs_n _ _ (h_ne a2 k1_4 (fun h => by cases h))]; exact a2
  have f2_8 : g_2 len = some (.inl (cI, 3721, .inl fL)) := by rw [eg_2, hs_n _ _ (h_ne a3 k1_4 (fun h => by cases h))]; exact a3
  have f2_9 : g_2 hu = some (.inr (1, [.ref ce, .int (nI 0), .ref cm])) := by rw [eg_2]; exact hs_s _ _ _
  have fr := fr.put eg_2 (by simp)
  refine lv_iconst (v := nI 0) S0.1 S0.2.1 dHu_find_14 (by decide) ?_
  refine lv_istore_n (lv' := [(3, .int (nI 0)), (0, .ref hu), (1, .ref ra), (2, .ref rb)]) S0.1 S0.2.1 dHu_find_15 rfl hl (by decide) rfl (fun ls hl => ?_)
  refine lv_iconst (v := nI 0) S0.1 S0.2.1 dHu_find_16 (by decide) ?_
  refine lv_istore (lv' := [(4, .int (nI 0)), (3, .int (nI 0)), (0, .ref hu), (1, .ref ra), (2, .ref rb)]) S0.1 S0.2.1 dHu_find_17 hl (by decide) rfl (fun ls hl => ?_)
  refine lv_iconst (v := nI 0) S0.1 S0.2.1 dHu_find_19 (by decide) ?_
  refine lv_istore (lv' := [(5, .int (nI 0)), (4, .int (nI 0)), (3, .int (nI 0)), (0, .ref hu), (1, .ref ra), (2, .ref rb)]) S0.1 S0.2.1 dHu_find_20 hl (by decide) rfl (fun ls hl => ?_)
  have loop_22 : ∀ (n_22 : Nat) (k : Nat) (x : Nat) (y : Nat) (hs_ : List N4) (fc : Nat → Int32) (gl : Nat → Option va_E) (H : Heap) (locs : List Loc) (ls : Array Slot), P.length - k < n_22 → (k ≤ P.length) → (cutp (P.take k) = (x, y, hs_)) → (rpN fc (fl4 hs_)) → (hfr g gl [hu, ce, cm, pa, pb, len]) → (gl hu = some (.inr (1, [.ref ce, .int (nI hs_.length), .ref cm]))) → (gl ce = some (.inl (cI, 244, .inl fc))) → (gl cm = some (.inr (0, [.ref pa, .ref pb, .int (nI P.length), .ref len]))) → (gl pa = some (.inl (cI, 60, .inl fA))) → (gl pb = some (.inl (cI, 60, .inl fB))) → (gl len = some (.inl (cI, 3721, .inl fL))) → hw D hC AX gl H → va_S AX sX.heap H locs → lv_has ls 6 [(0, .ref hu), (1, .ref ra), (2, .ref rb), (3, .int (nI x)), (4, .int (nI y)), (5, .int (nI k))] → W pX l eX RX sX mX argsX belowX methX cX H locs 0 0 QX (F0 mX 22 ls []) := by
    intro n_22
    induction n_22 with
    | zero => intros; omega
    | succ n_22 ih_22 =>
      intro k x y hs_ fc gl H locs ls hm_22 hk hst hr fr e0 e1 e2 e3 e4 e5 hg hS hl
      have q22_ra := fr.at (h_nm (h_ne f2_0 f2_9 (fun h => by simp at h)) (h_nm (h_ne f2_0 f2_4 (fun h => by cases h)) (h_nm (h_ne f2_0 f2_5 (fun h => by simp at h)) (h_nm (h_ne f2_0 f2_6 (fun h => by cases h)) (h_nm (h_ne f2_0 f2_7 (fun h => by cases h)) (h_nm (h_ne f2_0 f2_8 (fun h => by cases h)) h_n0)))))) h2
      have q22_la := fr.at (h_nm (h_ne f2_1 f2_9 (fun h => by cases h)) (h_nm hac (h_nm (h_ne f2_1 f2_5 (fun h => by cases h)) (h_nm hap (h_nm haq (h_nm hla h_n0)))))) h3
      have q22_rb := fr.at (h_nm (h_ne f2_2 f2_9 (fun h => by simp at h)) (h_nm (h_ne f2_2 f2_4 (fun h => by cases h)) (h_nm (h_ne f2_2 f2_5 (fun h => by simp at h)) (h_nm (h_ne f2_2 f2_6 (fun h => by cases h)) (h_nm (h_ne f2_2 f2_7 (fun h => by cases h)) (h_nm (h_ne f2_2 f2_8 (fun h => by cases h)) h_n0)))))) h4
      have q22_lb := fr.at (h_nm (h_ne f2_3 f2_9 (fun h => by cases h)) (h_nm hbc (h_nm (h_ne f2_3 f2_5 (fun h => by cases h)) (h_nm hbp (h_nm hbq (h_nm hlb h_n0)))))) h5
      refine lv_iload S0.1 S0.2.1 dHu_find_22 (lv_at hl 5 rfl) ?_
      refine lv_aload_n S0.1 S0.2.1 dHu_find_24 rfl (lv_at hl 0 rfl) ?_
      refine hw_get S0 hK hg e0 rfl inHu 2 (by decide) lf_Hu_19 rfl rfl dHu_find_25 ?_
      refine hw_get S0 hK hg e2 rfl inCo 2 (by decide) lf_Hu_29 rfl rfl dHu_find_28 ?_
      refine lv_icmp_ge (tgt := 94) S0.1 S0.2.1 dHu_find_31 (by decide) (fun c_31 => ?_) (fun c_31 => ?_)
      · skip
        have c_31 : P.length ≤ k := (nI_leI (by omega) (by omega)).mp c_31
        have ek : k = P.length := by omega
        rw [ek, List.take_length] at hst
        have hcp := cutp_prs a b a.length
        rw [hP, hst] at hcp
        dsimp only at hcp
        have hfl := fro_le a b a.length
        refine lv_aload_n S0.1 S0.2.1 dHu_find_94 rfl (lv_at hl 0 rfl) ?_
        refine lv_iload_n S0.1 S0.2.1 dHu_find_95 rfl (lv_at hl 3 rfl) ?_
        refine lv_aload_n S0.1 S0.2.1 dHu_find_96 rfl (lv_at hl 1 rfl) ?_
        refine hw_get S0 hK hg q22_ra rfl inRo 1 (by decide) lf_Hu_40 rfl rfl dHu_find_97 ?_
        refine lv_iload S0.1 S0.2.1 dHu_find_100 (lv_at hl 4 rfl) ?_
        refine lv_aload_n S0.1 S0.2.1 dHu_find_102 rfl (lv_at hl 2 rfl) ?_
        refine hw_get S0 hK hg q22_rb rfl inRo 1 (by decide) lf_Hu_40 rfl rfl dHu_find_103 ?_
        refine hw_Vv (As := [.int (nI x), .int (nI a.length), .int (nI y), .int (nI b.length)]) (rest := []) S0 hK hg hS hA0 e0 rfl (c_Hu_addUnlessEmpty l D cI cR cJ gl _ hu ce cm hs_.length x a.length y b.length fc hs_ e0 e1 rfl (by omega) hr (by omega) (by omega) (by omega) (by omega)) kHu_addUnlessEmpty lm_Hu_36 (hR.call rfl) rfl hl.1 rfl (Nat.le_of_ble_eq_true rfl) dHu_find_106 (hR.new (by decide) (by decide)) (fun g_3 H locs hp_106 hg hS => ?_)
        obtain ⟨fr1, f1, b0, b1, b2⟩ := hp_106
        have k3_0 := fr1.at (h_nm (h_ne q22_ra e0 (fun h => by simp at h)) (h_nm (h_ne q22_ra e1 (fun h => by cases h)) h_n0)) q22_ra
        have k3_1 := fr1.at (h_nm (h_ne q22_la e0 (fun h => by cases h)) (h_nm hac h_n0)) q22_la
        have k3_2 := fr1.at (h_nm (h_ne q22_rb e0 (fun h => by simp at h)) (h_nm (h_ne q22_rb e1 (fun h => by cases h)) h_n0)) q22_rb
        have k3_3 := fr1.at (h_nm (h_ne q22_lb e0 (fun h => by cases h)) (h_nm hbc h_n0)) q22_lb
        have k3_4 := fr1.at (h_nm (h_ne e2 e0 (fun h => by simp at h)) (h_nm (h_ne e2 e1 (fun h => by cases h)) h_n0)) e2
        have k3_5 := fr1.at (h_nm (h_ne e3 e0 (fun h => by cases h)) (h_nm hpc h_n0)) e3
        have k3_6 := fr1.at (h_nm (h_ne e4 e0 (fun h => by cases h)) (h_nm hqc h_n0)) e4
        have k3_7 := fr1.at (h_nm (h_ne e5 e0 (fun h => by cases h)) (h_nm hlc h_n0)) e5
        have fr := fr.call fr1 (by simp)
        have eh : hunksOf a b = hs_ ++ hk1 x a.length y b.length := by rw [hunksOf, hP, hst]
        exact hend _ _ _ _ _ _ _ (by decide) (by decide) (by rw [eh]; exact ⟨fr, P.length, fA, fB, fL, f1, k3_4, k3_5, k3_6, k3_7, b0, b1, b2⟩) hg hS dHu_find_109
      · skip
        have c_31 : ¬ (P.length ≤ k) := fun h => c_31 ((nI_leI (by omega) (by omega)).mpr h)
        obtain ⟨i, j, hget, htk, hpn, hin⟩ := prs_take (a := a) (b := b) (n := a.length) (k := k) (by rw [hP]; omega)
        rw [hP] at hget htk
        have eA : fA k = nI i := rpN_at hA hget
        have eB : fB k = nI j := rpN_at hB hget
        have hcp := cutp_prs a b i
        rw [← htk, hst] at hcp
        dsimp only at hcp
        have hsp := stp_spec (show stp a b (fro a b i) i = some j from hpn)
        have htl : (P.take k).length ≤ k := by rw [List.length_take]; omega
        refine lv_aload_n S0.1 S0.2.1 dHu_find_34 rfl (lv_at hl 0 rfl) ?_
        refine lv_iload_n S0.1 S0.2.1 dHu_find_35 rfl (lv_at hl 3 rfl) ?_
        refine lv_aload_n S0.1 S0.2.1 dHu_find_36 rfl (lv_at hl 0 rfl) ?_
        refine hw_get S0 hK hg e0 rfl inHu 2 (by decide) lf_Hu_19 rfl rfl dHu_find_37 ?_
        refine hw_get S0 hK hg e2 rfl inCo 0 (by decide) lf_Hu_30 rfl rfl dHu_find_40 ?_
        refine lv_iload S0.1 S0.2.1 dHu_find_43 (lv_at hl 5 rfl) ?_
        refine hw_iald S0 hK hg e3 0 rfl (by omega) (by omega) dHu_find_45 ?_
        refine hw_top (nI i) eA ?_
        refine lv_iload S0.1 S0.2.1 dHu_find_46 (lv_at hl 4 rfl) ?_
        refine lv_aload_n S0.1 S0.2.1 dHu_find_48 rfl (lv_at hl 0 rfl) ?_
        refine hw_get S0 hK hg e0 rfl inHu 2 (by decide) lf_Hu_19 rfl rfl dHu_find_49 ?_
        refine hw_get S0 hK hg e2 rfl inCo 1 (by decide) lf_Hu_33 rfl rfl dHu_find_52 ?_
        refine lv_iload S0.1 S0.2.1 dHu_find_55 (lv_at hl 5 rfl) ?_
        refine hw_iald S0 hK hg e4 0 rfl (by omega) (by omega) dHu_find_57 ?_
        refine hw_top (nI j) eB ?_
        refine hw_Vv (As := [.int (nI x), .int (nI i), .int (nI y), .int (nI j)]) (rest := []) S0 hK hg hS hA0 e0 rfl (c_Hu_addUnlessEmpty l D cI cR cJ gl _ hu ce cm hs_.length x i y j fc hs_ e0 e1 rfl (by omega) hr (by omega) (by omega) (by omega) (by omega)) kHu_addUnlessEmpty lm_Hu_36 (hR.call rfl) rfl hl.1 rfl (Nat.le_of_ble_eq_true rfl) dHu_find_58 (hR.new (by decide) (by decide)) (fun g_4 H locs hp_58 hg hS => ?_)
        obtain ⟨fr1, f1, b0, b1, b2⟩ := hp_58
        have k4_0 := fr1.at (h_nm (h_ne q22_ra e0 (fun h => by simp at h)) (h_nm (h_ne q22_ra e1 (fun h => by cases h)) h_n0)) q22_ra
        have k4_1 := fr1.at (h_nm (h_ne q22_la e0 (fun h => by cases h)) (h_nm hac h_n0)) q22_la
        have k4_2 := fr1.at (h_nm (h_ne q22_rb e0 (fun h => by simp at h)) (h_nm (h_ne q22_rb e1 (fun h => by cases h)) h_n0)) q22_rb
        have k4_3 := fr1.at (h_nm (h_ne q22_lb e0 (fun h => by cases h)) (h_nm hbc h_n0)) q22_lb
        have k4_4 := fr1.at (h_nm (h_ne e2 e0 (fun h => by simp at h)) (h_nm (h_ne e2 e1 (fun h => by cases h)) h_n0)) e2
        have k4_5 := fr1.at (h_nm (h_ne e3 e0 (fun h => by cases h)) (h_nm hpc h_n0)) e3
        have k4_6 := fr1.at (h_nm (h_ne e4 e0 (fun h => by cases h)) (h_nm hqc h_n0)) e4
        have k4_7 := fr1.at (h_nm (h_ne e5 e0 (fun h => by cases h)) (h_nm hlc h_n0)) e5
        have fr := fr.call fr1 (by simp)
        refine lv_aload_n S0.1 S0.2.1 dHu_find_61 rfl (lv_at hl 0 rfl) ?_
        refine hw_get S0 hK hg b0 rfl inHu 2 (by decide) lf_Hu_19 rfl rfl dHu_find_62 ?_
        refine hw_get S0 hK hg k4_4 rfl inCo 0 (by decide) lf_Hu_30 rfl rfl dHu_find_65 ?_
        refine lv_iload S0.1 S0.2.1 dHu_find_68 (lv_at hl 5 rfl) ?_
        refine hw_iald S0 hK hg k4_5 0 rfl (by omega) (by omega) dHu_find_70 ?_
        refine hw_top (nI i) eA ?_
        refine lv_iconst (v := nI 1) S0.1 S0.2.1 dHu_find_71 (by decide) ?_
        refine lv_iadd S0.1 S0.2.1 dHu_find_72 ?_
        refine hw_top (nI (i + 1)) (nI_add _ _) ?_
        refine lv_istore_n (lv' := [(3, .int (nI (i + 1))), (0, .ref hu), (1, .ref ra), (2, .ref rb), (4, .int (nI y)), (5, .int (nI k))]) S0.1 S0.2.1 dHu_find_73 rfl hl (by decide) rfl (fun ls hl => ?_)
        refine lv_aload_n S0.1 S0.2.1 dHu_find_74 rfl (lv_at hl 1 rfl) ?_
        refine hw_get S0 hK hg b0 rfl inHu 2 (by decide) lf_Hu_19 rfl rfl dHu_find_75 ?_
        refine hw_get S0 hK hg k4_4 rfl inCo 1 (by decide) lf_Hu_33 rfl rfl dHu_find_78 ?_
        refine lv_iload S0.1 S0.2.1 dHu_find_81 (lv_at hl 5 rfl) ?_
        refine hw_iald S0 hK hg k4_6 0 rfl (by omega) (by omega) dHu_find_83 ?_
        refine hw_top (nI j) eB ?_
        refine lv_iconst (v := nI 1) S0.1 S0.2.1 dHu_find_84 (by decide) ?_
        refine lv_iadd S0.1 S0.2.1 dHu_find_85 ?_
        refine hw_top (nI (j + 1)) (nI_add _ _) ?_
        refine lv_istore (lv' := [(4, .int (nI (j + 1))), (3, .int (nI (i + 1))), (0, .ref hu), (1, .ref ra), (2, .ref rb), (5, .int (nI k))]) S0.1 S0.2.1 dHu_find_86 hl (by decide) rfl (fun ls hl => ?_)
        refine lv_iinc (v := nI (k + 1)) (lv' := [(5, .int (nI (k + 1))), (4, .int (nI (j + 1))), (3, .int (nI (i + 1))), (0, .ref hu), (1, .ref ra), (2, .ref rb)]) S0.1 S0.2.1 dHu_find_88 hl (k := 5) rfl (by exact nI_add _ 1) (by decide) rfl (fun ls hl => ?_)
        refine lv_goto (tgt := 22) S0.1 S0.2.1 dHu_find_91 (by decide) ?_
        exact ih_22 (k + 1) (i + 1) (j + 1) (hs_ ++ hk1 x i y j) f1 g_4 _ _ _ (by omega) (by omega) (by rw [take_snoc hget, cutp_snoc, hst]; rfl) b2 fr b0 b1 k4_4 k4_5 k4_6 k4_7 hg hS (lv_sub hl [3, 4, 5, 2, 1, 0] rfl)
  exact loop_22 _ 0 0 0 ([]) fc0 g_2 _ _ _ (Nat.lt_succ_self _) (Nat.zero_le _) rfl (rpN_nil _) fr f2_9 f2_4 f2_5 f2_6 f2_7 f2_8 hg hS (lv_sub hl [3, 4, 5, 2, 1, 0] rfl)
