/-! CONSTRUCTORS, on: the class -/
set_option maxRecDepth 100000 in
set_option maxHeartbeats 8000000 in
theorem c_MR_init (l : Launch) (D : va_G) (cI cR cJ : ClassId) (g : Nat → Option va_E) (sz : Nat) (mo : Nat) (h0 : g mo = some (.inr (7, [.null, .null, .null, .null, .null, .null, .null]))) : hMvX l yMR_init cMR_init 4 (hRm 4 120 80 10000) D (hT cI cR cJ) g sz [.ref mo] (fun g1 => ∃ x : Nat → Nat, x 0 = mo ∧ (∀ i, 0 < i → i < 50 → g (x i) = none) ∧ hfn g g1 [mo] ∧ repX cI cR g1 x S00) := by
  refine hMvX_of (by decide +kernel) (Nat.le_of_ble_eq_true rfl) ?_
  intro pX eV RX sX mX argsX belowX methX cX QX AX hR S0 hnm hsz hg hK hS hA0 hx hz hend ls hl
  have hl : lv_has ls 4 [(0, .ref mo)] := hl
  have fr : hfn g g [mo] := hfn.rf
  refine lv_aload_n S0.1 S0.2.1 dMR_init_0 rfl (lv_at hl 0 rfl) ?_
  refine hw_objInit S0 hR hl.1 lm_MR_3 rfl dMR_init_1 ?_
  refine lv_aload_n S0.1 S0.2.1 dMR_init_4 rfl (lv_at hl 0 rfl) ?_
  refine lv_bipush (v := nI 6) S0.1 S0.2.1 dMR_init_5 (by decide) ?_
  refine hw_newq S0 hK hg hS hA0 lc_MR_9 hx.1 1 rfl (by decide) (Nat.le_trans (Nat.le_of_ble_eq_true rfl) hR.2.2.1) (Nat.le_trans (Nat.le_of_ble_eq_true rfl) hR.2.2.2) dMR_init_7 (fun a1 H ha1 hg hS => ?_)
  have n_mo_a1 : mo ≠ a1 := h_nn h0 ha1
  have z_a1 : g a1 = none := fr.nn ha1 (h_nm (Ne.symm n_mo_a1) h_n0)
  obtain ⟨g_1, eg_1⟩ : ∃ z, z = hs g a1 (.inl (cR, 6, .inr (.inr (.inr (.inr (fun _ => none)))))) := ⟨_, rfl⟩
  have hg : hw D hC AX g_1 H := by rw [eg_1]; exact hg
  have f1_0 : g_1 mo = some (.inr (7, [.null, .null, .null, .null, .null, .null, .null])) := by rw [eg_1, hs_n _ _ n_mo_a1]; exact h0
  have f1_1 : g_1 a1 = some (.inl (cR, 6, .inr (.inr (.inr (.inr (fun _ => none)))))) := by rw [eg_1]; exact hs_s _ _ _
  have fr := fr.putN eg_1 z_a1
  refine hw_putF S0 hK hg hS f1_0 rfl inMR tyMR tokMR nmMR 0 (by decide) lf_MR_11 rfl rfl hnm rfl rfl rfl (Nat.le_of_ble_eq_true rfl) dMR_init_10 (fun H locs hg hS => ?_)
  obtain ⟨g_2, eg_2⟩ : ∃ z, z = hs g_1 mo (.inr (7, [.ref a1, .null, .null, .null, .null, .null, .null])) := ⟨_, rfl⟩
  have hg : hw D hC AX g_2 H := by rw [eg_2]; exact hg
  have f2_0 : g_2 a1 = some (.inl (cR, 6, .inr (.inr (.inr (.inr (fun _ => none)))))) := by rw [eg_2, hs_n _ _ (Ne.symm n_mo_a1)]; exact f1_1
  have f2_1 : g_2 mo = some (.inr (7, [.ref a1, .null, .null, .null, .null, .null, .null])) := by rw [eg_2]; exact hs_s _ _ _
  have fr := fr.put eg_2 (by simp)
  refine lv_iconst (v := nI 0) S0.1 S0.2.1 dMR_init_13 (by decide) ?_
  refine lv_istore_n (lv' := [(1, .int (nI 0)), (0, .ref mo)]) S0.1 S0.2.1 dMR_init_14 rfl hl (by decide) rfl (fun ls hl => ?_)
  refine lv_iload_n S0.1 S0.2.1 dMR_init_15 rfl (lv_at hl 0 rfl) ?_
  refine lv_bipush (v := nI 6) S0.1 S0.2.1 dMR_init_16 (by decide) ?_
  refine lv_icmp_ge (tgt := 42) S0.1 S0.2.1 dMR_init_18 (by decide) (fun c_18 => ?_) (fun c_18 => ?_)
  · skip
    have c_18 : 6 ≤ 0 := (nI_leI (by omega) (by omega)).mp c_18
    exact absurd c_18 (by decide)
  · skip
    have c_18 : ¬ (6 ≤ 0) := fun h => c_18 ((nI_leI (by omega) (by omega)).mpr h)
    refine lv_aload_n S0.1 S0.2.1 dMR_init_21 rfl (lv_at hl 1 rfl) ?_
    refine hw_get S0 hK hg f2_1 rfl inMR 0 (by decide) lf_MR_11 rfl rfl dMR_init_22 ?_
    refine lv_iload_n S0.1 S0.2.1 dMR_init_25 rfl (lv_at hl 0 rfl) ?_
    refine hw_new (fs := [.null, .int (nI 0)]) S0 hK hg hS hA0 (ci := 5) rfl inRo tyRo tokRo lc_MR_9 insRo iniRo dflRo (Nat.le_trans (Nat.le_of_ble_eq_true rfl) hR.2.2.1) (Nat.le_trans (Nat.le_of_ble_eq_true rfl) hR.2.2.2) dMR_init_26 (fun a2 H ha2 hg hS => ?_)
    have n_a1_a2 : a1 ≠ a2 := h_nn f2_0 ha2
    have n_mo_a2 : mo ≠ a2 := h_nn f2_1 ha2
    have z_a2 : g a2 = none := fr.nn ha2 (h_nm (Ne.symm n_mo_a2) h_n0)
    obtain ⟨g_3, eg_3⟩ : ∃ z, z = hs g_2 a2 (.inr (5, [.null, .int (nI 0)])) := ⟨_, rfl⟩
    have hg : hw D hC AX g_3 H := by rw [eg_3]; exact hg
    have f3_0 : g_3 a1 = some (.inl (cR, 6, .inr (.inr (.inr (.inr (fun _ => none)))))) := by rw [eg_3, hs_n _ _ n_a1_a2]; exact f2_0
    have f3_1 : g_3 mo = some (.inr (7, [.ref a1, .null, .null, .null, .null, .null, .null])) := by rw [eg_3, hs_n _ _ n_mo_a2]; exact f2_1
    have f3_2 : g_3 a2 = some (.inr (5, [.null, .int (nI 0)])) := by rw [eg_3]; exact hs_s _ _ _
    have fr := fr.putN eg_3 z_a2
    refine lv_dup S0.1 S0.2.1 dMR_init_29 rfl ?_
    refine lv_bipush (v := nI 60) S0.1 S0.2.1 dMR_init_30 (by decide) ?_
    refine hw_I (As := [.int (nI 60)]) (rest := [.ref a2, .int (nI 0), .ref a1]) S0 hK hg hS hA0 (c_Ro_init l D cI cR cJ g_3 _ a2 60 (by omega) f3_2) kRo_init lm_MR_15 (hR.call rfl) rfl hl.1 rfl (Nat.le_of_ble_eq_true rfl) dMR_init_32 (hR.new (by decide) (by decide)) (fun g_4 H locs hp_32 hg hS => ?_)
    obtain ⟨b32_4_0, z32_4_0, frn32_4, s32_4, y32_4_0⟩ := hp_32
    have n_a1_b32_4_0 : a1 ≠ b32_4_0 := h_nn f3_0 z32_4_0
    have n_mo_b32_4_0 : mo ≠ b32_4_0 := h_nn f3_1 z32_4_0
    have n_a2_b32_4_0 : a2 ≠ b32_4_0 := h_nn f3_2 z32_4_0
    have k4_0 := frn32_4.at (h_nm n_a1_a2 h_n0) f3_0
    have k4_1 := frn32_4.at (h_nm n_mo_a2 h_n0) f3_1
    have z_b32_4_0 : g b32_4_0 = none := fr.nn z32_4_0 (h_nm (Ne.symm n_mo_b32_4_0) h_n0)
    have fr := fr.call frn32_4 (fun z hz => by rcases List.mem_singleton.mp hz with rfl; exact Or.inr z_a2)
    refine hw_aast S0 hK hg hS k4_0 1 rfl s32_4 rfl (by omega) (by omega) dMR_init_35 (fun H locs hg hS => ?_)
    obtain ⟨g_5, eg_5⟩ : ∃ z, z = hs g_4 a1 (.inl (cR, 6, .inr (.inr (.inr (.inr (va_up (fun _ => none) 0 (some a2))))))) := ⟨_, rfl⟩
    have hg : hw D hC AX g_5 H := by rw [eg_5]; exact hg
    have f5_0 : g_5 mo = some (.inr (7, [.ref a1, .null, .null, .null, .null, .null, .null])) := by rw [eg_5, hs_n _ _ n_mo_a1]; exact k4_1
    have f5_1 : g_5 a2 = some (.inr (5, [.ref b32_4_0, .int (nI 0)])) := by rw [eg_5, hs_n _ _ (Ne.symm n_a1_a2)]; exact s32_4
    have f5_2 : g_5 b32_4_0 = some (.inl (cI, 60, .inl (fun _ => 0))) := by rw [eg_5, hs_n _ _ (Ne.symm n_a1_b32_4_0)]; exact y32_4_0
    have f5_3 : g_5 a1 = some (.inl (cR, 6, .inr (.inr (.inr (.inr (va_up (fun _ => none) 0 (some a2))))))) := by rw [eg_5]; exact hs_s _ _ _
    have fr := fr.putN eg_5 z_a1
    refine lv_iinc (v := nI 1) (lv' := [(1, .int (nI 1)), (0, .ref mo)]) S0.1 S0.2.1 dMR_init_36 hl (k := 0) rfl (by exact nI_add _ 1) (by decide) rfl (fun ls hl => ?_)
    refine lv_goto (tgt := 15) S0.1 S0.2.1 dMR_init_39 (by decide) ?_
    refine lv_iload_n S0.1 S0.2.1 dMR_init_15 rfl (lv_at hl 0 rfl) ?_
    refine lv_bipush (v := nI 6) S0.1 S0.2.1 dMR_init_16 (by decide) ?_
    refine lv_icmp_ge (tgt := 42) S0.1 S0.2.1 dMR_init_18 (by decide) (fun c_18 => ?_) (fun c_18 => ?_)
    · skip
      have c_18 : 6 ≤ 1 := (nI_leI (by omega) (by omega)).mp c_18
      exact absurd c_18 (by decide)
    · skip
      have c_18 : ¬ (6 ≤ 1) := fun h => c_18 ((nI_leI (by omega) (by omega)).mpr h)
      refine lv_aload_n S0.1 S0.2.1 dMR_init_21 rfl (lv_at hl 1 rfl) ?_
      refine hw_get S0 hK hg f5_0 rfl inMR 0 (by decide) lf_MR_11 rfl rfl dMR_init_22 ?_
      refine lv_iload_n S0.1 S0.2.1 dMR_init_25 rfl (lv_at hl 0 rfl) ?_
      refine hw_new (fs := [.null, .int (nI 0)]) S0 hK hg hS hA0 (ci := 5) rfl inRo tyRo tokRo lc_MR_9 insRo iniRo dflRo (Nat.le_trans (Nat.le_of_ble_eq_true rfl) hR.2.2.1) (Nat.le_trans (Nat.le_of_ble_eq_true rfl) hR.2.2.2) dMR_init_26 (fun a3 H ha3 hg hS => ?_)
      have n_mo_a3 : mo ≠ a3 := h_nn f5_0 ha3
      have n_a2_a3 : a2 ≠ a3 := h_nn f5_1 ha3
      have n_b32_4_0_a3 : b32_4_0 ≠ a3 := h_nn f5_2 ha3
      have n_a1_a3 : a1 ≠ a3 := h_nn f5_3 ha3
      have z_a3 : g a3 = none := fr.nn ha3 (h_nm (Ne.symm n_mo_a3) h_n0)
      obtain ⟨g_6, eg_6⟩ : ∃ z, z = hs g_5 a3 (.inr (5, [.null, .int (nI 0)])) := ⟨_, rfl⟩
      have hg : hw D hC AX g_6 H := by rw [eg_6]; exact hg
      have f6_0 : g_6 mo = some (.inr (7, [.ref a1, .null, .null, .null, .null, .null, .null])) := by rw [eg_6, hs_n _ _ n_mo_a3]; exact f5_0
      have f6_1 : g_6 a2 = some (.inr (5, [.ref b32_4_0, .int (nI 0)])) := by rw [eg_6, hs_n _ _ n_a2_a3]; exact f5_1
      have f6_2 : g_6 b32_4_0 = some (.inl (cI, 60, .inl (fun _ => 0))) := by rw [eg_6, hs_n _ _ n_b32_4_0_a3]; exact f5_2
      have f6_3 : g_6 a1 = some (.inl (cR, 6, .inr (.inr (.inr (.inr (va_up (fun _ => none) 0 (some a2))))))) := by rw [eg_6, hs_n _ _ n_a1_a3]; exact f5_3
      have f6_4 : g_6 a3 = some (.inr (5, [.null, .int (nI 0)])) := by rw [eg_6]; exact hs_s _ _ _
      have fr := fr.putN eg_6 z_a3
      refine lv_dup S0.1 S0.2.1 dMR_init_29 rfl ?_
      refine lv_bipush (v := nI 60) S0.1 S0.2.1 dMR_init_30 (by decide) ?_
      refine hw_I (As := [.int (nI 60)]) (rest := [.ref a3, .int (nI 1), .ref a1]) S0 hK hg hS hA0 (c_Ro_init l D cI cR cJ g_6 _ a3 60 (by omega) f6_4) kRo_init lm_MR_15 (hR.call rfl) rfl hl.1 rfl (Nat.le_of_ble_eq_true rfl) dMR_init_32 (hR.new (by decide) (by decide)) (fun g_7 H locs hp_32 hg hS => ?_)
      obtain ⟨b32_7_0, z32_7_0, frn32_7, s32_7, y32_7_0⟩ := hp_32
      have n_mo_b32_7_0 : mo ≠ b32_7_0 := h_nn f6_0 z32_7_0
      have n_a2_b32_7_0 : a2 ≠ b32_7_0 := h_nn f6_1 z32_7_0
      have n_b32_4_0_b32_7_0 : b32_4_0 ≠ b32_7_0 := h_nn f6_2 z32_7_0
      have n_a1_b32_7_0 : a1 ≠ b32_7_0 := h_nn f6_3 z32_7_0
      have n_a3_b32_7_0 : a3 ≠ b32_7_0 := h_nn f6_4 z32_7_0
      have k7_0 := frn32_7.at (h_nm n_mo_a3 h_n0) f6_0
      have k7_1 := frn32_7.at (h_nm n_a2_a3 h_n0) f6_1
      have k7_2 := frn32_7.at (h_nm n_b32_4_0_a3 h_n0) f6_2
      have k7_3 := frn32_7.at (h_nm n_a1_a3 h_n0) f6_3
      have z_b32_7_0 : g b32_7_0 = none := fr.nn z32_7_0 (h_nm (Ne.symm n_mo_b32_7_0) h_n0)
      have fr := fr.call frn32_7 (fun z hz => by rcases List.mem_singleton.mp hz with rfl; exact Or.inr z_a3)
      refine hw_aast S0 hK hg hS k7_3 1 rfl s32_7 rfl (by omega) (by omega) dMR_init_35 (fun H locs hg hS => ?_)
      obtain ⟨g_8, eg_8⟩ : ∃ z, z = hs g_7 a1 (.inl (cR, 6, .inr (.inr (.inr (.inr (va_up (va_up (fun _ => none) 0 (some a2)) 1 (some a3))))))) := ⟨_, rfl⟩
      have hg : hw D hC AX g_8 H := by rw [eg_8]; exact hg
      have f8_0 : g_8 mo = some (.inr (7, [.ref a1, .null, .null, .null, .null, .null, .null])) := by rw [eg_8, hs_n _ _ n_mo_a1]; exact k7_0
      have f8_1 : g_8 a2 = some (.inr (5, [.ref b32_4_0, .int (nI 0)])) := by rw [eg_8, hs_n _ _ (Ne.symm n_a1_a2)]; exact k7_1
      have f8_2 : g_8 b32_4_0 = some (.inl (cI, 60, .inl (fun _ => 0))) := by rw [eg_8, hs_n _ _ (Ne.symm n_a1_b32_4_0)]; exact k7_2
      have f8_3 : g_8 a3 = some (.inr (5, [.ref b32_7_0, .int (nI 0)])) := by rw [eg_8, hs_n _ _ (Ne.symm n_a1_a3)]; exact s32_7
      have f8_4 : g_8 b32_7_0 = some (.inl (cI, 60, .inl (fun _ => 0))) := by rw [eg_8, hs_n _ _ (Ne.symm n_a1_b32_7_0)]; exact y32_7_0
      have f8_5 : g_8 a1 = some (.inl (cR, 6, .inr (.inr (.inr (.inr (va_up (va_up (fun _ => none) 0 (some a2)) 1 (some a3))))))) := by rw [eg_8]; exact hs_s _ _ _
      have fr := fr.putN eg_8 z_a1
      refine lv_iinc (v := nI 2) (lv' := [(1, .int (nI 2)), (0, .ref mo)]) S0.1 S0.2.1 dMR_init_36 hl (k := 0) rfl (by exact nI_add _ 1) (by decide) rfl (fun ls hl => ?_)
      refine lv_goto (tgt := 15) S0.1 S0.2.1 dMR_init_39 (by decide) ?_
      refine lv_iload_n S0.1 S0.2.1 dMR_init_15 rfl (lv_at hl 0 rfl) ?_
      refine lv_bipush (v := nI 6) S0.1 S0.2.1 dMR_init_16 (by decide) ?_
      refine lv_icmp_ge (tgt := 42) S0.1 S0.2.1 dMR_init_18 (by decide) (fun c_18 => ?_) (fun c_18 => ?_)
      · skip
        have c_18 : 6 ≤ 2 := (nI_leI (by omega) (by omega)).mp c_18
        exact absurd c_18 (by decide)
      · skip
        have c_18 : ¬ (6 ≤ 2) := fun h => c_18 ((nI_leI (by omega) (by omega)).mpr h)
        refine lv_aload_n S0.1 S0.2.1 dMR_init_21 rfl (lv_at hl 1 rfl) ?_
        refine hw_get S0 hK hg f8_0 rfl inMR 0 (by decide) lf_MR_11 rfl rfl dMR_init_22 ?_
        refine lv_iload_n S0.1 S0.2.1 dMR_init_25 rfl (lv_at hl 0 rfl) ?_
        refine hw_new (fs := [.null, .int (nI 0)]) S0 hK hg hS hA0 (ci := 5) rfl inRo tyRo tokRo lc_MR_9 insRo iniRo dflRo (Nat.le_trans (Nat.le_of_ble_eq_true rfl) hR.2.2.1) (Nat.le_trans (Nat.le_of_ble_eq_true rfl) hR.2.2.2) dMR_init_26 (fun a4 H ha4 hg hS => ?_)
        have n_mo_a4 : mo ≠ a4 := h_nn f8_0 ha4
        have n_a2_a4 : a2 ≠ a4 := h_nn f8_1 ha4
        have n_b32_4_0_a4 : b32_4_0 ≠ a4 := h_nn f8_2 ha4
        have n_a3_a4 : a3 ≠ a4 := h_nn f8_3 ha4
        have n_b32_7_0_a4 : b32_7_0 ≠ a4 := h_nn f8_4 ha4
        have n_a1_a4 : a1 ≠ a4 := h_nn f8_5 ha4
        have z_a4 : g a4 = none := fr.nn ha4 (h_nm (Ne.symm n_mo_a4) h_n0)
        obtain ⟨g_9, eg_9⟩ : ∃ z, z = hs g_8 a4 (.inr (5, [.null, .int (nI 0)])) := ⟨_, rfl⟩
        have hg : hw D hC AX g_9 H := by rw [eg_9]; exact hg
        have f9_0 : g_9 mo = some (.inr (7, [.ref a1, .null, .null, .null, .null, .null, .null])) := by rw [eg_9, hs_n _ _ n_mo_a4]; exact f8_0
        have f9_1 : g_9 a2 = some (.inr (5, [.ref b32_4_0, .int (nI 0)])) := by rw [eg_9, hs_n _ _ n_a2_a4]; exact f8_1
        have f9_2 : g_9 b32_4_0 = some (.inl (cI, 60, .inl (fun _ => 0))) := by rw [eg_9, hs_n _ _ n_b32_4_0_a4]; exact f8_2
        have f9_3 : g_9 a3 = some (.inr (5, [.ref b32_7_0, .int (nI 0)])) := by rw [eg_9, hs_n _ _ n_a3_a4]; exact f8_3
        have f9_4 : g_9 b32_7_0 = some (.inl (cI, 60, .inl (fun _ => 0))) := by rw [eg_9, hs_n _ _ n_b32_7_0_a4]; exact f8_4
        have f9_5 : g_9 a1 = some (.inl (cR, 6, .inr (.inr (.inr (.inr (va_up (va_up (fun _ => none) 0 (some a2)) 1 (some a3))))))) := by rw [eg_9, hs_n _ _ n_a1_a4]; exact f8_5
        have f9_6 : g_9 a4 = some (.inr (5, [.null, .int (nI 0)])) := by rw [eg_9]; exact hs_s _ _ _
        have fr := fr.putN eg_9 z_a4
        refine lv_dup S0.1 S0.2.1 dMR_init_29 rfl ?_
        refine lv_bipush (v := nI 60) S0.1 S0.2.1 dMR_init_30 (by decide) ?_
        refine hw_I (As := [.int (nI 60)]) (rest := [.ref a4, .int (nI 2), .ref a1]) S0 hK hg hS hA0 (c_Ro_init l D cI cR cJ g_9 _ a4 60 (by omega) f9_6) kRo_init lm_MR_15 (hR.call rfl) rfl hl.1 rfl (Nat.le_of_ble_eq_true rfl) dMR_init_32 (hR.new (by decide) (by decide)) (fun g_10 H locs hp_32 hg hS => ?_)
        obtain ⟨b32_10_0, z32_10_0, frn32_10, s32_10, y32_10_0⟩ := hp_32
        have n_mo_b32_10_0 : mo ≠ b32_10_0 := h_nn f9_0 z32_10_0
        have n_a2_b32_10_0 : a2 ≠ b32_10_0 := h_nn f9_1 z32_10_0
        have n_b32_4_0_b32_10_0 : b32_4_0 ≠ b32_10_0 := h_nn f9_2 z32_10_0
        have n_a3_b32_10_0 : a3 ≠ b32_10_0 := h_nn f9_3 z32_10_0
        have n_b32_7_0_b32_10_0 : b32_7_0 ≠ b32_10_0 := h_nn f9_4 z32_10_0
        have n_a1_b32_10_0 : a1 ≠ b32_10_0 := h_nn f9_5 z32_10_0
        have n_a4_b32_10_0 : a4 ≠ b32_10_0 := h_nn f9_6 z32_10_0
        have k10_0 := frn32_10.at (h_nm n_mo_a4 h_n0) f9_0
        have k10_1 := frn32_10.at (h_nm n_a2_a4 h_n0) f9_1
        have k10_2 := frn32_10.at (h_nm n_b32_4_0_a4 h_n0) f9_2
        have k10_3 := frn32_10.at (h_nm n_a3_a4 h_n0) f9_3
        have k10_4 := frn32_10.at (h_nm n_b32_7_0_a4 h_n0) f9_4
        have k10_5 := frn32_10.at (h_nm n_a1_a4 h_n0) f9_5
        have z_b32_10_0 : g b32_10_0 = none := fr.nn z32_10_0 (h_nm (Ne.symm n_mo_b32_10_0) h_n0)
        have fr := fr.call frn32_10 (fun z hz => by rcases List.mem_singleton.mp hz with rfl; exact Or.inr z_a4)
        refine hw_aast S0 hK hg hS k10_5 1 rfl s32_10 rfl (by omega) (by omega) dMR_init_35 (fun H locs hg hS => ?_)
        obtain ⟨g_11, eg_11⟩ : ∃ z, z = hs g_10 a1 (.inl (cR, 6, .inr (.inr (.inr (.inr (va_up (va_up (va_up (fun _ => none) 0 (some a2)) 1 (some a3)) 2 (some a4))))))) := ⟨_, rfl⟩
        have hg : hw D hC AX g_11 H := by rw [eg_11]; exact hg
        have f11_0 : g_11 mo = some (.inr (7, [.ref a1, .null, .null, .null, .null, .null, .null])) := by rw [eg_11, hs_n _ _ n_mo_a1]; exact k10_0
        have f11_1 : g_11 a2 = some (.inr (5, [.ref b32_4_0, .int (nI 0)])) := by rw [eg_11, hs_n _ _ (Ne.symm n_a1_a2)]; exact k10_1
        have f11_2 : g_11 b32_4_0 = some (.inl (cI, 60, .inl (fun _ => 0))) := by rw [eg_11, hs_n _ _ (Ne.symm n_a1_b32_4_0)]; exact k10_2
        have f11_3 : g_11 a3 = some (.inr (5, [.ref b32_7_0, .int (nI 0)])) := by rw [eg_11, hs_n _ _ (Ne.symm n_a1_a3)]; exact k10_3
        have f11_4 : g_11 b32_7_0 = some (.inl (cI, 60, .inl (fun _ => 0))) := by rw [eg_11, hs_n _ _ (Ne.symm n_a1_b32_7_0)]; exact k10_4
        have f11_5 : g_11 a4 = some (.inr (5, [.ref b32_10_0, .int (nI 0)])) := by rw [eg_11, hs_n _ _ (Ne.symm n_a1_a4)]; exact s32_10
        have f11_6 : g_11 b32_10_0 = some (.inl (cI, 60, .inl (fun _ => 0))) := by rw [eg_11, hs_n _ _ (Ne.symm n_a1_b32_10_0)]; exact y32_10_0
        have f11_7 : g_11 a1 = some (.inl (cR, 6, .inr (.inr (.inr (.inr (va_up (va_up (va_up (fun _ => none) 0 (some a2)) 1 (some a3)) 2 (some a4))))))) := by rw [eg_11]; exact hs_s _ _ _
        have fr := fr.putN eg_11 z_a1
        refine lv_iinc (v := nI 3) (lv' := [(1, .int (nI 3)), (0, .ref mo)]) S0.1 S0.2.1 dMR_init_36 hl (k := 0) rfl (by exact nI_add _ 1) (by decide) rfl (fun ls hl => ?_)
        refine lv_goto (tgt := 15) S0.1 S0.2.1 dMR_init_39 (by decide) ?_
        refine lv_iload_n S0.1 S0.2.1 dMR_init_15 rfl (lv_at hl 0 rfl) ?_
        refine lv_bipush (v := nI 6) S0.1 S0.2.1 dMR_init_16 (by decide) ?_
        refine lv_icmp_ge (tgt := 42) S0.1 S0.2.1 dMR_init_18 (by decide) (fun c_18 => ?_) (fun c_18 => ?_)
        · skip
          have c_18 : 6 ≤ 3 := (nI_leI (by omega) (by omega)).mp c_18
          exact absurd c_18 (by decide)
        · skip
          have c_18 : ¬ (6 ≤ 3) := fun h => c_18 ((nI_leI (by omega) (by omega)).mpr h)
          refine lv_aload_n S0.1 S0.2.1 dMR_init_21 rfl (lv_at hl 1 rfl) ?_
          refine hw_get S0 hK hg f11_0 rfl inMR 0 (by decide) lf_MR_11 rfl rfl dMR_init_22 ?_
          refine lv_iload_n S0.1 S0.2.1 dMR_init_25 rfl (lv_at hl 0 rfl) ?_
          refine hw_new (fs := [.null, .int (nI 0)]) S0 hK hg hS hA0 (ci := 5) rfl inRo tyRo tokRo lc_MR_9 insRo iniRo dflRo (Nat.le_trans (Nat.le_of_ble_eq_true rfl) hR.2.2.1) (Nat.le_trans (Nat.le_of_ble_eq_true rfl) hR.2.2.2) dMR_init_26 (fun a5 H ha5 hg hS => ?_)
          have n_mo_a5 : mo ≠ a5 := h_nn f11_0 ha5
          have n_a2_a5 : a2 ≠ a5 := h_nn f11_1 ha5
          have n_b32_4_0_a5 : b32_4_0 ≠ a5 := h_nn f11_2 ha5
          have n_a3_a5 : a3 ≠ a5 := h_nn f11_3 ha5
          have n_b32_7_0_a5 : b32_7_0 ≠ a5 := h_nn f11_4 ha5
          have n_a4_a5 : a4 ≠ a5 := h_nn f11_5 ha5
          have n_b32_10_0_a5 : b32_10_0 ≠ a5 := h_nn f11_6 ha5
          have n_a1_a5 : a1 ≠ a5 := h_nn f11_7 ha5
          have z_a5 : g a5 = none := fr.nn ha5 (h_nm (Ne.symm n_mo_a5) h_n0)
          obtain ⟨g_12, eg_12⟩ : ∃ z, z = hs g_11 a5 (.inr (5, [.null, .int (nI 0)])) := ⟨_, rfl⟩
          have hg : hw D hC AX g_12 H := by rw [eg_12]; exact hg
          have f12_0 : g_12 mo = some (.inr (7, [.ref a1, .null, .null, .null, .null, .null, .null])) := by rw [eg_12, hs_n _ _ n_mo_a5]; exact f11_0
          have f12_1 : g_12 a2 = some (.inr (5, [.ref b32_4_0, .int (nI 0)])) := by rw [eg_12, hs_n _ _ n_a2_a5]; exact f11_1
          have f12_2 : g_12 b32_4_0 = some (.inl (cI, 60, .inl (fun _ => 0))) := by rw [eg_12, hs_n _ _ n_b32_4_0_a5]; exact f11_2
          have f12_3 : g_12 a3 = some (.inr (5, [.ref b32_7_0, .int (nI 0)])) := by rw [eg_12, hs_n _ _ n_a3_a5]; exact f11_3
          have f12_4 : g_12 b32_7_0 = some (.inl (cI, 60, .inl (fun _ => 0))) := by rw [eg_12, hs_n _ _ n_b32_7_0_a5]; exact f11_4
          have f12_5 : g_12 a4 = some (.inr (5, [.ref b32_10_0, .int (nI 0)])) := by rw [eg_12, hs_n _ _ n_a4_a5]; exact f11_5
          have f12_6 : g_12 b32_10_0 = some (.inl (cI, 60, .inl (fun _ => 0))) := by rw [eg_12, hs_n _ _ n_b32_10_0_a5]; exact f11_6
          have f12_7 : g_12 a1 = some (.inl (cR, 6, .inr (.inr (.inr (.inr (va_up (va_up (va_up (fun _ => none) 0 (some a2)) 1 (some a3)) 2 (some a4))))))) := by rw [eg_12, hs_n _ _ n_a1_a5]; exact f11_7
          have f12_8 : g_12 a5 = some (.inr (5, [.null, .int (nI 0)])) := by rw [eg_12]; exact hs_s _ _ _
          have fr := fr.putN eg_12 z_a5
          refine lv_dup S0.1 S0.2.1 dMR_init_29 rfl ?_
          refine lv_bipush (v := nI 60) S0.1 S0.2.1 dMR_init_30 (by decide) ?_
          refine hw_I (As := [.int (nI 60)]) (rest := [.ref a5, .int (nI 3), .ref a1]) S0 hK hg hS hA0 (c_Ro_init l D cI cR cJ g_12 _ a5 60 (by omega) f12_8) kRo_init lm_MR_15 (hR.call rfl) rfl hl.1 rfl (Nat.le_of_ble_eq_true rfl) dMR_init_32 (hR.new (by decide) (by decide)) (fun g_13 H locs hp_32 hg hS => ?_)
          obtain ⟨b32_13_0, z32_13_0, frn32_13, s32_13, y32_13_0⟩ := hp_32
          have n_mo_b32_13_0 : mo ≠ b32_13_0 := h_nn f12_0 z32_13_0
          have n_a2_b32_13_0 : a2 ≠ b32_13_0 := h_nn f12_1 z32_13_0
          have n_b32_4_0_b32_13_0 : b32_4_0 ≠ b32_13_0 := h_nn f12_2 z32_13_0
          have n_a3_b32_13_0 : a3 ≠ b32_13_0 := h_nn f12_3 z32_13_0
          have n_b32_7_0_b32_13_0 : b32_7_0 ≠ b32_13_0 := h_nn f12_4 z32_13_0
          have n_a4_b32_13_0 : a4 ≠ b32_13_0 := h_nn f12_5 z32_13_0
          have n_b32_10_0_b32_13_0 : b32_10_0 ≠ b32_13_0 := h_nn f12_6 z32_13_0
          have n_a1_b32_13_0 : a1 ≠ b32_13_0 := h_nn f12_7 z32_13_0
          have n_a5_b32_13_0 : a5 ≠ b32_13_0 := h_nn f12_8 z32_13_0
          have k13_0 := frn32_13.at (h_nm n_mo_a5 h_n0) f12_0
          have k13_1 := frn32_13.at (h_nm n_a2_a5 h_n0) f12_1
          have k13_2 := frn32_13.at (h_nm n_b32_4_0_a5 h_n0) f12_2
          have k13_3 := frn32_13.at (h_nm n_a3_a5 h_n0) f12_3
          have k13_4 := frn32_13.at (h_nm n_b32_7_0_a5 h_n0) f12_4
          have k13_5 := frn32_13.at (h_nm n_a4_a5 h_n0) f12_5
          have k13_6 := frn32_13.at (h_nm n_b32_10_0_a5 h_n0) f12_6
          have k13_7 := frn32_13.at (h_nm n_a1_a5 h_n0) f12_7
          have z_b32_13_0 : g b32_13_0 = none := fr.nn z32_13_0 (h_nm (Ne.symm n_mo_b32_13_0) h_n0)
          have fr := fr.call frn32_13 (fun z hz => by rcases List.mem_singleton.mp hz with rfl; exact Or.inr z_a5)
          refine hw_aast S0 hK hg hS k13_7 1 rfl s32_13 rfl (by omega) (by omega) dMR_init_35 (fun H locs hg hS => ?_)
          obtain ⟨g_14, eg_14⟩ : ∃ z, z = hs g_13 a1 (.inl (cR, 6, .inr (.inr (.inr (.inr (va_up (va_up (va_up (va_up (fun _ => none) 0 (some a2)) 1 (some a3)) 2 (some a4)) 3 (some a5))))))) := ⟨_, rfl⟩
          have hg : hw D hC AX g_14 H := by rw [eg_14]; exact hg
          have f14_0 : g_14 mo = some (.inr (7, [.ref a1, .null, .null, .null, .null, .null, .null])) := by rw [eg_14, hs_n _ _ n_mo_a1]; exact k13_0
          have f14_1 : g_14 a2 = some (.inr (5, [.ref b32_4_0, .int (nI 0)])) := by rw [eg_14, hs_n _ _ (Ne.symm n_a1_a2)]; exact k13_1
          have f14_2 : g_14 b32_4_0 = some (.inl (cI, 60, .inl (fun _ => 0))) := by rw [eg_14, hs_n _ _ (Ne.symm n_a1_b32_4_0)]; exact k13_2
          have f14_3 : g_14 a3 = some (.inr (5, [.ref b32_7_0, .int (nI 0)])) := by rw [eg_14, hs_n _ _ (Ne.symm n_a1_a3)]; exact k13_3
          have f14_4 : g_14 b32_7_0 = some (.inl (cI, 60, .inl (fun _ => 0))) := by rw [eg_14, hs_n _ _ (Ne.symm n_a1_b32_7_0)]; exact k13_4
          have f14_5 : g_14 a4 = some (.inr (5, [.ref b32_10_0, .int (nI 0)])) := by rw [eg_14, hs_n _ _ (Ne.symm n_a1_a4)]; exact k13_5
          have f14_6 : g_14 b32_10_0 = some (.inl (cI, 60, .inl (fun _ => 0))) := by rw [eg_14, hs_n _ _ (Ne.symm n_a1_b32_10_0)]; exact k13_6
          have f14_7 : g_14 a5 = some (.inr (5, [.ref b32_13_0, .int (nI 0)])) := by rw [eg_14, hs_n _ _ (Ne.symm n_a1_a5)]; exact s32_13
          have f14_8 : g_14 b32_13_0 = some (.inl (cI, 60, .inl (fun _ => 0))) := by rw [eg_14, hs_n _ _ (Ne.symm n_a1_b32_13_0)]; exact y32_13_0
          have f14_9 : g_14 a1 = some (.inl (cR, 6, .inr (.inr (.inr (.inr (va_up (va_up (va_up (va_up (fun _ => none) 0 (some a2)) 1 (some a3)) 2 (some a4)) 3 (some a5))))))) := by rw [eg_14]; exact hs_s _ _ _
          have fr := fr.putN eg_14 z_a1
          refine lv_iinc (v := nI 4) (lv' := [(1, .int (nI 4)), (0, .ref mo)]) S0.1 S0.2.1 dMR_init_36 hl (k := 0) rfl (by exact nI_add _ 1) (by decide) rfl (fun ls hl => ?_)
          refine lv_goto (tgt := 15) S0.1 S0.2.1 dMR_init_39 (by decide) ?_
          refine lv_iload_n S0.1 S0.2.1 dMR_init_15 rfl (lv_at hl 0 rfl) ?_
          refine lv_bipush (v := nI 6) S0.1 S0.2.1 dMR_init_16 (by decide) ?_
          refine lv_icmp_ge (tgt := 42) S0.1 S0.2.1 dMR_init_18 (by decide) (fun c_18 => ?_) (fun c_18 => ?_)
          · skip
            have c_18 : 6 ≤ 4 := (nI_leI (by omega) (by omega)).mp c_18
            exact absurd c_18 (by decide)
          · skip
            have c_18 : ¬ (6 ≤ 4) := fun h => c_18 ((nI_leI (by omega) (by omega)).mpr h)
            refine lv_aload_n S0.1 S0.2.1 dMR_init_21 rfl (lv_at hl 1 rfl) ?_
            refine hw_get S0 hK hg f14_0 rfl inMR 0 (by decide) lf_MR_11 rfl rfl dMR_init_22 ?_
            refine lv_iload_n S0.1 S0.2.1 dMR_init_25 rfl (lv_at hl 0 rfl) ?_
            refine hw_new (fs := [.null, .int (nI 0)]) S0 hK hg hS hA0 (ci := 5) rfl inRo tyRo tokRo lc_MR_9 insRo iniRo dflRo (Nat.le_trans (Nat.le_of_ble_eq_true rfl) hR.2.2.1) (Nat.le_trans (Nat.le_of_ble_eq_true rfl) hR.2.2.2) dMR_init_26 (fun a6 H ha6 hg hS => ?_)
            have n_mo_a6 : mo ≠ a6 := h_nn f14_0 ha6
            have n_a2_a6 : a2 ≠ a6 := h_nn f14_1 ha6
            have n_b32_4_0_a6 : b32_4_0 ≠ a6 := h_nn f14_2 ha6
            have n_a3_a6 : a3 ≠ a6 := h_nn f14_3 ha6
            have n_b32_7_0_a6 : b32_7_0 ≠ a6 := h_nn f14_4 ha6
            have n_a4_a6 : a4 ≠ a6 := h_nn f14_5 ha6
            have n_b32_10_0_a6 : b32_10_0 ≠ a6 := h_nn f14_6 ha6
            have n_a5_a6 : a5 ≠ a6 := h_nn f14_7 ha6
            have n_b32_13_0_a6 : b32_13_0 ≠ a6 := h_nn f14_8 ha6
            have n_a1_a6 : a1 ≠ a6 := h_nn f14_9 ha6
            have z_a6 : g a6 = none := fr.nn ha6 (h_nm (Ne.symm n_mo_a6) h_n0)
            obtain ⟨g_15, eg_15⟩ : ∃ z, z = hs g_14 a6 (.inr (5, [.null, .int (nI 0)])) := ⟨_, rfl⟩
            have hg : hw D hC AX g_15 H := by rw [eg_15]; exact hg
            have f15_0 : g_15 mo = some (.inr (7, [.ref a1, .null, .null, .null, .null, .null, .null])) := by rw [eg_15, hs_n _ _ n_mo_a6]; exact f14_0
            have f15_1 : g_15 a2 = some (.inr (5, [.ref b32_4_0, .int (nI 0)])) := by rw [eg_15, hs_n _ _ n_a2_a6]; exact f14_1
            have f15_2 : g_15 b32_4_0 = some (.inl (cI, 60, .inl (fun _ => 0))) := by rw [eg_15, hs_n _ _ n_b32_4_0_a6]; exact f14_2
            have f15_3 : g_15 a3 = some (.inr (5, [.ref b32_7_0, .int (nI 0)])) := by rw [eg_15, hs_n _ _ n_a3_a6]; exact f14_3
            have f15_4 : g_15 b32_7_0 = some (.inl (cI, 60, .inl (fun _ => 0))) := by rw [eg_15, hs_n _ _ n_b32_7_0_a6]; exact f14_4
            have f15_5 : g_15 a4 = some (.inr (5, [.ref b32_10_0, .int (nI 0)])) := by rw [eg_15, hs_n _ _ n_a4_a6]; exact f14_5
            have f15_6 : g_15 b32_10_0 = some (.inl (cI, 60, .inl (fun _ => 0))) := by rw [eg_15, hs_n _ _ n_b32_10_0_a6]; exact f14_6
            have f15_7 : g_15 a5 = some (.inr (5, [.ref b32_13_0, .int (nI 0)])) := by rw [eg_15, hs_n _ _ n_a5_a6]; exact f14_7
            have f15_8 : g_15 b32_13_0 = some (.inl (cI, 60, .inl (fun _ => 0))) := by rw [eg_15, hs_n _ _ n_b32_13_0_a6]; exact f14_8
            have f15_9 : g_15 a1 = some (.inl (cR, 6, .inr (.inr (.inr (.inr (va_up (va_up (va_up (va_up (fun _ => none) 0 (some a2)) 1 (some a3)) 2 (some a4)) 3 (some a5))))))) := by rw [eg_15, hs_n _ _ n_a1_a6]; exact f14_9
            have f15_10 : g_15 a6 = some (.inr (5, [.null, .int (nI 0)])) := by rw [eg_15]; exact hs_s _ _ _
            have fr := fr.putN eg_15 z_a6
            refine lv_dup S0.1 S0.2.1 dMR_init_29 rfl ?_
            refine lv_bipush (v := nI 60) S0.1 S0.2.1 dMR_init_30 (by decide) ?_
            refine hw_I (As := [.int (nI 60)]) (rest := [.ref a6, .int (nI 4), .ref a1]) S0 hK hg hS hA0 (c_Ro_init l D cI cR cJ g_15 _ a6 60 (by omega) f15_10) kRo_init lm_MR_15 (hR.call rfl) rfl hl.1 rfl (Nat.le_of_ble_eq_true rfl) dMR_init_32 (hR.new (by decide) (by decide)) (fun g_16 H locs hp_32 hg hS => ?_)
            obtain ⟨b32_16_0, z32_16_0, frn32_16, s32_16, y32_16_0⟩ := hp_32
            have n_mo_b32_16_0 : mo ≠ b32_16_0 := h_nn f15_0 z32_16_0
            have n_a2_b32_16_0 : a2 ≠ b32_16_0 := h_nn f15_1 z32_16_0
            have n_b32_4_0_b32_16_0 : b32_4_0 ≠ b32_16_0 := h_nn f15_2 z32_16_0
            have n_a3_b32_16_0 : a3 ≠ b32_16_0 := h_nn f15_3 z32_16_0
            have n_b32_7_0_b32_16_0 : b32_7_0 ≠ b32_16_0 := h_nn f15_4 z32_16_0
            have n_a4_b32_16_0 : a4 ≠ b32_16_0 := h_nn f15_5 z32_16_0
            have n_b32_10_0_b32_16_0 : b32_10_0 ≠ b32_16_0 := h_nn f15_6 z32_16_0
            have n_a5_b32_16_0 : a5 ≠ b32_16_0 := h_nn f15_7 z32_16_0
            have n_b32_13_0_b32_16_0 : b32_13_0 ≠ b32_16_0 := h_nn f15_8 z32_16_0
            have n_a1_b32_16_0 : a1 ≠ b32_16_0 := h_nn f15_9 z32_16_0
            have n_a6_b32_16_0 : a6 ≠ b32_16_0 := h_nn f15_10 z32_16_0
            have k16_0 := frn32_16.at (h_nm n_mo_a6 h_n0) f15_0
            have k16_1 := frn32_16.at (h_nm n_a2_a6 h_n0) f15_1
            have k16_2 := frn32_16.at (h_nm n_b32_4_0_a6 h_n0) f15_2
            have k16_3 := frn32_16.at (h_nm n_a3_a6 h_n0) f15_3
            have k16_4 := frn32_16.at (h_nm n_b32_7_0_a6 h_n0) f15_4
            have k16_5 := frn32_16.at (h_nm n_a4_a6 h_n0) f15_5
            have k16_6 := frn32_16.at (h_nm n_b32_10_0_a6 h_n0) f15_6
            have k16_7 := frn32_16.at (h_nm n_a5_a6 h_n0) f15_7
            have k16_8 := frn32_16.at (h_nm n_b32_13_0_a6 h_n0) f15_8
            have k16_9 := frn32_16.at (h_nm n_a1_a6 h_n0) f15_9
            have z_b32_16_0 : g b32_16_0 = none := fr.nn z32_16_0 (h_nm (Ne.symm n_mo_b32_16_0) h_n0)
            have fr := fr.call frn32_16 (fun z hz => by rcases List.mem_singleton.mp hz with rfl; exact Or.inr z_a6)
            refine hw_aast S0 hK hg hS k16_9 1 rfl s32_16 rfl (by omega) (by omega) dMR_init_35 (fun H locs hg hS => ?_)
            obtain ⟨g_17, eg_17⟩ : ∃ z, z = hs g_16 a1 (.inl (cR, 6, .inr (.inr (.inr (.inr (va_up (va_up (va_up (va_up (va_up (fun _ => none) 0 (some a2)) 1 (some a3)) 2 (some a4)) 3 (some a5)) 4 (some a6))))))) := ⟨_, rfl⟩
            have hg : hw D hC AX g_17 H := by rw [eg_17]; exact hg
            have f17_0 : g_17 mo = some (.inr (7, [.ref a1, .null, .null, .null, .null, .null, .null])) := by rw [eg_17, hs_n _ _ n_mo_a1]; exact k16_0
            have f17_1 : g_17 a2 = some (.inr (5, [.ref b32_4_0, .int (nI 0)])) := by rw [eg_17, hs_n _ _ (Ne.symm n_a1_a2)]; exact k16_1
            have f17_2 : g_17 b32_4_0 = some (.inl (cI, 60, .inl (fun _ => 0))) := by rw [eg_17, hs_n _ _ (Ne.symm n_a1_b32_4_0)]; exact k16_2
            have f17_3 : g_17 a3 = some (.inr (5, [.ref b32_7_0, .int (nI 0)])) := by rw [eg_17, hs_n _ _ (Ne.symm n_a1_a3)]; exact k16_3
            have f17_4 : g_17 b32_7_0 = some (.inl (cI, 60, .inl (fun _ => 0))) := by rw [eg_17, hs_n _ _ (Ne.symm n_a1_b32_7_0)]; exact k16_4
            have f17_5 : g_17 a4 = some (.inr (5, [.ref b32_10_0, .int (nI 0)])) := by rw [eg_17, hs_n _ _ (Ne.symm n_a1_a4)]; exact k16_5
            have f17_6 : g_17 b32_10_0 = some (.inl (cI, 60, .inl (fun _ => 0))) := by rw [eg_17, hs_n _ _ (Ne.symm n_a1_b32_10_0)]; exact k16_6
            have f17_7 : g_17 a5 = some (.inr (5, [.ref b32_13_0, .int (nI 0)])) := by rw [eg_17, hs_n _ _ (Ne.symm n_a1_a5)]; exact k16_7
            have f17_8 : g_17 b32_13_0 = some (.inl (cI, 60, .inl (fun _ => 0))) := by rw [eg_17, hs_n _ _ (Ne.symm n_a1_b32_13_0)]; exact k16_8
            have f17_9 : g_17 a6 = some (.inr (5, [.ref b32_16_0, .int (nI 0)])) := by rw [eg_17, hs_n _ _ (Ne.symm n_a1_a6)]; exact s32_16
            have f17_10 : g_17 b32_16_0 = some (.inl (cI, 60, .inl (fun _ => 0))) := by rw [eg_17, hs_n _ _ (Ne.symm n_a1_b32_16_0)]; exact y32_16_0
            have f17_11 : g_17 a1 = some (.inl (cR, 6, .inr (.inr (.inr (.inr (va_up (va_up (va_up (va_up (va_up (fun _ => none) 0 (some a2)) 1 (some a3)) 2 (some a4)) 3 (some a5)) 4 (some a6))))))) := by rw [eg_17]; exact hs_s _ _ _
            have fr := fr.putN eg_17 z_a1
            refine lv_iinc (v := nI 5) (lv' := [(1, .int (nI 5)), (0, .ref mo)]) S0.1 S0.2.1 dMR_init_36 hl (k := 0) rfl (by exact nI_add _ 1) (by decide) rfl (fun ls hl => ?_)
            refine lv_goto (tgt := 15) S0.1 S0.2.1 dMR_init_39 (by decide) ?_
            refine lv_iload_n S0.1 S0.2.1 dMR_init_15 rfl (lv_at hl 0 rfl) ?_
            refine lv_bipush (v := nI 6) S0.1 S0.2.1 dMR_init_16 (by decide) ?_
            refine lv_icmp_ge (tgt := 42) S0.1 S0.2.1 dMR_init_18 (by decide) (fun c_18 => ?_) (fun c_18 => ?_)
            · skip
              have c_18 : 6 ≤ 5 := (nI_leI (by omega) (by omega)).mp c_18
              exact absurd c_18 (by decide)
            · skip
              have c_18 : ¬ (6 ≤ 5) := fun h => c_18 ((nI_leI (by omega) (by omega)).mpr h)
              refine lv_aload_n S0.1 S0.2.1 dMR_init_21 rfl (lv_at hl 1 rfl) ?_
              refine hw_get S0 hK hg f17_0 rfl inMR 0 (by decide) lf_MR_11 rfl rfl dMR_init_22 ?_
              refine lv_iload_n S0.1 S0.2.1 dMR_init_25 rfl (lv_at hl 0 rfl) ?_
              refine hw_new (fs := [.null, .int (nI 0)]) S0 hK hg hS hA0 (ci := 5) rfl inRo tyRo tokRo lc_MR_9 insRo iniRo dflRo (Nat.le_trans (Nat.le_of_ble_eq_true rfl) hR.2.2.1) (Nat.le_trans (Nat.le_of_ble_eq_true rfl) hR.2.2.2) dMR_init_26 (fun a7 H ha7 hg hS => ?_)
              have n_mo_a7 : mo ≠ a7 := h_nn f17_0 ha7
              have n_a2_a7 : a2 ≠ a7 := h_nn f17_1 ha7
              have n_b32_4_0_a7 : b32_4_0 ≠ a7 := h_nn f17_2 ha7
              have n_a3_a7 : a3 ≠ a7 := h_nn f17_3 ha7
              have n_b32_7_0_a7 : b32_7_0 ≠ a7 := h_nn f17_4 ha7
              have n_a4_a7 : a4 ≠ a7 := h_nn f17_5 ha7
              have n_b32_10_0_a7 : b32_10_0 ≠ a7 := h_nn f17_6 ha7
              have n_a5_a7 : a5 ≠ a7 := h_nn f17_7 ha7
              have n_b32_13_0_a7 : b32_13_0 ≠ a7 := h_nn f17_8 ha7
              have n_a6_a7 : a6 ≠ a7 := h_nn f17_9 ha7
              have n_b32_16_0_a7 : b32_16_0 ≠ a7 := h_nn f17_10 ha7
              have n_a1_a7 : a1 ≠ a7 := h_nn f17_11 ha7
              have z_a7 : g a7 = none := fr.nn ha7 (h_nm (Ne.symm n_mo_a7) h_n0)
              obtain ⟨g_18, eg_18⟩ : ∃ z, z = hs g_17 a7 (.inr (5, [.null, .int (nI 0)])) := ⟨_, rfl⟩
              have hg : hw D hC AX g_18 H := by rw [eg_18]; exact hg
              have f18_0 : g_18 mo = some (.inr (7, [.ref a1, .null, .null, .null, .null, .null, .null])) := by rw [eg_18, hs_n _ _ n_mo_a7]; exact f17_0
              have f18_1 : g_18 a2 = some (.inr (5, [.ref b32_4_0, .int (nI 0)])) := by rw [eg_18, hs_n _ _ n_a2_a7]; exact f17_1
              have f18_2 : g_18 b32_4_0 = some (.inl (cI, 60, .inl (fun _ => 0))) := by rw [eg_18, hs_n _ _ n_b32_4_0_a7]; exact f17_2
              have f18_3 : g_18 a3 = some (.inr (5, [.ref b32_7_0, .int (nI 0)])) := by rw [eg_18, hs_n _ _ n_a3_a7]; exact f17_3
              have f18_4 : g_18 b32_7_0 = some (.inl (cI, 60, .inl (fun _ => 0))) := by rw [eg_18, hs_n _ _ n_b32_7_0_a7]; exact f17_4
              have f18_5 : g_18 a4 = some (.inr (5, [.ref b32_10_0, .int (nI 0)])) := by rw [eg_18, hs_n _ _ n_a4_a7]; exact f17_5
              have f18_6 : g_18 b32_10_0 = some (.inl (cI, 60, .inl (fun _ => 0))) := by rw [eg_18, hs_n _ _ n_b32_10_0_a7]; exact f17_6
              have f18_7 : g_18 a5 = some (.inr (5, [.ref b32_13_0, .int (nI 0)])) := by rw [eg_18, hs_n _ _ n_a5_a7]; exact f17_7
              have f18_8 : g_18 b32_13_0 = some (.inl (cI, 60, .inl (fun _ => 0))) := by rw [eg_18, hs_n _ _ n_b32_13_0_a7]; exact f17_8
              have f18_9 : g_18 a6 = some (.inr (5, [.ref b32_16_0, .int (nI 0)])) := by rw [eg_18, hs_n _ _ n_a6_a7]; exact f17_9
              have f18_10 : g_18 b32_16_0 = some (.inl (cI, 60, .inl (fun _ => 0))) := by rw [eg_18, hs_n _ _ n_b32_16_0_a7]; exact f17_10
              have f18_11 : g_18 a1 = some (.inl (cR, 6, .inr (.inr (.inr (.inr (va_up (va_up (va_up (va_up (va_up (fun _ => none) 0 (some a2)) 1 (some a3)) 2 (some a4)) 3 (some a5)) 4 (some a6))))))) := by rw [eg_18, hs_n _ _ n_a1_a7]; exact f17_11
              have f18_12 : g_18 a7 = some (.inr (5, [.null, .int (nI 0)])) := by rw [eg_18]; exact hs_s _ _ _
              have fr := fr.putN eg_18 z_a7
              refine lv_dup S0.1 S0.2.1 dMR_init_29 rfl ?_
              refine lv_bipush (v := nI 60) S0.1 S0.2.1 dMR_init_30 (by decide) ?_
              refine hw_I (As := [.int (nI 60)]) (rest := [.ref a7, .int (nI 5), .ref a1]) S0 hK hg hS hA0 (c_Ro_init l D cI cR cJ g_18 _ a7 60 (by omega) f18_12) kRo_init lm_MR_15 (hR.call rfl) rfl hl.1 rfl (Nat.le_of_ble_eq_true rfl) dMR_init_32 (hR.new (by decide) (by decide)) (fun g_19 H locs hp_32 hg hS => ?_)
              obtain ⟨b32_19_0, z32_19_0, frn32_19, s32_19, y32_19_0⟩ := hp_32
              have n_mo_b32_19_0 : mo ≠ b32_19_0 := h_nn f18_0 z32_19_0
              have n_a2_b32_19_0 : a2 ≠ b32_19_0 := h_nn f18_1 z32_19_0
              have n_b32_4_0_b32_19_0 : b32_4_0 ≠ b32_19_0 := h_nn f18_2 z32_19_0
              have n_a3_b32_19_0 : a3 ≠ b32_19_0 := h_nn f18_3 z32_19_0
              have n_b32_7_0_b32_19_0 : b32_7_0 ≠ b32_19_0 := h_nn f18_4 z32_19_0
              have n_a4_b32_19_0 : a4 ≠ b32_19_0 := h_nn f18_5 z32_19_0
              have n_b32_10_0_b32_19_0 : b32_10_0 ≠ b32_19_0 := h_nn f18_6 z32_19_0
              have n_a5_b32_19_0 : a5 ≠ b32_19_0 := h_nn f18_7 z32_19_0
              have n_b32_13_0_b32_19_0 : b32_13_0 ≠ b32_19_0 := h_nn f18_8 z32_19_0
              have n_a6_b32_19_0 : a6 ≠ b32_19_0 := h_nn f18_9 z32_19_0
              have n_b32_16_0_b32_19_0 : b32_16_0 ≠ b32_19_0 := h_nn f18_10 z32_19_0
              have n_a1_b32_19_0 : a1 ≠ b32_19_0 := h_nn f18_11 z32_19_0
              have n_a7_b32_19_0 : a7 ≠ b32_19_0 := h_nn f18_12 z32_19_0
              have k19_0 := frn32_19.at (h_nm n_mo_a7 h_n0) f18_0
              have k19_1 := frn32_19.at (h_nm n_a2_a7 h_n0) f18_1
              have k19_2 := frn32_19.at (h_nm n_b32_4_0_a7 h_n0) f18_2
              have k19_3 := frn32_19.at (h_nm n_a3_a7 h_n0) f18_3
              have k19_4 := frn32_19.at (h_nm n_b32_7_0_a7 h_n0) f18_4
              have k19_5 := frn32_19.at (h_nm n_a4_a7 h_n0) f18_5
              have k19_6 := frn32_19.at (h_nm n_b32_10_0_a7 h_n0) f18_6
              have k19_7 := frn32_19.at (h_nm n_a5_a7 h_n0) f18_7
              have k19_8 := frn32_19.at (h_nm n_b32_13_0_a7 h_n0) f18_8
              have k19_9 := frn32_19.at (h_nm n_a6_a7 h_n0) f18_9
              have k19_10 := frn32_19.at (h_nm n_b32_16_0_a7 h_n0) f18_10
              have k19_11 := frn32_19.at (h_nm n_a1_a7 h_n0) f18_11
              have z_b32_19_0 : g b32_19_0 = none := fr.nn z32_19_0 (h_nm (Ne.symm n_mo_b32_19_0) h_n0)
              have fr := fr.call frn32_19 (fun z hz => by rcases List.mem_singleton.mp hz with rfl; exact Or.inr z_a7)
              refine hw_aast S0 hK hg hS k19_11 1 rfl s32_19 rfl (by omega) (by omega) dMR_init_35 (fun H locs hg hS => ?_)
              obtain ⟨g_20, eg_20⟩ : ∃ z, z = hs g_19 a1 (.inl (cR, 6, .inr (.inr (.inr (.inr (va_up (va_up (va_up (va_up (va_up (va_up (fun _ => none) 0 (some a2)) 1 (some a3)) 2 (some a4)) 3 (some a5)) 4 (some a6)) 5 (some a7))))))) := ⟨_, rfl⟩
              have hg : hw D hC AX g_20 H := by rw [eg_20]; exact hg
              have f20_0 : g_20 mo = some (.inr (7, [.ref a1, .null, .null, .null, .null, .null, .null])) := by rw [eg_20, hs_n _ _ n_mo_a1]; exact k19_0
              have f20_1 : g_20 a2 = some (.inr (5, [.ref b32_4_0, .int (nI 0)])) := by rw [eg_20, hs_n _ _ (Ne.symm n_a1_a2)]; exact k19_1
              have f20_2 : g_20 b32_4_0 = some (.inl (cI, 60, .inl (fun _ => 0))) := by rw [eg_20, hs_n _ _ (Ne.symm n_a1_b32_4_0)]; exact k19_2
              have f20_3 : g_20 a3 = some (.inr (5, [.ref b32_7_0, .int (nI 0)])) := by rw [eg_20, hs_n _ _ (Ne.symm n_a1_a3)]; exact k19_3
              have f20_4 : g_20 b32_7_0 = some (.inl (cI, 60, .inl (fun _ => 0))) := by rw [eg_20, hs_n _ _ (Ne.symm n_a1_b32_7_0)]; exact k19_4
              have f20_5 : g_20 a4 = some (.inr (5, [.ref b32_10_0, .int (nI 0)])) := by rw [eg_20, hs_n _ _ (Ne.symm n_a1_a4)]; exact k19_5
              have f20_6 : g_20 b32_10_0 = some (.inl (cI, 60, .inl (fun _ => 0))) := by rw [eg_20, hs_n _ _ (Ne.symm n_a1_b32_10_0)]; exact k19_6
              have f20_7 : g_20 a5 = some (.inr (5, [.ref b32_13_0, .int (nI 0)])) := by rw [eg_20, hs_n _ _ (Ne.symm n_a1_a5)]; exact k19_7
              have f20_8 : g_20 b32_13_0 = some (.inl (cI, 60, .inl (fun _ => 0))) := by rw [eg_20, hs_n _ _ (Ne.symm n_a1_b32_13_0)]; exact k19_8
              have f20_9 : g_20 a6 = some (.inr (5, [.ref b32_16_0, .int (nI 0)])) := by rw [eg_20, hs_n _ _ (Ne.symm n_a1_a6)]; exact k19_9
              have f20_10 : g_20 b32_16_0 = some (.inl (cI, 60, .inl (fun _ => 0))) := by rw [eg_20, hs_n _ _ (Ne.symm n_a1_b32_16_0)]; exact k19_10
              have f20_11 : g_20 a7 = some (.inr (5, [.ref b32_19_0, .int (nI 0)])) := by rw [eg_20, hs_n _ _ (Ne.symm n_a1_a7)]; exact s32_19
              have f20_12 : g_20 b32_19_0 = some (.inl (cI, 60, .inl (fun _ => 0))) := by rw [eg_20, hs_n _ _ (Ne.symm n_a1_b32_19_0)]; exact y32_19_0
              have f20_13 : g_20 a1 = some (.inl (cR, 6, .inr (.inr (.inr (.inr (va_up (va_up (va_up (va_up (va_up (va_up (fun _ => none) 0 (some a2)) 1 (some a3)) 2 (some a4)) 3 (some a5)) 4 (some a6)) 5 (some a7))))))) := by rw [eg_20]; exact hs_s _ _ _
              have fr := fr.putN eg_20 z_a1
              refine lv_iinc (v := nI 6) (lv' := [(1, .int (nI 6)), (0, .ref mo)]) S0.1 S0.2.1 dMR_init_36 hl (k := 0) rfl (by exact nI_add _ 1) (by decide) rfl (fun ls hl => ?_)
              refine lv_goto (tgt := 15) S0.1 S0.2.1 dMR_init_39 (by decide) ?_
              refine lv_iload_n S0.1 S0.2.1 dMR_init_15 rfl (lv_at hl 0 rfl) ?_
              refine lv_bipush (v := nI 6) S0.1 S0.2.1 dMR_init_16 (by decide) ?_
              refine lv_icmp_ge (tgt := 42) S0.1 S0.2.1 dMR_init_18 (by decide) (fun c_18 => ?_) (fun c_18 => ?_)
              · skip
                have c_18 : 6 ≤ 6 := (nI_leI (by omega) (by omega)).mp c_18
                refine lv_sipush (v := nI 3721) S0.1 S0.2.1 dMR_init_42 (by decide) ?_
                refine hw_newa (ty := .int) (a0 := (3721, .inl (fun _ => 0))) S0 hK hg hS hA0 rfl wI_arr 0 rfl (fun C h => by cases h) (fun _ => rfl) (by omega) (by show 3721 * 4 ≤ 536870912; omega) (Nat.le_trans (Nat.le_of_ble_eq_true rfl) hR.2.2.1) (Nat.le_trans (Nat.le_of_ble_eq_true rfl) hR.2.2.2) dMR_init_45 (fun a8 H ha8 hg hS => ?_)
                have n_mo_a8 : mo ≠ a8 := h_nn f20_0 ha8
                have n_a2_a8 : a2 ≠ a8 := h_nn f20_1 ha8
                have n_b32_4_0_a8 : b32_4_0 ≠ a8 := h_nn f20_2 ha8
                have n_a3_a8 : a3 ≠ a8 := h_nn f20_3 ha8
                have n_b32_7_0_a8 : b32_7_0 ≠ a8 := h_nn f20_4 ha8
                have n_a4_a8 : a4 ≠ a8 := h_nn f20_5 ha8
                have n_b32_10_0_a8 : b32_10_0 ≠ a8 := h_nn f20_6 ha8
                have n_a5_a8 : a5 ≠ a8 := h_nn f20_7 ha8
                have n_b32_13_0_a8 : b32_13_0 ≠ a8 := h_nn f20_8 ha8
                have n_a6_a8 : a6 ≠ a8 := h_nn f20_9 ha8
                have n_b32_16_0_a8 : b32_16_0 ≠ a8 := h_nn f20_10 ha8
                have n_a7_a8 : a7 ≠ a8 := h_nn f20_11 ha8
                have n_b32_19_0_a8 : b32_19_0 ≠ a8 := h_nn f20_12 ha8
                have n_a1_a8 : a1 ≠ a8 := h_nn f20_13 ha8
                have z_a8 : g a8 = none := fr.nn ha8 (h_nm (Ne.symm n_mo_a8) h_n0)
                obtain ⟨g_21, eg_21⟩ : ∃ z, z = hs g_20 a8 (.inl (cI, 3721, .inl (fun _ => 0))) := ⟨_, rfl⟩
                have hg : hw D hC AX g_21 H := by rw [eg_21]; exact hg
                have f21_0 : g_21 mo = some (.inr (7, [.ref a1, .null, .null, .null, .null, .null, .null])) := by rw [eg_21, hs_n _ _ n_mo_a8]; exact f20_0
                have f21_1 : g_21 a2 = some (.inr (5, [.ref b32_4_0, .int (nI 0)])) := by rw [eg_21, hs_n _ _ n_a2_a8]; exact f20_1
                have f21_2 : g_21 b32_4_0 = some (.inl (cI, 60, .inl (fun _ => 0))) := by rw [eg_21, hs_n _ _ n_b32_4_0_a8]; exact f20_2
                have f21_3 : g_21 a3 = some (.inr (5, [.ref b32_7_0, .int (nI 0)])) := by rw [eg_21, hs_n _ _ n_a3_a8]; exact f20_3
                have f21_4 : g_21 b32_7_0 = some (.inl (cI, 60, .inl (fun _ => 0))) := by rw [eg_21, hs_n _ _ n_b32_7_0_a8]; exact f20_4
                have f21_5 : g_21 a4 = some (.inr (5, [.ref b32_10_0, .int (nI 0)])) := by rw [eg_21, hs_n _ _ n_a4_a8]; exact f20_5
                have f21_6 : g_21 b32_10_0 = some (.inl (cI, 60, .inl (fun _ => 0))) := by rw [eg_21, hs_n _ _ n_b32_10_0_a8]; exact f20_6
                have f21_7 : g_21 a5 = some (.inr (5, [.ref b32_13_0, .int (nI 0)])) := by rw [eg_21, hs_n _ _ n_a5_a8]; exact f20_7
                have f21_8 : g_21 b32_13_0 = some (.inl (cI, 60, .inl (fun _ => 0))) := by rw [eg_21, hs_n _ _ n_b32_13_0_a8]; exact f20_8
                have f21_9 : g_21 a6 = some (.inr (5, [.ref b32_16_0, .int (nI 0)])) := by rw [eg_21, hs_n _ _ n_a6_a8]; exact f20_9
                have f21_10 : g_21 b32_16_0 = some (.inl (cI, 60, .inl (fun _ => 0))) := by rw [eg_21, hs_n _ _ n_b32_16_0_a8]; exact f20_10
                have f21_11 : g_21 a7 = some (.inr (5, [.ref b32_19_0, .int (nI 0)])) := by rw [eg_21, hs_n _ _ n_a7_a8]; exact f20_11
                have f21_12 : g_21 b32_19_0 = some (.inl (cI, 60, .inl (fun _ => 0))) := by rw [eg_21, hs_n _ _ n_b32_19_0_a8]; exact f20_12
                have f21_13 : g_21 a1 = some (.inl (cR, 6, .inr (.inr (.inr (.inr (va_up (va_up (va_up (va_up (va_up (va_up (fun _ => none) 0 (some a2)) 1 (some a3)) 2 (some a4)) 3 (some a5)) 4 (some a6)) 5 (some a7))))))) := by rw [eg_21, hs_n _ _ n_a1_a8]; exact f20_13
                have f21_14 : g_21 a8 = some (.inl (cI, 3721, .inl (fun _ => 0))) := by rw [eg_21]; exact hs_s _ _ _
                have fr := fr.putN eg_21 z_a8
                refine lv_astore_n (lv' := [(1, .ref a8), (0, .ref mo)]) S0.1 S0.2.1 dMR_init_47 rfl hl (by decide) rfl (fun ls hl => ?_)
                refine hw_new (fs := [.null, .null, .int (nI 0), .null]) S0 hK hg hS hA0 (ci := 0) rfl inCo tyCo tokCo lc_MR_18 insCo iniCo dflCo (Nat.le_trans (Nat.le_of_ble_eq_true rfl) hR.2.2.1) (Nat.le_trans (Nat.le_of_ble_eq_true rfl) hR.2.2.2) dMR_init_48 (fun a9 H ha9 hg hS => ?_)
                have n_mo_a9 : mo ≠ a9 := h_nn f21_0 ha9
                have n_a2_a9 : a2 ≠ a9 := h_nn f21_1 ha9
                have n_b32_4_0_a9 : b32_4_0 ≠ a9 := h_nn f21_2 ha9
                have n_a3_a9 : a3 ≠ a9 := h_nn f21_3 ha9
                have n_b32_7_0_a9 : b32_7_0 ≠ a9 := h_nn f21_4 ha9
                have n_a4_a9 : a4 ≠ a9 := h_nn f21_5 ha9
                have n_b32_10_0_a9 : b32_10_0 ≠ a9 := h_nn f21_6 ha9
                have n_a5_a9 : a5 ≠ a9 := h_nn f21_7 ha9
                have n_b32_13_0_a9 : b32_13_0 ≠ a9 := h_nn f21_8 ha9
                have n_a6_a9 : a6 ≠ a9 := h_nn f21_9 ha9
                have n_b32_16_0_a9 : b32_16_0 ≠ a9 := h_nn f21_10 ha9
                have n_a7_a9 : a7 ≠ a9 := h_nn f21_11 ha9
                have n_b32_19_0_a9 : b32_19_0 ≠ a9 := h_nn f21_12 ha9
                have n_a1_a9 : a1 ≠ a9 := h_nn f21_13 ha9
                have n_a8_a9 : a8 ≠ a9 := h_nn f21_14 ha9
                have z_a9 : g a9 = none := fr.nn ha9 (h_nm (Ne.symm n_mo_a9) h_n0)
                obtain ⟨g_22, eg_22⟩ : ∃ z, z = hs g_21 a9 (.inr (0, [.null, .null, .int (nI 0), .null])) := ⟨_, rfl⟩
                have hg : hw D hC AX g_22 H := by rw [eg_22]; exact hg
                have f22_0 : g_22 mo = some (.inr (7, [.ref a1, .null, .null, .null, .null, .null, .null])) := by rw [eg_22, hs_n _ _ n_mo_a9]; exact f21_0
                have f22_1 : g_22 a2 = some (.inr (5, [.ref b32_4_0, .int (nI 0)])) := by rw [eg_22, hs_n _ _ n_a2_a9]; exact f21_1
                have f22_2 : g_22 b32_4_0 = some (.inl (cI, 60, .inl (fun _ => 0))) := by rw [eg_22, hs_n _ _ n_b32_4_0_a9]; exact f21_2
                have f22_3 : g_22 a3 = some (.inr (5, [.ref b32_7_0, .int (nI 0)])) := by rw [eg_22, hs_n _ _ n_a3_a9]; exact f21_3
                have f22_4 : g_22 b32_7_0 = some (.inl (cI, 60, .inl (fun _ => 0))) := by rw [eg_22, hs_n _ _ n_b32_7_0_a9]; exact f21_4
                have f22_5 : g_22 a4 = some (.inr (5, [.ref b32_10_0, .int (nI 0)])) := by rw [eg_22, hs_n _ _ n_a4_a9]; exact f21_5
                have f22_6 : g_22 b32_10_0 = some (.inl (cI, 60, .inl (fun _ => 0))) := by rw [eg_22, hs_n _ _ n_b32_10_0_a9]; exact f21_6
                have f22_7 : g_22 a5 = some (.inr (5, [.ref b32_13_0, .int (nI 0)])) := by rw [eg_22, hs_n _ _ n_a5_a9]; exact f21_7
                have f22_8 : g_22 b32_13_0 = some (.inl (cI, 60, .inl (fun _ => 0))) := by rw [eg_22, hs_n _ _ n_b32_13_0_a9]; exact f21_8
                have f22_9 : g_22 a6 = some (.inr (5, [.ref b32_16_0, .int (nI 0)])) := by rw [eg_22, hs_n _ _ n_a6_a9]; exact f21_9
                have f22_10 : g_22 b32_16_0 = some (.inl (cI, 60, .inl (fun _ => 0))) := by rw [eg_22, hs_n _ _ n_b32_16_0_a9]; exact f21_10
                have f22_11 : g_22 a7 = some (.inr (5, [.ref b32_19_0, .int (nI 0)])) := by rw [eg_22, hs_n _ _ n_a7_a9]; exact f21_11
                have f22_12 : g_22 b32_19_0 = some (.inl (cI, 60, .inl (fun _ => 0))) := by rw [eg_22, hs_n _ _ n_b32_19_0_a9]; exact f21_12
                have f22_13 : g_22 a1 = some (.inl (cR, 6, .inr (.inr (.inr (.inr (va_up (va_up (va_up (va_up (va_up (va_up (fun _ => none) 0 (some a2)) 1 (some a3)) 2 (some a4)) 3 (some a5)) 4 (some a6)) 5 (some a7))))))) := by rw [eg_22, hs_n _ _ n_a1_a9]; exact f21_13
                have f22_14 : g_22 a8 = some (.inl (cI, 3721, .inl (fun _ => 0))) := by rw [eg_22, hs_n _ _ n_a8_a9]; exact f21_14
                have f22_15 : g_22 a9 = some (.inr (0, [.null, .null, .int (nI 0), .null])) := by rw [eg_22]; exact hs_s _ _ _
                have fr := fr.putN eg_22 z_a9
                refine lv_dup S0.1 S0.2.1 dMR_init_51 rfl ?_
                refine lv_aload_n S0.1 S0.2.1 dMR_init_52 rfl (lv_at hl 0 rfl) ?_
                refine hw_I (As := [.ref a8]) (rest := [.ref a9]) S0 hK hg hS hA0 (c_Co_init l D cI cR cJ g_22 _ a9 a8 f22_15) kCo_init lm_MR_20 (hR.call rfl) rfl hl.1 rfl (Nat.le_of_ble_eq_true rfl) dMR_init_53 (hR.new (by decide) (by decide)) (fun g_23 H locs hp_53 hg hS => ?_)
                obtain ⟨b53_23_0, b53_23_1, z53_23_0, z53_23_1, frn53_23, s53_23, y53_23_0, y53_23_1, w53_23_0⟩ := hp_53
                have n_mo_b53_23_0 : mo ≠ b53_23_0 := h_nn f22_0 z53_23_0
                have n_a2_b53_23_0 : a2 ≠ b53_23_0 := h_nn f22_1 z53_23_0
                have n_b32_4_0_b53_23_0 : b32_4_0 ≠ b53_23_0 := h_nn f22_2 z53_23_0
                have n_a3_b53_23_0 : a3 ≠ b53_23_0 := h_nn f22_3 z53_23_0
                have n_b32_7_0_b53_23_0 : b32_7_0 ≠ b53_23_0 := h_nn f22_4 z53_23_0
                have n_a4_b53_23_0 : a4 ≠ b53_23_0 := h_nn f22_5 z53_23_0
                have n_b32_10_0_b53_23_0 : b32_10_0 ≠ b53_23_0 := h_nn f22_6 z53_23_0
                have n_a5_b53_23_0 : a5 ≠ b53_23_0 := h_nn f22_7 z53_23_0
                have n_b32_13_0_b53_23_0 : b32_13_0 ≠ b53_23_0 := h_nn f22_8 z53_23_0
                have n_a6_b53_23_0 : a6 ≠ b53_23_0 := h_nn f22_9 z53_23_0
                have n_b32_16_0_b53_23_0 : b32_16_0 ≠ b53_23_0 := h_nn f22_10 z53_23_0
                have n_a7_b53_23_0 : a7 ≠ b53_23_0 := h_nn f22_11 z53_23_0
                have n_b32_19_0_b53_23_0 : b32_19_0 ≠ b53_23_0 := h_nn f22_12 z53_23_0
                have n_a1_b53_23_0 : a1 ≠ b53_23_0 := h_nn f22_13 z53_23_0
                have n_a8_b53_23_0 : a8 ≠ b53_23_0 := h_nn f22_14 z53_23_0
                have n_a9_b53_23_0 : a9 ≠ b53_23_0 := h_nn f22_15 z53_23_0
                have n_mo_b53_23_1 : mo ≠ b53_23_1 := h_nn f22_0 z53_23_1
                have n_a2_b53_23_1 : a2 ≠ b53_23_1 := h_nn f22_1 z53_23_1
                have n_b32_4_0_b53_23_1 : b32_4_0 ≠ b53_23_1 := h_nn f22_2 z53_23_1
                have n_a3_b53_23_1 : a3 ≠ b53_23_1 := h_nn f22_3 z53_23_1
                have n_b32_7_0_b53_23_1 : b32_7_0 ≠ b53_23_1 := h_nn f22_4 z53_23_1
                have n_a4_b53_23_1 : a4 ≠ b53_23_1 := h_nn f22_5 z53_23_1
                have n_b32_10_0_b53_23_1 : b32_10_0 ≠ b53_23_1 := h_nn f22_6 z53_23_1
                have n_a5_b53_23_1 : a5 ≠ b53_23_1 := h_nn f22_7 z53_23_1
                have n_b32_13_0_b53_23_1 : b32_13_0 ≠ b53_23_1 := h_nn f22_8 z53_23_1
                have n_a6_b53_23_1 : a6 ≠ b53_23_1 := h_nn f22_9 z53_23_1
                have n_b32_16_0_b53_23_1 : b32_16_0 ≠ b53_23_1 := h_nn f22_10 z53_23_1
                have n_a7_b53_23_1 : a7 ≠ b53_23_1 := h_nn f22_11 z53_23_1
                have n_b32_19_0_b53_23_1 : b32_19_0 ≠ b53_23_1 := h_nn f22_12 z53_23_1
                have n_a1_b53_23_1 : a1 ≠ b53_23_1 := h_nn f22_13 z53_23_1
                have n_a8_b53_23_1 : a8 ≠ b53_23_1 := h_nn f22_14 z53_23_1
                have n_a9_b53_23_1 : a9 ≠ b53_23_1 := h_nn f22_15 z53_23_1
                have k23_0 := frn53_23.at (h_nm n_mo_a9 h_n0) f22_0
                have k23_1 := frn53_23.at (h_nm n_a2_a9 h_n0) f22_1
                have k23_2 := frn53_23.at (h_nm n_b32_4_0_a9 h_n0) f22_2
                have k23_3 := frn53_23.at (h_nm n_a3_a9 h_n0) f22_3
                have k23_4 := frn53_23.at (h_nm n_b32_7_0_a9 h_n0) f22_4
                have k23_5 := frn53_23.at (h_nm n_a4_a9 h_n0) f22_5
                have k23_6 := frn53_23.at (h_nm n_b32_10_0_a9 h_n0) f22_6
                have k23_7 := frn53_23.at (h_nm n_a5_a9 h_n0) f22_7
                have k23_8 := frn53_23.at (h_nm n_b32_13_0_a9 h_n0) f22_8
                have k23_9 := frn53_23.at (h_nm n_a6_a9 h_n0) f22_9
                have k23_10 := frn53_23.at (h_nm n_b32_16_0_a9 h_n0) f22_10
                have k23_11 := frn53_23.at (h_nm n_a7_a9 h_n0) f22_11
                have k23_12 := frn53_23.at (h_nm n_b32_19_0_a9 h_n0) f22_12
                have k23_13 := frn53_23.at (h_nm n_a1_a9 h_n0) f22_13
                have k23_14 := frn53_23.at (h_nm n_a8_a9 h_n0) f22_14
                have z_b53_23_0 : g b53_23_0 = none := fr.nn z53_23_0 (h_nm (Ne.symm n_mo_b53_23_0) h_n0)
                have z_b53_23_1 : g b53_23_1 = none := fr.nn z53_23_1 (h_nm (Ne.symm n_mo_b53_23_1) h_n0)
                have fr := fr.call frn53_23 (fun z hz => by rcases List.mem_singleton.mp hz with rfl; exact Or.inr z_a9)
                refine lv_astore_n (lv' := [(2, .ref a9), (1, .ref a8), (0, .ref mo)]) S0.1 S0.2.1 dMR_init_56 rfl hl (by decide) rfl (fun ls hl => ?_)
                refine hw_new (fs := [.null, .null, .int (nI 0), .null]) S0 hK hg hS hA0 (ci := 0) rfl inCo tyCo tokCo lc_MR_18 insCo iniCo dflCo (Nat.le_trans (Nat.le_of_ble_eq_true rfl) hR.2.2.1) (Nat.le_trans (Nat.le_of_ble_eq_true rfl) hR.2.2.2) dMR_init_57 (fun a10 H ha10 hg hS => ?_)
                have n_mo_a10 : mo ≠ a10 := h_nn k23_0 ha10
                have n_a2_a10 : a2 ≠ a10 := h_nn k23_1 ha10
                have n_b32_4_0_a10 : b32_4_0 ≠ a10 := h_nn k23_2 ha10
                have n_a3_a10 : a3 ≠ a10 := h_nn k23_3 ha10
                have n_b32_7_0_a10 : b32_7_0 ≠ a10 := h_nn k23_4 ha10
                have n_a4_a10 : a4 ≠ a10 := h_nn k23_5 ha10
                have n_b32_10_0_a10 : b32_10_0 ≠ a10 := h_nn k23_6 ha10
                have n_a5_a10 : a5 ≠ a10 := h_nn k23_7 ha10
                have n_b32_13_0_a10 : b32_13_0 ≠ a10 := h_nn k23_8 ha10
                have n_a6_a10 : a6 ≠ a10 := h_nn k23_9 ha10
                have n_b32_16_0_a10 : b32_16_0 ≠ a10 := h_nn k23_10 ha10
                have n_a7_a10 : a7 ≠ a10 := h_nn k23_11 ha10
                have n_b32_19_0_a10 : b32_19_0 ≠ a10 := h_nn k23_12 ha10
                have n_a1_a10 : a1 ≠ a10 := h_nn k23_13 ha10
                have n_a8_a10 : a8 ≠ a10 := h_nn k23_14 ha10
                have n_a9_a10 : a9 ≠ a10 := h_nn s53_23 ha10
                have n_b53_23_0_a10 : b53_23_0 ≠ a10 := h_nn y53_23_0 ha10
                have n_b53_23_1_a10 : b53_23_1 ≠ a10 := h_nn y53_23_1 ha10
                have z_a10 : g a10 = none := fr.nn ha10 (h_nm (Ne.symm n_mo_a10) h_n0)
                obtain ⟨g_24, eg_24⟩ : ∃ z, z = hs g_23 a10 (.inr (0, [.null, .null, .int (nI 0), .null])) := ⟨_, rfl⟩
                have hg : hw D hC AX g_24 H := by rw [eg_24]; exact hg
                have f24_0 : g_24 mo = some (.inr (7, [.ref a1, .null, .null, .null, .null, .null, .null])) := by rw [eg_24, hs_n _ _ n_mo_a10]; exact k23_0
                have f24_1 : g_24 a2 = some (.inr (5, [.ref b32_4_0, .int (nI 0)])) := by rw [eg_24, hs_n _ _ n_a2_a10]; exact k23_1
                have f24_2 : g_24 b32_4_0 = some (.inl (cI, 60, .inl (fun _ => 0))) := by rw [eg_24, hs_n _ _ n_b32_4_0_a10]; exact k23_2
                have f24_3 : g_24 a3 = some (.inr (5, [.ref b32_7_0, .int (nI 0)])) := by rw [eg_24, hs_n _ _ n_a3_a10]; exact k23_3
                have f24_4 : g_24 b32_7_0 = some (.inl (cI, 60, .inl (fun _ => 0))) := by rw [eg_24, hs_n _ _ n_b32_7_0_a10]; exact k23_4
                have f24_5 : g_24 a4 = some (.inr (5, [.ref b32_10_0, .int (nI 0)])) := by rw [eg_24, hs_n _ _ n_a4_a10]; exact k23_5
                have f24_6 : g_24 b32_10_0 = some (.inl (cI, 60, .inl (fun _ => 0))) := by rw [eg_24, hs_n _ _ n_b32_10_0_a10]; exact k23_6
                have f24_7 : g_24 a5 = some (.inr (5, [.ref b32_13_0, .int (nI 0)])) := by rw [eg_24, hs_n _ _ n_a5_a10]; exact k23_7
                have f24_8 : g_24 b32_13_0 = some (.inl (cI, 60, .inl (fun _ => 0))) := by rw [eg_24, hs_n _ _ n_b32_13_0_a10]; exact k23_8
                have f24_9 : g_24 a6 = some (.inr (5, [.ref b32_16_0, .int (nI 0)])) := by rw [eg_24, hs_n _ _ n_a6_a10]; exact k23_9
                have f24_10 : g_24 b32_16_0 = some (.inl (cI, 60, .inl (fun _ => 0))) := by rw [eg_24, hs_n _ _ n_b32_16_0_a10]; exact k23_10
                have f24_11 : g_24 a7 = some (.inr (5, [.ref b32_19_0, .int (nI 0)])) := by rw [eg_24, hs_n _ _ n_a7_a10]; exact k23_11
                have f24_12 : g_24 b32_19_0 = some (.inl (cI, 60, .inl (fun _ => 0))) := by rw [eg_24, hs_n _ _ n_b32_19_0_a10]; exact k23_12
                have f24_13 : g_24 a1 = some (.inl (cR, 6, .inr (.inr (.inr (.inr (va_up (va_up (va_up (va_up (va_up (va_up (fun _ => none) 0 (some a2)) 1 (some a3)) 2 (some a4)) 3 (some a5)) 4 (some a6)) 5 (some a7))))))) := by rw [eg_24, hs_n _ _ n_a1_a10]; exact k23_13
                have f24_14 : g_24 a8 = some (.inl (cI, 3721, .inl (fun _ => 0))) := by rw [eg_24, hs_n _ _ n_a8_a10]; exact k23_14
                have f24_15 : g_24 a9 = some (.inr (0, [.ref b53_23_0, .ref b53_23_1, .int (nI 0), .ref a8])) := by rw [eg_24, hs_n _ _ n_a9_a10]; exact s53_23
                have f24_16 : g_24 b53_23_0 = some (.inl (cI, 60, .inl (fun _ => 0))) := by rw [eg_24, hs_n _ _ n_b53_23_0_a10]; exact y53_23_0
                have f24_17 : g_24 b53_23_1 = some (.inl (cI, 60, .inl (fun _ => 0))) := by rw [eg_24, hs_n _ _ n_b53_23_1_a10]; exact y53_23_1
                have f24_18 : g_24 a10 = some (.inr (0, [.null, .null, .int (nI 0), .null])) := by rw [eg_24]; exact hs_s _ _ _
                have fr := fr.putN eg_24 z_a10
                refine lv_dup S0.1 S0.2.1 dMR_init_60 rfl ?_
                refine lv_aload_n S0.1 S0.2.1 dMR_init_61 rfl (lv_at hl 1 rfl) ?_
                refine hw_I (As := [.ref a8]) (rest := [.ref a10]) S0 hK hg hS hA0 (c_Co_init l D cI cR cJ g_24 _ a10 a8 f24_18) kCo_init lm_MR_20 (hR.call rfl) rfl hl.1 rfl (Nat.le_of_ble_eq_true rfl) dMR_init_62 (hR.new (by decide) (by decide)) (fun g_25 H locs hp_62 hg hS => ?_)
                obtain ⟨b62_25_0, b62_25_1, z62_25_0, z62_25_1, frn62_25, s62_25, y62_25_0, y62_25_1, w62_25_0⟩ := hp_62
                have n_mo_b62_25_0 : mo ≠ b62_25_0 := h_nn f24_0 z62_25_0
                have n_a2_b62_25_0 : a2 ≠ b62_25_0 := h_nn f24_1 z62_25_0
                have n_b32_4_0_b62_25_0 : b32_4_0 ≠ b62_25_0 := h_nn f24_2 z62_25_0
                have n_a3_b62_25_0 : a3 ≠ b62_25_0 := h_nn f24_3 z62_25_0
                have n_b32_7_0_b62_25_0 : b32_7_0 ≠ b62_25_0 := h_nn f24_4 z62_25_0
                have n_a4_b62_25_0 : a4 ≠ b62_25_0 := h_nn f24_5 z62_25_0
                have n_b32_10_0_b62_25_0 : b32_10_0 ≠ b62_25_0 := h_nn f24_6 z62_25_0
                have n_a5_b62_25_0 : a5 ≠ b62_25_0 := h_nn f24_7 z62_25_0
                have n_b32_13_0_b62_25_0 : b32_13_0 ≠ b62_25_0 := h_nn f24_8 z62_25_0
                have n_a6_b62_25_0 : a6 ≠ b62_25_0 := h_nn f24_9 z62_25_0
                have n_b32_16_0_b62_25_0 : b32_16_0 ≠ b62_25_0 := h_nn f24_10 z62_25_0
                have n_a7_b62_25_0 : a7 ≠ b62_25_0 := h_nn f24_11 z62_25_0
                have n_b32_19_0_b62_25_0 : b32_19_0 ≠ b62_25_0 := h_nn f24_12 z62_25_0
                have n_a1_b62_25_0 : a1 ≠ b62_25_0 := h_nn f24_13 z62_25_0
                have n_a8_b62_25_0 : a8 ≠ b62_25_0 := h_nn f24_14 z62_25_0
                have n_a9_b62_25_0 : a9 ≠ b62_25_0 := h_nn f24_15 z62_25_0
                have n_b53_23_0_b62_25_0 : b53_23_0 ≠ b62_25_0 := h_nn f24_16 z62_25_0
                have n_b53_23_1_b62_25_0 : b53_23_1 ≠ b62_25_0 := h_nn f24_17 z62_25_0
                have n_a10_b62_25_0 : a10 ≠ b62_25_0 := h_nn f24_18 z62_25_0
                have n_mo_b62_25_1 : mo ≠ b62_25_1 := h_nn f24_0 z62_25_1
                have n_a2_b62_25_1 : a2 ≠ b62_25_1 := h_nn f24_1 z62_25_1
                have n_b32_4_0_b62_25_1 : b32_4_0 ≠ b62_25_1 := h_nn f24_2 z62_25_1
                have n_a3_b62_25_1 : a3 ≠ b62_25_1 := h_nn f24_3 z62_25_1
                have n_b32_7_0_b62_25_1 : b32_7_0 ≠ b62_25_1 := h_nn f24_4 z62_25_1
                have n_a4_b62_25_1 : a4 ≠ b62_25_1 := h_nn f24_5 z62_25_1
                have n_b32_10_0_b62_25_1 : b32_10_0 ≠ b62_25_1 := h_nn f24_6 z62_25_1
                have n_a5_b62_25_1 : a5 ≠ b62_25_1 := h_nn f24_7 z62_25_1
                have n_b32_13_0_b62_25_1 : b32_13_0 ≠ b62_25_1 := h_nn f24_8 z62_25_1
                have n_a6_b62_25_1 : a6 ≠ b62_25_1 := h_nn f24_9 z62_25_1
                have n_b32_16_0_b62_25_1 : b32_16_0 ≠ b62_25_1 := h_nn f24_10 z62_25_1
                have n_a7_b62_25_1 : a7 ≠ b62_25_1 := h_nn f24_11 z62_25_1
                have n_b32_19_0_b62_25_1 : b32_19_0 ≠ b62_25_1 := h_nn f24_12 z62_25_1
                have n_a1_b62_25_1 : a1 ≠ b62_25_1 := h_nn f24_13 z62_25_1
                have n_a8_b62_25_1 : a8 ≠ b62_25_1 := h_nn f24_14 z62_25_1
                have n_a9_b62_25_1 : a9 ≠ b62_25_1 := h_nn f24_15 z62_25_1
                have n_b53_23_0_b62_25_1 : b53_23_0 ≠ b62_25_1 := h_nn f24_16 z62_25_1
                have n_b53_23_1_b62_25_1 : b53_23_1 ≠ b62_25_1 := h_nn f24_17 z62_25_1
                have n_a10_b62_25_1 : a10 ≠ b62_25_1 := h_nn f24_18 z62_25_1
                have k25_0 := frn62_25.at (h_nm n_mo_a10 h_n0) f24_0
                have k25_1 := frn62_25.at (h_nm n_a2_a10 h_n0) f24_1
                have k25_2 := frn62_25.at (h_nm n_b32_4_0_a10 h_n0) f24_2
                have k25_3 := frn62_25.at (h_nm n_a3_a10 h_n0) f24_3
                have k25_4 := frn62_25.at (h_nm n_b32_7_0_a10 h_n0) f24_4
                have k25_5 := frn62_25.at (h_nm n_a4_a10 h_n0) f24_5
                have k25_6 := frn62_25.at (h_nm n_b32_10_0_a10 h_n0) f24_6
                have k25_7 := frn62_25.at (h_nm n_a5_a10 h_n0) f24_7
                have k25_8 := frn62_25.at (h_nm n_b32_13_0_a10 h_n0) f24_8
                have k25_9 := frn62_25.at (h_nm n_a6_a10 h_n0) f24_9
                have k25_10 := frn62_25.at (h_nm n_b32_16_0_a10 h_n0) f24_10
                have k25_11 := frn62_25.at (h_nm n_a7_a10 h_n0) f24_11
                have k25_12 := frn62_25.at (h_nm n_b32_19_0_a10 h_n0) f24_12
                have k25_13 := frn62_25.at (h_nm n_a1_a10 h_n0) f24_13
                have k25_14 := frn62_25.at (h_nm n_a8_a10 h_n0) f24_14
                have k25_15 := frn62_25.at (h_nm n_a9_a10 h_n0) f24_15
                have k25_16 := frn62_25.at (h_nm n_b53_23_0_a10 h_n0) f24_16
                have k25_17 := frn62_25.at (h_nm n_b53_23_1_a10 h_n0) f24_17
                have z_b62_25_0 : g b62_25_0 = none := fr.nn z62_25_0 (h_nm (Ne.symm n_mo_b62_25_0) h_n0)
                have z_b62_25_1 : g b62_25_1 = none := fr.nn z62_25_1 (h_nm (Ne.symm n_mo_b62_25_1) h_n0)
                have fr := fr.call frn62_25 (fun z hz => by rcases List.mem_singleton.mp hz with rfl; exact Or.inr z_a10)
                refine lv_astore_n (lv' := [(3, .ref a10), (2, .ref a9), (1, .ref a8), (0, .ref mo)]) S0.1 S0.2.1 dMR_init_65 rfl hl (by decide) rfl (fun ls hl => ?_)
                refine lv_aload_n S0.1 S0.2.1 dMR_init_66 rfl (lv_at hl 3 rfl) ?_
                refine hw_new (fs := [.null, .null, .int (nI 0), .null]) S0 hK hg hS hA0 (ci := 0) rfl inCo tyCo tokCo lc_MR_18 insCo iniCo dflCo (Nat.le_trans (Nat.le_of_ble_eq_true rfl) hR.2.2.1) (Nat.le_trans (Nat.le_of_ble_eq_true rfl) hR.2.2.2) dMR_init_67 (fun a11 H ha11 hg hS => ?_)
                have n_mo_a11 : mo ≠ a11 := h_nn k25_0 ha11
                have n_a2_a11 : a2 ≠ a11 := h_nn k25_1 ha11
                have n_b32_4_0_a11 : b32_4_0 ≠ a11 := h_nn k25_2 ha11
                have n_a3_a11 : a3 ≠ a11 := h_nn k25_3 ha11
                have n_b32_7_0_a11 : b32_7_0 ≠ a11 := h_nn k25_4 ha11
                have n_a4_a11 : a4 ≠ a11 := h_nn k25_5 ha11
                have n_b32_10_0_a11 : b32_10_0 ≠ a11 := h_nn k25_6 ha11
                have n_a5_a11 : a5 ≠ a11 := h_nn k25_7 ha11
                have n_b32_13_0_a11 : b32_13_0 ≠ a11 := h_nn k25_8 ha11
                have n_a6_a11 : a6 ≠ a11 := h_nn k25_9 ha11
                have n_b32_16_0_a11 : b32_16_0 ≠ a11 := h_nn k25_10 ha11
                have n_a7_a11 : a7 ≠ a11 := h_nn k25_11 ha11
                have n_b32_19_0_a11 : b32_19_0 ≠ a11 := h_nn k25_12 ha11
                have n_a1_a11 : a1 ≠ a11 := h_nn k25_13 ha11
                have n_a8_a11 : a8 ≠ a11 := h_nn k25_14 ha11
                have n_a9_a11 : a9 ≠ a11 := h_nn k25_15 ha11
                have n_b53_23_0_a11 : b53_23_0 ≠ a11 := h_nn k25_16 ha11
                have n_b53_23_1_a11 : b53_23_1 ≠ a11 := h_nn k25_17 ha11
                have n_a10_a11 : a10 ≠ a11 := h_nn s62_25 ha11
                have n_b62_25_0_a11 : b62_25_0 ≠ a11 := h_nn y62_25_0 ha11
                have n_b62_25_1_a11 : b62_25_1 ≠ a11 := h_nn y62_25_1 ha11
                have z_a11 : g a11 = none := fr.nn ha11 (h_nm (Ne.symm n_mo_a11) h_n0)
                obtain ⟨g_26, eg_26⟩ : ∃ z, z = hs g_25 a11 (.inr (0, [.null, .null, .int (nI 0), .null])) := ⟨_, rfl⟩
                have hg : hw D hC AX g_26 H := by rw [eg_26]; exact hg
                have f26_0 : g_26 mo = some (.inr (7, [.ref a1, .null, .null, .null, .null, .null, .null])) := by rw [eg_26, hs_n _ _ n_mo_a11]; exact k25_0
                have f26_1 : g_26 a2 = some (.inr (5, [.ref b32_4_0, .int (nI 0)])) := by rw [eg_26, hs_n _ _ n_a2_a11]; exact k25_1
                have f26_2 : g_26 b32_4_0 = some (.inl (cI, 60, .inl (fun _ => 0))) := by rw [eg_26, hs_n _ _ n_b32_4_0_a11]; exact k25_2
                have f26_3 : g_26 a3 = some (.inr (5, [.ref b32_7_0, .int (nI 0)])) := by rw [eg_26, hs_n _ _ n_a3_a11]; exact k25_3
                have f26_4 : g_26 b32_7_0 = some (.inl (cI, 60, .inl (fun _ => 0))) := by rw [eg_26, hs_n _ _ n_b32_7_0_a11]; exact k25_4
                have f26_5 : g_26 a4 = some (.inr (5, [.ref b32_10_0, .int (nI 0)])) := by rw [eg_26, hs_n _ _ n_a4_a11]; exact k25_5
                have f26_6 : g_26 b32_10_0 = some (.inl (cI, 60, .inl (fun _ => 0))) := by rw [eg_26, hs_n _ _ n_b32_10_0_a11]; exact k25_6
                have f26_7 : g_26 a5 = some (.inr (5, [.ref b32_13_0, .int (nI 0)])) := by rw [eg_26, hs_n _ _ n_a5_a11]; exact k25_7
                have f26_8 : g_26 b32_13_0 = some (.inl (cI, 60, .inl (fun _ => 0))) := by rw [eg_26, hs_n _ _ n_b32_13_0_a11]; exact k25_8
                have f26_9 : g_26 a6 = some (.inr (5, [.ref b32_16_0, .int (nI 0)])) := by rw [eg_26, hs_n _ _ n_a6_a11]; exact k25_9
                have f26_10 : g_26 b32_16_0 = some (.inl (cI, 60, .inl (fun _ => 0))) := by rw [eg_26, hs_n _ _ n_b32_16_0_a11]; exact k25_10
                have f26_11 : g_26 a7 = some (.inr (5, [.ref b32_19_0, .int (nI 0)])) := by rw [eg_26, hs_n _ _ n_a7_a11]; exact k25_11
                have f26_12 : g_26 b32_19_0 = some (.inl (cI, 60, .inl (fun _ => 0))) := by rw [eg_26, hs_n _ _ n_b32_19_0_a11]; exact k25_12
                have f26_13 : g_26 a1 = some (.inl (cR, 6, .inr (.inr (.inr (.inr (va_up (va_up (va_up (va_up (va_up (va_up (fun _ => none) 0 (some a2)) 1 (some a3)) 2 (some a4)) 3 (some a5)) 4 (some a6)) 5 (some a7))))))) := by rw [eg_26, hs_n _ _ n_a1_a11]; exact k25_13
                have f26_14 : g_26 a8 = some (.inl (cI, 3721, .inl (fun _ => 0))) := by rw [eg_26, hs_n _ _ n_a8_a11]; exact k25_14
                have f26_15 : g_26 a9 = some (.inr (0, [.ref b53_23_0, .ref b53_23_1, .int (nI 0), .ref a8])) := by rw [eg_26, hs_n _ _ n_a9_a11]; exact k25_15
                have f26_16 : g_26 b53_23_0 = some (.inl (cI, 60, .inl (fun _ => 0))) := by rw [eg_26, hs_n _ _ n_b53_23_0_a11]; exact k25_16
                have f26_17 : g_26 b53_23_1 = some (.inl (cI, 60, .inl (fun _ => 0))) := by rw [eg_26, hs_n _ _ n_b53_23_1_a11]; exact k25_17
                have f26_18 : g_26 a10 = some (.inr (0, [.ref b62_25_0, .ref b62_25_1, .int (nI 0), .ref a8])) := by rw [eg_26, hs_n _ _ n_a10_a11]; exact s62_25
                have f26_19 : g_26 b62_25_0 = some (.inl (cI, 60, .inl (fun _ => 0))) := by rw [eg_26, hs_n _ _ n_b62_25_0_a11]; exact y62_25_0
                have f26_20 : g_26 b62_25_1 = some (.inl (cI, 60, .inl (fun _ => 0))) := by rw [eg_26, hs_n _ _ n_b62_25_1_a11]; exact y62_25_1
                have f26_21 : g_26 a11 = some (.inr (0, [.null, .null, .int (nI 0), .null])) := by rw [eg_26]; exact hs_s _ _ _
                have fr := fr.putN eg_26 z_a11
                refine lv_dup S0.1 S0.2.1 dMR_init_70 rfl ?_
                refine lv_aload_n S0.1 S0.2.1 dMR_init_71 rfl (lv_at hl 2 rfl) ?_
                refine hw_I (As := [.ref a8]) (rest := [.ref a11, .ref mo]) S0 hK hg hS hA0 (c_Co_init l D cI cR cJ g_26 _ a11 a8 f26_21) kCo_init lm_MR_20 (hR.call rfl) rfl hl.1 rfl (Nat.le_of_ble_eq_true rfl) dMR_init_72 (hR.new (by decide) (by decide)) (fun g_27 H locs hp_72 hg hS => ?_)
                obtain ⟨b72_27_0, b72_27_1, z72_27_0, z72_27_1, frn72_27, s72_27, y72_27_0, y72_27_1, w72_27_0⟩ := hp_72
                have n_mo_b72_27_0 : mo ≠ b72_27_0 := h_nn f26_0 z72_27_0
                have n_a2_b72_27_0 : a2 ≠ b72_27_0 := h_nn f26_1 z72_27_0
                have n_b32_4_0_b72_27_0 : b32_4_0 ≠ b72_27_0 := h_nn f26_2 z72_27_0
                have n_a3_b72_27_0 : a3 ≠ b72_27_0 := h_nn f26_3 z72_27_0
                have n_b32_7_0_b72_27_0 : b32_7_0 ≠ b72_27_0 := h_nn f26_4 z72_27_0
                have n_a4_b72_27_0 : a4 ≠ b72_27_0 := h_nn f26_5 z72_27_0
                have n_b32_10_0_b72_27_0 : b32_10_0 ≠ b72_27_0 := h_nn f26_6 z72_27_0
                have n_a5_b72_27_0 : a5 ≠ b72_27_0 := h_nn f26_7 z72_27_0
                have n_b32_13_0_b72_27_0 : b32_13_0 ≠ b72_27_0 := h_nn f26_8 z72_27_0
                have n_a6_b72_27_0 : a6 ≠ b72_27_0 := h_nn f26_9 z72_27_0
                have n_b32_16_0_b72_27_0 : b32_16_0 ≠ b72_27_0 := h_nn f26_10 z72_27_0
                have n_a7_b72_27_0 : a7 ≠ b72_27_0 := h_nn f26_11 z72_27_0
                have n_b32_19_0_b72_27_0 : b32_19_0 ≠ b72_27_0 := h_nn f26_12 z72_27_0
                have n_a1_b72_27_0 : a1 ≠ b72_27_0 := h_nn f26_13 z72_27_0
                have n_a8_b72_27_0 : a8 ≠ b72_27_0 := h_nn f26_14 z72_27_0
                have n_a9_b72_27_0 : a9 ≠ b72_27_0 := h_nn f26_15 z72_27_0
                have n_b53_23_0_b72_27_0 : b53_23_0 ≠ b72_27_0 := h_nn f26_16 z72_27_0
                have n_b53_23_1_b72_27_0 : b53_23_1 ≠ b72_27_0 := h_nn f26_17 z72_27_0
                have n_a10_b72_27_0 : a10 ≠ b72_27_0 := h_nn f26_18 z72_27_0
                have n_b62_25_0_b72_27_0 : b62_25_0 ≠ b72_27_0 := h_nn f26_19 z72_27_0
                have n_b62_25_1_b72_27_0 : b62_25_1 ≠ b72_27_0 := h_nn f26_20 z72_27_0
                have n_a11_b72_27_0 : a11 ≠ b72_27_0 := h_nn f26_21 z72_27_0
                have n_mo_b72_27_1 : mo ≠ b72_27_1 := h_nn f26_0 z72_27_1
                have n_a2_b72_27_1 : a2 ≠ b72_27_1 := h_nn f26_1 z72_27_1
                have n_b32_4_0_b72_27_1 : b32_4_0 ≠ b72_27_1 := h_nn f26_2 z72_27_1
                have n_a3_b72_27_1 : a3 ≠ b72_27_1 := h_nn f26_3 z72_27_1
                have n_b32_7_0_b72_27_1 : b32_7_0 ≠ b72_27_1 := h_nn f26_4 z72_27_1
                have n_a4_b72_27_1 : a4 ≠ b72_27_1 := h_nn f26_5 z72_27_1
                have n_b32_10_0_b72_27_1 : b32_10_0 ≠ b72_27_1 := h_nn f26_6 z72_27_1
                have n_a5_b72_27_1 : a5 ≠ b72_27_1 := h_nn f26_7 z72_27_1
                have n_b32_13_0_b72_27_1 : b32_13_0 ≠ b72_27_1 := h_nn f26_8 z72_27_1
                have n_a6_b72_27_1 : a6 ≠ b72_27_1 := h_nn f26_9 z72_27_1
                have n_b32_16_0_b72_27_1 : b32_16_0 ≠ b72_27_1 := h_nn f26_10 z72_27_1
                have n_a7_b72_27_1 : a7 ≠ b72_27_1 := h_nn f26_11 z72_27_1
                have n_b32_19_0_b72_27_1 : b32_19_0 ≠ b72_27_1 := h_nn f26_12 z72_27_1
                have n_a1_b72_27_1 : a1 ≠ b72_27_1 := h_nn f26_13 z72_27_1
                have n_a8_b72_27_1 : a8 ≠ b72_27_1 := h_nn f26_14 z72_27_1
                have n_a9_b72_27_1 : a9 ≠ b72_27_1 := h_nn f26_15 z72_27_1
                have n_b53_23_0_b72_27_1 : b53_23_0 ≠ b72_27_1 := h_nn f26_16 z72_27_1
                have n_b53_23_1_b72_27_1 : b53_23_1 ≠ b72_27_1 := h_nn f26_17 z72_27_1
                have n_a10_b72_27_1 : a10 ≠ b72_27_1 := h_nn f26_18 z72_27_1
                have n_b62_25_0_b72_27_1 : b62_25_0 ≠ b72_27_1 := h_nn f26_19 z72_27_1
                have n_b62_25_1_b72_27_1 : b62_25_1 ≠ b72_27_1 := h_nn f26_20 z72_27_1
                have n_a11_b72_27_1 : a11 ≠ b72_27_1 := h_nn f26_21 z72_27_1
                have k27_0 := frn72_27.at (h_nm n_mo_a11 h_n0) f26_0
                have k27_1 := frn72_27.at (h_nm n_a2_a11 h_n0) f26_1
                have k27_2 := frn72_27.at (h_nm n_b32_4_0_a11 h_n0) f26_2
                have k27_3 := frn72_27.at (h_nm n_a3_a11 h_n0) f26_3
                have k27_4 := frn72_27.at (h_nm n_b32_7_0_a11 h_n0) f26_4
                have k27_5 := frn72_27.at (h_nm n_a4_a11 h_n0) f26_5
                have k27_6 := frn72_27.at (h_nm n_b32_10_0_a11 h_n0) f26_6
                have k27_7 := frn72_27.at (h_nm n_a5_a11 h_n0) f26_7
                have k27_8 := frn72_27.at (h_nm n_b32_13_0_a11 h_n0) f26_8
                have k27_9 := frn72_27.at (h_nm n_a6_a11 h_n0) f26_9
                have k27_10 := frn72_27.at (h_nm n_b32_16_0_a11 h_n0) f26_10
                have k27_11 := frn72_27.at (h_nm n_a7_a11 h_n0) f26_11
                have k27_12 := frn72_27.at (h_nm n_b32_19_0_a11 h_n0) f26_12
                have k27_13 := frn72_27.at (h_nm n_a1_a11 h_n0) f26_13
                have k27_14 := frn72_27.at (h_nm n_a8_a11 h_n0) f26_14
                have k27_15 := frn72_27.at (h_nm n_a9_a11 h_n0) f26_15
                have k27_16 := frn72_27.at (h_nm n_b53_23_0_a11 h_n0) f26_16
                have k27_17 := frn72_27.at (h_nm n_b53_23_1_a11 h_n0) f26_17
                have k27_18 := frn72_27.at (h_nm n_a10_a11 h_n0) f26_18
                have k27_19 := frn72_27.at (h_nm n_b62_25_0_a11 h_n0) f26_19
                have k27_20 := frn72_27.at (h_nm n_b62_25_1_a11 h_n0) f26_20
                have z_b72_27_0 : g b72_27_0 = none := fr.nn z72_27_0 (h_nm (Ne.symm n_mo_b72_27_0) h_n0)
                have z_b72_27_1 : g b72_27_1 = none := fr.nn z72_27_1 (h_nm (Ne.symm n_mo_b72_27_1) h_n0)
                have fr := fr.call frn72_27 (fun z hz => by rcases List.mem_singleton.mp hz with rfl; exact Or.inr z_a11)
                refine hw_putF S0 hK hg hS k27_0 rfl inMR tyMR tokMR nmMR 1 (by decide) lf_MR_23 rfl rfl hnm rfl rfl rfl (Nat.le_of_ble_eq_true rfl) dMR_init_75 (fun H locs hg hS => ?_)
                obtain ⟨g_28, eg_28⟩ : ∃ z, z = hs g_27 mo (.inr (7, [.ref a1, .ref a11, .null, .null, .null, .null, .null])) := ⟨_, rfl⟩
                have hg : hw D hC AX g_28 H := by rw [eg_28]; exact hg
                have f28_0 : g_28 a2 = some (.inr (5, [.ref b32_4_0, .int (nI 0)])) := by rw [eg_28, hs_n _ _ (Ne.symm n_mo_a2)]; exact k27_1
                have f28_1 : g_28 b32_4_0 = some (.inl (cI, 60, .inl (fun _ => 0))) := by rw [eg_28, hs_n _ _ (Ne.symm n_mo_b32_4_0)]; exact k27_2
                have f28_2 : g_28 a3 = some (.inr (5, [.ref b32_7_0, .int (nI 0)])) := by rw [eg_28, hs_n _ _ (Ne.symm n_mo_a3)]; exact k27_3
                have f28_3 : g_28 b32_7_0 = some (.inl (cI, 60, .inl (fun _ => 0))) := by rw [eg_28, hs_n _ _ (Ne.symm n_mo_b32_7_0)]; exact k27_4
                have f28_4 : g_28 a4 = some (.inr (5, [.ref b32_10_0, .int (nI 0)])) := by rw [eg_28, hs_n _ _ (Ne.symm n_mo_a4)]; exact k27_5
                have f28_5 : g_28 b32_10_0 = some (.inl (cI, 60, .inl (fun _ => 0))) := by rw [eg_28, hs_n _ _ (Ne.symm n_mo_b32_10_0)]; exact k27_6
                have f28_6 : g_28 a5 = some (.inr (5, [.ref b32_13_0, .int (nI 0)])) := by rw [eg_28, hs_n _ _ (Ne.symm n_mo_a5)]; exact k27_7
                have f28_7 : g_28 b32_13_0 = some (.inl (cI, 60, .inl (fun _ => 0))) := by rw [eg_28, hs_n _ _ (Ne.symm n_mo_b32_13_0)]; exact k27_8
                have f28_8 : g_28 a6 = some (.inr (5, [.ref b32_16_0, .int (nI 0)])) := by rw [eg_28, hs_n _ _ (Ne.symm n_mo_a6)]; exact k27_9
                have f28_9 : g_28 b32_16_0 = some (.inl (cI, 60, .inl (fun _ => 0))) := by rw [eg_28, hs_n _ _ (Ne.symm n_mo_b32_16_0)]; exact k27_10
                have f28_10 : g_28 a7 = some (.inr (5, [.ref b32_19_0, .int (nI 0)])) := by rw [eg_28, hs_n _ _ (Ne.symm n_mo_a7)]; exact k27_11
                have f28_11 : g_28 b32_19_0 = some (.inl (cI, 60, .inl (fun _ => 0))) := by rw [eg_28, hs_n _ _ (Ne.symm n_mo_b32_19_0)]; exact k27_12
                have f28_12 : g_28 a1 = some (.inl (cR, 6, .inr (.inr (.inr (.inr (va_up (va_up (va_up (va_up (va_up (va_up (fun _ => none) 0 (some a2)) 1 (some a3)) 2 (some a4)) 3 (some a5)) 4 (some a6)) 5 (some a7))))))) := by rw [eg_28, hs_n _ _ (Ne.symm n_mo_a1)]; exact k27_13
                have f28_13 : g_28 a8 = some (.inl (cI, 3721, .inl (fun _ => 0))) := by rw [eg_28, hs_n _ _ (Ne.symm n_mo_a8)]; exact k27_14
                have f28_14 : g_28 a9 = some (.inr (0, [.ref b53_23_0, .ref b53_23_1, .int (nI 0), .ref a8])) := by rw [eg_28, hs_n _ _ (Ne.symm n_mo_a9)]; exact k27_15
                have f28_15 : g_28 b53_23_0 = some (.inl (cI, 60, .inl (fun _ => 0))) := by rw [eg_28, hs_n _ _ (Ne.symm n_mo_b53_23_0)]; exact k27_16
                have f28_16 : g_28 b53_23_1 = some (.inl (cI, 60, .inl (fun _ => 0))) := by rw [eg_28, hs_n _ _ (Ne.symm n_mo_b53_23_1)]; exact k27_17
                have f28_17 : g_28 a10 = some (.inr (0, [.ref b62_25_0, .ref b62_25_1, .int (nI 0), .ref a8])) := by rw [eg_28, hs_n _ _ (Ne.symm n_mo_a10)]; exact k27_18
                have f28_18 : g_28 b62_25_0 = some (.inl (cI, 60, .inl (fun _ => 0))) := by rw [eg_28, hs_n _ _ (Ne.symm n_mo_b62_25_0)]; exact k27_19
                have f28_19 : g_28 b62_25_1 = some (.inl (cI, 60, .inl (fun _ => 0))) := by rw [eg_28, hs_n _ _ (Ne.symm n_mo_b62_25_1)]; exact k27_20
                have f28_20 : g_28 a11 = some (.inr (0, [.ref b72_27_0, .ref b72_27_1, .int (nI 0), .ref a8])) := by rw [eg_28, hs_n _ _ (Ne.symm n_mo_a11)]; exact s72_27
                have f28_21 : g_28 b72_27_0 = some (.inl (cI, 60, .inl (fun _ => 0))) := by rw [eg_28, hs_n _ _ (Ne.symm n_mo_b72_27_0)]; exact y72_27_0
                have f28_22 : g_28 b72_27_1 = some (.inl (cI, 60, .inl (fun _ => 0))) := by rw [eg_28, hs_n _ _ (Ne.symm n_mo_b72_27_1)]; exact y72_27_1
                have f28_23 : g_28 mo = some (.inr (7, [.ref a1, .ref a11, .null, .null, .null, .null, .null])) := by rw [eg_28]; exact hs_s _ _ _
                have fr := fr.put eg_28 (by simp)
                refine lv_aload_n S0.1 S0.2.1 dMR_init_78 rfl (lv_at hl 3 rfl) ?_
                refine hw_new (fs := [.null, .int (nI 0), .null]) S0 hK hg hS hA0 (ci := 1) rfl inHu tyHu tokHu lc_MR_27 insHu iniHu dflHu (Nat.le_trans (Nat.le_of_ble_eq_true rfl) hR.2.2.1) (Nat.le_trans (Nat.le_of_ble_eq_true rfl) hR.2.2.2) dMR_init_79 (fun a12 H ha12 hg hS => ?_)
                have n_a2_a12 : a2 ≠ a12 := h_nn f28_0 ha12
                have n_b32_4_0_a12 : b32_4_0 ≠ a12 := h_nn f28_1 ha12
                have n_a3_a12 : a3 ≠ a12 := h_nn f28_2 ha12
                have n_b32_7_0_a12 : b32_7_0 ≠ a12 := h_nn f28_3 ha12
                have n_a4_a12 : a4 ≠ a12 := h_nn f28_4 ha12
                have n_b32_10_0_a12 : b32_10_0 ≠ a12 := h_nn f28_5 ha12
                have n_a5_a12 : a5 ≠ a12 := h_nn f28_6 ha12
                have n_b32_13_0_a12 : b32_13_0 ≠ a12 := h_nn f28_7 ha12
                have n_a6_a12 : a6 ≠ a12 := h_nn f28_8 ha12
                have n_b32_16_0_a12 : b32_16_0 ≠ a12 := h_nn f28_9 ha12
                have n_a7_a12 : a7 ≠ a12 := h_nn f28_10 ha12
                have n_b32_19_0_a12 : b32_19_0 ≠ a12 := h_nn f28_11 ha12
                have n_a1_a12 : a1 ≠ a12 := h_nn f28_12 ha12
                have n_a8_a12 : a8 ≠ a12 := h_nn f28_13 ha12
                have n_a9_a12 : a9 ≠ a12 := h_nn f28_14 ha12
                have n_b53_23_0_a12 : b53_23_0 ≠ a12 := h_nn f28_15 ha12
                have n_b53_23_1_a12 : b53_23_1 ≠ a12 := h_nn f28_16 ha12
                have n_a10_a12 : a10 ≠ a12 := h_nn f28_17 ha12
                have n_b62_25_0_a12 : b62_25_0 ≠ a12 := h_nn f28_18 ha12
                have n_b62_25_1_a12 : b62_25_1 ≠ a12 := h_nn f28_19 ha12
                have n_a11_a12 : a11 ≠ a12 := h_nn f28_20 ha12
                have n_b72_27_0_a12 : b72_27_0 ≠ a12 := h_nn f28_21 ha12
                have n_b72_27_1_a12 : b72_27_1 ≠ a12 := h_nn f28_22 ha12
                have n_mo_a12 : mo ≠ a12 := h_nn f28_23 ha12
                have z_a12 : g a12 = none := fr.nn ha12 (h_nm (Ne.symm n_mo_a12) h_n0)
                obtain ⟨g_29, eg_29⟩ : ∃ z, z = hs g_28 a12 (.inr (1, [.null, .int (nI 0), .null])) := ⟨_, rfl⟩
                have hg : hw D hC AX g_29 H := by rw [eg_29]; exact hg
                have f29_0 : g_29 a2 = some (.inr (5, [.ref b32_4_0, .int (nI 0)])) := by rw [eg_29, hs_n _ _ n_a2_a12]; exact f28_0
                have f29_1 : g_29 b32_4_0 = some (.inl (cI, 60, .inl (fun _ => 0))) := by rw [eg_29, hs_n _ _ n_b32_4_0_a12]; exact f28_1
                have f29_2 : g_29 a3 = some (.inr (5, [.ref b32_7_0, .int (nI 0)])) := by rw [eg_29, hs_n _ _ n_a3_a12]; exact f28_2
                have f29_3 : g_29 b32_7_0 = some (.inl (cI, 60, .inl (fun _ => 0))) := by rw [eg_29, hs_n _ _ n_b32_7_0_a12]; exact f28_3
                have f29_4 : g_29 a4 = some (.inr (5, [.ref b32_10_0, .int (nI 0)])) := by rw [eg_29, hs_n _ _ n_a4_a12]; exact f28_4
                have f29_5 : g_29 b32_10_0 = some (.inl (cI, 60, .inl (fun _ => 0))) := by rw [eg_29, hs_n _ _ n_b32_10_0_a12]; exact f28_5
                have f29_6 : g_29 a5 = some (.inr (5, [.ref b32_13_0, .int (nI 0)])) := by rw [eg_29, hs_n _ _ n_a5_a12]; exact f28_6
                have f29_7 : g_29 b32_13_0 = some (.inl (cI, 60, .inl (fun _ => 0))) := by rw [eg_29, hs_n _ _ n_b32_13_0_a12]; exact f28_7
                have f29_8 : g_29 a6 = some (.inr (5, [.ref b32_16_0, .int (nI 0)])) := by rw [eg_29, hs_n _ _ n_a6_a12]; exact f28_8
                have f29_9 : g_29 b32_16_0 = some (.inl (cI, 60, .inl (fun _ => 0))) := by rw [eg_29, hs_n _ _ n_b32_16_0_a12]; exact f28_9
                have f29_10 : g_29 a7 = some (.inr (5, [.ref b32_19_0, .int (nI 0)])) := by rw [eg_29, hs_n _ _ n_a7_a12]; exact f28_10
                have f29_11 : g_29 b32_19_0 = some (.inl (cI, 60, .inl (fun _ => 0))) := by rw [eg_29, hs_n _ _ n_b32_19_0_a12]; exact f28_11
                have f29_12 : g_29 a1 = some (.inl (cR, 6, .inr (.inr (.inr (.inr (va_up (va_up (va_up (va_up (va_up (va_up (fun _ => none) 0 (some a2)) 1 (some a3)) 2 (some a4)) 3 (some a5)) 4 (some a6)) 5 (some a7))))))) := by rw [eg_29, hs_n _ _ n_a1_a12]; exact f28_12
                have f29_13 : g_29 a8 = some (.inl (cI, 3721, .inl (fun _ => 0))) := by rw [eg_29, hs_n _ _ n_a8_a12]; exact f28_13
                have f29_14 : g_29 a9 = some (.inr (0, [.ref b53_23_0, .ref b53_23_1, .int (nI 0), .ref a8])) := by rw [eg_29, hs_n _ _ n_a9_a12]; exact f28_14
                have f29_15 : g_29 b53_23_0 = some (.inl (cI, 60, .inl (fun _ => 0))) := by rw [eg_29, hs_n _ _ n_b53_23_0_a12]; exact f28_15
                have f29_16 : g_29 b53_23_1 = some (.inl (cI, 60, .inl (fun _ => 0))) := by rw [eg_29, hs_n _ _ n_b53_23_1_a12]; exact f28_16
                have f29_17 : g_29 a10 = some (.inr (0, [.ref b62_25_0, .ref b62_25_1, .int (nI 0), .ref a8])) := by rw [eg_29, hs_n _ _ n_a10_a12]; exact f28_17
                have f29_18 : g_29 b62_25_0 = some (.inl (cI, 60, .inl (fun _ => 0))) := by rw [eg_29, hs_n _ _ n_b62_25_0_a12]; exact f28_18
                have f29_19 : g_29 b62_25_1 = some (.inl (cI, 60, .inl (fun _ => 0))) := by rw [eg_29, hs_n _ _ n_b62_25_1_a12]; exact f28_19
                have f29_20 : g_29 a11 = some (.inr (0, [.ref b72_27_0, .ref b72_27_1, .int (nI 0), .ref a8])) := by rw [eg_29, hs_n _ _ n_a11_a12]; exact f28_20
                have f29_21 : g_29 b72_27_0 = some (.inl (cI, 60, .inl (fun _ => 0))) := by rw [eg_29, hs_n _ _ n_b72_27_0_a12]; exact f28_21
                have f29_22 : g_29 b72_27_1 = some (.inl (cI, 60, .inl (fun _ => 0))) := by rw [eg_29, hs_n _ _ n_b72_27_1_a12]; exact f28_22
                have f29_23 : g_29 mo = some (.inr (7, [.ref a1, .ref a11, .null, .null, .null, .null, .null])) := by rw [eg_29, hs_n _ _ n_mo_a12]; exact f28_23
                have f29_24 : g_29 a12 = some (.inr (1, [.null, .int (nI 0), .null])) := by rw [eg_29]; exact hs_s _ _ _
                have fr := fr.putN eg_29 z_a12
                refine lv_dup S0.1 S0.2.1 dMR_init_82 rfl ?_
                refine lv_aload_n S0.1 S0.2.1 dMR_init_83 rfl (lv_at hl 1 rfl) ?_
                refine hw_I (As := [.ref a9]) (rest := [.ref a12, .ref mo]) S0 hK hg hS hA0 (c_Hu_init l D cI cR cJ g_29 _ a12 a9 f29_24) kHu_init lm_MR_29 (hR.call rfl) rfl hl.1 rfl (Nat.le_of_ble_eq_true rfl) dMR_init_84 (hR.new (by decide) (by decide)) (fun g_30 H locs hp_84 hg hS => ?_)
                obtain ⟨b84_30_0, z84_30_0, frn84_30, s84_30, y84_30_0⟩ := hp_84
                have n_a2_b84_30_0 : a2 ≠ b84_30_0 := h_nn f29_0 z84_30_0
                have n_b32_4_0_b84_30_0 : b32_4_0 ≠ b84_30_0 := h_nn f29_1 z84_30_0
                have n_a3_b84_30_0 : a3 ≠ b84_30_0 := h_nn f29_2 z84_30_0
                have n_b32_7_0_b84_30_0 : b32_7_0 ≠ b84_30_0 := h_nn f29_3 z84_30_0
                have n_a4_b84_30_0 : a4 ≠ b84_30_0 := h_nn f29_4 z84_30_0
                have n_b32_10_0_b84_30_0 : b32_10_0 ≠ b84_30_0 := h_nn f29_5 z84_30_0
                have n_a5_b84_30_0 : a5 ≠ b84_30_0 := h_nn f29_6 z84_30_0
                have n_b32_13_0_b84_30_0 : b32_13_0 ≠ b84_30_0 := h_nn f29_7 z84_30_0
                have n_a6_b84_30_0 : a6 ≠ b84_30_0 := h_nn f29_8 z84_30_0
                have n_b32_16_0_b84_30_0 : b32_16_0 ≠ b84_30_0 := h_nn f29_9 z84_30_0
                have n_a7_b84_30_0 : a7 ≠ b84_30_0 := h_nn f29_10 z84_30_0
                have n_b32_19_0_b84_30_0 : b32_19_0 ≠ b84_30_0 := h_nn f29_11 z84_30_0
                have n_a1_b84_30_0 : a1 ≠ b84_30_0 := h_nn f29_12 z84_30_0
                have n_a8_b84_30_0 : a8 ≠ b84_30_0 := h_nn f29_13 z84_30_0
                have n_a9_b84_30_0 : a9 ≠ b84_30_0 := h_nn f29_14 z84_30_0
                have n_b53_23_0_b84_30_0 : b53_23_0 ≠ b84_30_0 := h_nn f29_15 z84_30_0
                have n_b53_23_1_b84_30_0 : b53_23_1 ≠ b84_30_0 := h_nn f29_16 z84_30_0
                have n_a10_b84_30_0 : a10 ≠ b84_30_0 := h_nn f29_17 z84_30_0
                have n_b62_25_0_b84_30_0 : b62_25_0 ≠ b84_30_0 := h_nn f29_18 z84_30_0
                have n_b62_25_1_b84_30_0 : b62_25_1 ≠ b84_30_0 := h_nn f29_19 z84_30_0
                have n_a11_b84_30_0 : a11 ≠ b84_30_0 := h_nn f29_20 z84_30_0
                have n_b72_27_0_b84_30_0 : b72_27_0 ≠ b84_30_0 := h_nn f29_21 z84_30_0
                have n_b72_27_1_b84_30_0 : b72_27_1 ≠ b84_30_0 := h_nn f29_22 z84_30_0
                have n_mo_b84_30_0 : mo ≠ b84_30_0 := h_nn f29_23 z84_30_0
                have n_a12_b84_30_0 : a12 ≠ b84_30_0 := h_nn f29_24 z84_30_0
                have k30_0 := frn84_30.at (h_nm n_a2_a12 h_n0) f29_0
                have k30_1 := frn84_30.at (h_nm n_b32_4_0_a12 h_n0) f29_1
                have k30_2 := frn84_30.at (h_nm n_a3_a12 h_n0) f29_2
                have k30_3 := frn84_30.at (h_nm n_b32_7_0_a12 h_n0) f29_3
                have k30_4 := frn84_30.at (h_nm n_a4_a12 h_n0) f29_4
                have k30_5 := frn84_30.at (h_nm n_b32_10_0_a12 h_n0) f29_5
                have k30_6 := frn84_30.at (h_nm n_a5_a12 h_n0) f29_6
                have k30_7 := frn84_30.at (h_nm n_b32_13_0_a12 h_n0) f29_7
                have k30_8 := frn84_30.at (h_nm n_a6_a12 h_n0) f29_8
                have k30_9 := frn84_30.at (h_nm n_b32_16_0_a12 h_n0) f29_9
                have k30_10 := frn84_30.at (h_nm n_a7_a12 h_n0) f29_10
                have k30_11 := frn84_30.at (h_nm n_b32_19_0_a12 h_n0) f29_11
                have k30_12 := frn84_30.at (h_nm n_a1_a12 h_n0) f29_12
                have k30_13 := frn84_30.at (h_nm n_a8_a12 h_n0) f29_13
                have k30_14 := frn84_30.at (h_nm n_a9_a12 h_n0) f29_14
                have k30_15 := frn84_30.at (h_nm n_b53_23_0_a12 h_n0) f29_15
                have k30_16 := frn84_30.at (h_nm n_b53_23_1_a12 h_n0) f29_16
                have k30_17 := frn84_30.at (h_nm n_a10_a12 h_n0) f29_17
                have k30_18 := frn84_30.at (h_nm n_b62_25_0_a12 h_n0) f29_18
                have k30_19 := frn84_30.at (h_nm n_b62_25_1_a12 h_n0) f29_19
                have k30_20 := frn84_30.at (h_nm n_a11_a12 h_n0) f29_20
                have k30_21 := frn84_30.at (h_nm n_b72_27_0_a12 h_n0) f29_21
                have k30_22 := frn84_30.at (h_nm n_b72_27_1_a12 h_n0) f29_22
                have k30_23 := frn84_30.at (h_nm n_mo_a12 h_n0) f29_23
                have z_b84_30_0 : g b84_30_0 = none := fr.nn z84_30_0 (h_nm (Ne.symm n_mo_b84_30_0) h_n0)
                have fr := fr.call frn84_30 (fun z hz => by rcases List.mem_singleton.mp hz with rfl; exact Or.inr z_a12)
                refine hw_putF S0 hK hg hS k30_23 rfl inMR tyMR tokMR nmMR 2 (by decide) lf_MR_32 rfl rfl hnm rfl rfl rfl (Nat.le_of_ble_eq_true rfl) dMR_init_87 (fun H locs hg hS => ?_)
                obtain ⟨g_31, eg_31⟩ : ∃ z, z = hs g_30 mo (.inr (7, [.ref a1, .ref a11, .ref a12, .null, .null, .null, .null])) := ⟨_, rfl⟩
                have hg : hw D hC AX g_31 H := by rw [eg_31]; exact hg
                have f31_0 : g_31 a2 = some (.inr (5, [.ref b32_4_0, .int (nI 0)])) := by rw [eg_31, hs_n _ _ (Ne.symm n_mo_a2)]; exact k30_0
                have f31_1 : g_31 b32_4_0 = some (.inl (cI, 60, .inl (fun _ => 0))) := by rw [eg_31, hs_n _ _ (Ne.symm n_mo_b32_4_0)]; exact k30_1
                have f31_2 : g_31 a3 = some (.inr (5, [.ref b32_7_0, .int (nI 0)])) := by rw [eg_31, hs_n _ _ (Ne.symm n_mo_a3)]; exact k30_2
                have f31_3 : g_31 b32_7_0 = some (.inl (cI, 60, .inl (fun _ => 0))) := by rw [eg_31, hs_n _ _ (Ne.symm n_mo_b32_7_0)]; exact k30_3
                have f31_4 : g_31 a4 = some (.inr (5, [.ref b32_10_0, .int (nI 0)])) := by rw [eg_31, hs_n _ _ (Ne.symm n_mo_a4)]; exact k30_4
                have f31_5 : g_31 b32_10_0 = some (.inl (cI, 60, .inl (fun _ => 0))) := by rw [eg_31, hs_n _ _ (Ne.symm n_mo_b32_10_0)]; exact k30_5
                have f31_6 : g_31 a5 = some (.inr (5, [.ref b32_13_0, .int (nI 0)])) := by rw [eg_31, hs_n _ _ (Ne.symm n_mo_a5)]; exact k30_6
                have f31_7 : g_31 b32_13_0 = some (.inl (cI, 60, .inl (fun _ => 0))) := by rw [eg_31, hs_n _ _ (Ne.symm n_mo_b32_13_0)]; exact k30_7
                have f31_8 : g_31 a6 = some (.inr (5, [.ref b32_16_0, .int (nI 0)])) := by rw [eg_31, hs_n _ _ (Ne.symm n_mo_a6)]; exact k30_8
                have f31_9 : g_31 b32_16_0 = some (.inl (cI, 60, .inl (fun _ => 0))) := by rw [eg_31, hs_n _ _ (Ne.symm n_mo_b32_16_0)]; exact k30_9
                have f31_10 : g_31 a7 = some (.inr (5, [.ref b32_19_0, .int (nI 0)])) := by rw [eg_31, hs_n _ _ (Ne.symm n_mo_a7)]; exact k30_10
                have f31_11 : g_31 b32_19_0 = some (.inl (cI, 60, .inl (fun _ => 0))) := by rw [eg_31, hs_n _ _ (Ne.symm n_mo_b32_19_0)]; exact k30_11
                have f31_12 : g_31 a1 = some (.inl (cR, 6, .inr (.inr (.inr (.inr (va_up (va_up (va_up (va_up (va_up (va_up (fun _ => none) 0 (some a2)) 1 (some a3)) 2 (some a4)) 3 (some a5)) 4 (some a6)) 5 (some a7))))))) := by rw [eg_31, hs_n _ _ (Ne.symm n_mo_a1)]; exact k30_12
                have f31_13 : g_31 a8 = some (.inl (cI, 3721, .inl (fun _ => 0))) := by rw [eg_31, hs_n _ _ (Ne.symm n_mo_a8)]; exact k30_13
                have f31_14 : g_31 a9 = some (.inr (0, [.ref b53_23_0, .ref b53_23_1, .int (nI 0), .ref a8])) := by rw [eg_31, hs_n _ _ (Ne.symm n_mo_a9)]; exact k30_14
                have f31_15 : g_31 b53_23_0 = some (.inl (cI, 60, .inl (fun _ => 0))) := by rw [eg_31, hs_n _ _ (Ne.symm n_mo_b53_23_0)]; exact k30_15
                have f31_16 : g_31 b53_23_1 = some (.inl (cI, 60, .inl (fun _ => 0))) := by rw [eg_31, hs_n _ _ (Ne.symm n_mo_b53_23_1)]; exact k30_16
                have f31_17 : g_31 a10 = some (.inr (0, [.ref b62_25_0, .ref b62_25_1, .int (nI 0), .ref a8])) := by rw [eg_31, hs_n _ _ (Ne.symm n_mo_a10)]; exact k30_17
                have f31_18 : g_31 b62_25_0 = some (.inl (cI, 60, .inl (fun _ => 0))) := by rw [eg_31, hs_n _ _ (Ne.symm n_mo_b62_25_0)]; exact k30_18
                have f31_19 : g_31 b62_25_1 = some (.inl (cI, 60, .inl (fun _ => 0))) := by rw [eg_31, hs_n _ _ (Ne.symm n_mo_b62_25_1)]; exact k30_19
                have f31_20 : g_31 a11 = some (.inr (0, [.ref b72_27_0, .ref b72_27_1, .int (nI 0), .ref a8])) := by rw [eg_31, hs_n _ _ (Ne.symm n_mo_a11)]; exact k30_20
                have f31_21 : g_31 b72_27_0 = some (.inl (cI, 60, .inl (fun _ => 0))) := by rw [eg_31, hs_n _ _ (Ne.symm n_mo_b72_27_0)]; exact k30_21
                have f31_22 : g_31 b72_27_1 = some (.inl (cI, 60, .inl (fun _ => 0))) := by rw [eg_31, hs_n _ _ (Ne.symm n_mo_b72_27_1)]; exact k30_22
                have f31_23 : g_31 a12 = some (.inr (1, [.ref b84_30_0, .int (nI 0), .ref a9])) := by rw [eg_31, hs_n _ _ (Ne.symm n_mo_a12)]; exact s84_30
                have f31_24 : g_31 b84_30_0 = some (.inl (cI, 244, .inl (fun _ => 0))) := by rw [eg_31, hs_n _ _ (Ne.symm n_mo_b84_30_0)]; exact y84_30_0
                have f31_25 : g_31 mo = some (.inr (7, [.ref a1, .ref a11, .ref a12, .null, .null, .null, .null])) := by rw [eg_31]; exact hs_s _ _ _
                have fr := fr.put eg_31 (by simp)
                refine lv_aload_n S0.1 S0.2.1 dMR_init_90 rfl (lv_at hl 3 rfl) ?_
                refine hw_new (fs := [.null, .int (nI 0), .null]) S0 hK hg hS hA0 (ci := 4) rfl inPg tyPg tokPg lc_MR_36 insPg iniPg dflPg (Nat.le_trans (Nat.le_of_ble_eq_true rfl) hR.2.2.1) (Nat.le_trans (Nat.le_of_ble_eq_true rfl) hR.2.2.2) dMR_init_91 (fun a13 H ha13 hg hS => ?_)
                have n_a2_a13 : a2 ≠ a13 := h_nn f31_0 ha13
                have n_b32_4_0_a13 : b32_4_0 ≠ a13 := h_nn f31_1 ha13
                have n_a3_a13 : a3 ≠ a13 := h_nn f31_2 ha13
                have n_b32_7_0_a13 : b32_7_0 ≠ a13 := h_nn f31_3 ha13
                have n_a4_a13 : a4 ≠ a13 := h_nn f31_4 ha13
                have n_b32_10_0_a13 : b32_10_0 ≠ a13 := h_nn f31_5 ha13
                have n_a5_a13 : a5 ≠ a13 := h_nn f31_6 ha13
                have n_b32_13_0_a13 : b32_13_0 ≠ a13 := h_nn f31_7 ha13
                have n_a6_a13 : a6 ≠ a13 := h_nn f31_8 ha13
                have n_b32_16_0_a13 : b32_16_0 ≠ a13 := h_nn f31_9 ha13
                have n_a7_a13 : a7 ≠ a13 := h_nn f31_10 ha13
                have n_b32_19_0_a13 : b32_19_0 ≠ a13 := h_nn f31_11 ha13
                have n_a1_a13 : a1 ≠ a13 := h_nn f31_12 ha13
                have n_a8_a13 : a8 ≠ a13 := h_nn f31_13 ha13
                have n_a9_a13 : a9 ≠ a13 := h_nn f31_14 ha13
                have n_b53_23_0_a13 : b53_23_0 ≠ a13 := h_nn f31_15 ha13
                have n_b53_23_1_a13 : b53_23_1 ≠ a13 := h_nn f31_16 ha13
                have n_a10_a13 : a10 ≠ a13 := h_nn f31_17 ha13
                have n_b62_25_0_a13 : b62_25_0 ≠ a13 := h_nn f31_18 ha13
                have n_b62_25_1_a13 : b62_25_1 ≠ a13 := h_nn f31_19 ha13
                have n_a11_a13 : a11 ≠ a13 := h_nn f31_20 ha13
                have n_b72_27_0_a13 : b72_27_0 ≠ a13 := h_nn f31_21 ha13
                have n_b72_27_1_a13 : b72_27_1 ≠ a13 := h_nn f31_22 ha13
                have n_a12_a13 : a12 ≠ a13 := h_nn f31_23 ha13
                have n_b84_30_0_a13 : b84_30_0 ≠ a13 := h_nn f31_24 ha13
                have n_mo_a13 : mo ≠ a13 := h_nn f31_25 ha13
                have z_a13 : g a13 = none := fr.nn ha13 (h_nm (Ne.symm n_mo_a13) h_n0)
                obtain ⟨g_32, eg_32⟩ : ∃ z, z = hs g_31 a13 (.inr (4, [.null, .int (nI 0), .null])) := ⟨_, rfl⟩
                have hg : hw D hC AX g_32 H := by rw [eg_32]; exact hg
                have f32_0 : g_32 a2 = some (.inr (5, [.ref b32_4_0, .int (nI 0)])) := by rw [eg_32, hs_n _ _ n_a2_a13]; exact f31_0
                have f32_1 : g_32 b32_4_0 = some (.inl (cI, 60, .inl (fun _ => 0))) := by rw [eg_32, hs_n _ _ n_b32_4_0_a13]; exact f31_1
                have f32_2 : g_32 a3 = some (.inr (5, [.ref b32_7_0, .int (nI 0)])) := by rw [eg_32, hs_n _ _ n_a3_a13]; exact f31_2
                have f32_3 : g_32 b32_7_0 = some (.inl (cI, 60, .inl (fun _ => 0))) := by rw [eg_32, hs_n _ _ n_b32_7_0_a13]; exact f31_3
                have f32_4 : g_32 a4 = some (.inr (5, [.ref b32_10_0, .int (nI 0)])) := by rw [eg_32, hs_n _ _ n_a4_a13]; exact f31_4
                have f32_5 : g_32 b32_10_0 = some (.inl (cI, 60, .inl (fun _ => 0))) := by rw [eg_32, hs_n _ _ n_b32_10_0_a13]; exact f31_5
                have f32_6 : g_32 a5 = some (.inr (5, [.ref b32_13_0, .int (nI 0)])) := by rw [eg_32, hs_n _ _ n_a5_a13]; exact f31_6
                have f32_7 : g_32 b32_13_0 = some (.inl (cI, 60, .inl (fun _ => 0))) := by rw [eg_32, hs_n _ _ n_b32_13_0_a13]; exact f31_7
                have f32_8 : g_32 a6 = some (.inr (5, [.ref b32_16_0, .int (nI 0)])) := by rw [eg_32, hs_n _ _ n_a6_a13]; exact f31_8
                have f32_9 : g_32 b32_16_0 = some (.inl (cI, 60, .inl (fun _ => 0))) := by rw [eg_32, hs_n _ _ n_b32_16_0_a13]; exact f31_9
                have f32_10 : g_32 a7 = some (.inr (5, [.ref b32_19_0, .int (nI 0)])) := by rw [eg_32, hs_n _ _ n_a7_a13]; exact f31_10
                have f32_11 : g_32 b32_19_0 = some (.inl (cI, 60, .inl (fun _ => 0))) := by rw [eg_32, hs_n _ _ n_b32_19_0_a13]; exact f31_11
                have f32_12 : g_32 a1 = some (.inl (cR, 6, .inr (.inr (.inr (.inr (va_up (va_up (va_up (va_up (va_up (va_up (fun _ => none) 0 (some a2)) 1 (some a3)) 2 (some a4)) 3 (some a5)) 4 (some a6)) 5 (some a7))))))) := by rw [eg_32, hs_n _ _ n_a1_a13]; exact f31_12
                have f32_13 : g_32 a8 = some (.inl (cI, 3721, .inl (fun _ => 0))) := by rw [eg_32, hs_n _ _ n_a8_a13]; exact f31_13
                have f32_14 : g_32 a9 = some (.inr (0, [.ref b53_23_0, .ref b53_23_1, .int (nI 0), .ref a8])) := by rw [eg_32, hs_n _ _ n_a9_a13]; exact f31_14
                have f32_15 : g_32 b53_23_0 = some (.inl (cI, 60, .inl (fun _ => 0))) := by rw [eg_32, hs_n _ _ n_b53_23_0_a13]; exact f31_15
                have f32_16 : g_32 b53_23_1 = some (.inl (cI, 60, .inl (fun _ => 0))) := by rw [eg_32, hs_n _ _ n_b53_23_1_a13]; exact f31_16
                have f32_17 : g_32 a10 = some (.inr (0, [.ref b62_25_0, .ref b62_25_1, .int (nI 0), .ref a8])) := by rw [eg_32, hs_n _ _ n_a10_a13]; exact f31_17
                have f32_18 : g_32 b62_25_0 = some (.inl (cI, 60, .inl (fun _ => 0))) := by rw [eg_32, hs_n _ _ n_b62_25_0_a13]; exact f31_18
                have f32_19 : g_32 b62_25_1 = some (.inl (cI, 60, .inl (fun _ => 0))) := by rw [eg_32, hs_n _ _ n_b62_25_1_a13]; exact f31_19
                have f32_20 : g_32 a11 = some (.inr (0, [.ref b72_27_0, .ref b72_27_1, .int (nI 0), .ref a8])) := by rw [eg_32, hs_n _ _ n_a11_a13]; exact f31_20
                have f32_21 : g_32 b72_27_0 = some (.inl (cI, 60, .inl (fun _ => 0))) := by rw [eg_32, hs_n _ _ n_b72_27_0_a13]; exact f31_21
                have f32_22 : g_32 b72_27_1 = some (.inl (cI, 60, .inl (fun _ => 0))) := by rw [eg_32, hs_n _ _ n_b72_27_1_a13]; exact f31_22
                have f32_23 : g_32 a12 = some (.inr (1, [.ref b84_30_0, .int (nI 0), .ref a9])) := by rw [eg_32, hs_n _ _ n_a12_a13]; exact f31_23
                have f32_24 : g_32 b84_30_0 = some (.inl (cI, 244, .inl (fun _ => 0))) := by rw [eg_32, hs_n _ _ n_b84_30_0_a13]; exact f31_24
                have f32_25 : g_32 mo = some (.inr (7, [.ref a1, .ref a11, .ref a12, .null, .null, .null, .null])) := by rw [eg_32, hs_n _ _ n_mo_a13]; exact f31_25
                have f32_26 : g_32 a13 = some (.inr (4, [.null, .int (nI 0), .null])) := by rw [eg_32]; exact hs_s _ _ _
                have fr := fr.putN eg_32 z_a13
                refine lv_dup S0.1 S0.2.1 dMR_init_94 rfl ?_
                refine hw_new (fs := [.null, .int (nI 0), .null]) S0 hK hg hS hA0 (ci := 1) rfl inHu tyHu tokHu lc_MR_27 insHu iniHu dflHu (Nat.le_trans (Nat.le_of_ble_eq_true rfl) hR.2.2.1) (Nat.le_trans (Nat.le_of_ble_eq_true rfl) hR.2.2.2) dMR_init_95 (fun a14 H ha14 hg hS => ?_)
                have n_a2_a14 : a2 ≠ a14 := h_nn f32_0 ha14
                have n_b32_4_0_a14 : b32_4_0 ≠ a14 := h_nn f32_1 ha14
                have n_a3_a14 : a3 ≠ a14 := h_nn f32_2 ha14
                have n_b32_7_0_a14 : b32_7_0 ≠ a14 := h_nn f32_3 ha14
                have n_a4_a14 : a4 ≠ a14 := h_nn f32_4 ha14
                have n_b32_10_0_a14 : b32_10_0 ≠ a14 := h_nn f32_5 ha14
                have n_a5_a14 : a5 ≠ a14 := h_nn f32_6 ha14
                have n_b32_13_0_a14 : b32_13_0 ≠ a14 := h_nn f32_7 ha14
                have n_a6_a14 : a6 ≠ a14 := h_nn f32_8 ha14
                have n_b32_16_0_a14 : b32_16_0 ≠ a14 := h_nn f32_9 ha14
                have n_a7_a14 : a7 ≠ a14 := h_nn f32_10 ha14
                have n_b32_19_0_a14 : b32_19_0 ≠ a14 := h_nn f32_11 ha14
                have n_a1_a14 : a1 ≠ a14 := h_nn f32_12 ha14
                have n_a8_a14 : a8 ≠ a14 := h_nn f32_13 ha14
                have n_a9_a14 : a9 ≠ a14 := h_nn f32_14 ha14
                have n_b53_23_0_a14 : b53_23_0 ≠ a14 := h_nn f32_15 ha14
                have n_b53_23_1_a14 : b53_23_1 ≠ a14 := h_nn f32_16 ha14
                have n_a10_a14 : a10 ≠ a14 := h_nn f32_17 ha14
                have n_b62_25_0_a14 : b62_25_0 ≠ a14 := h_nn f32_18 ha14
                have n_b62_25_1_a14 : b62_25_1 ≠ a14 := h_nn f32_19 ha14
                have n_a11_a14 : a11 ≠ a14 := h_nn f32_20 ha14
                have n_b72_27_0_a14 : b72_27_0 ≠ a14 := h_nn f32_21 ha14
                have n_b72_27_1_a14 : b72_27_1 ≠ a14 := h_nn f32_22 ha14
                have n_a12_a14 : a12 ≠ a14 := h_nn f32_23 ha14
                have n_b84_30_0_a14 : b84_30_0 ≠ a14 := h_nn f32_24 ha14
                have n_mo_a14 : mo ≠ a14 := h_nn f32_25 ha14
                have n_a13_a14 : a13 ≠ a14 := h_nn f32_26 ha14
                have z_a14 : g a14 = none := fr.nn ha14 (h_nm (Ne.symm n_mo_a14) h_n0)
                obtain ⟨g_33, eg_33⟩ : ∃ z, z = hs g_32 a14 (.inr (1, [.null, .int (nI 0), .null])) := ⟨_, rfl⟩
                have hg : hw D hC AX g_33 H := by rw [eg_33]; exact hg
                have f33_0 : g_33 a2 = some (.inr (5, [.ref b32_4_0, .int (nI 0)])) := by rw [eg_33, hs_n _ _ n_a2_a14]; exact f32_0
                have f33_1 : g_33 b32_4_0 = some (.inl (cI, 60, .inl (fun _ => 0))) := by rw [eg_33, hs_n _ _ n_b32_4_0_a14]; exact f32_1
                have f33_2 : g_33 a3 = some (.inr (5, [.ref b32_7_0, .int (nI 0)])) := by rw [eg_33, hs_n _ _ n_a3_a14]; exact f32_2
                have f33_3 : g_33 b32_7_0 = some (.inl (cI, 60, .inl (fun _ => 0))) := by rw [eg_33, hs_n _ _ n_b32_7_0_a14]; exact f32_3
                have f33_4 : g_33 a4 = some (.inr (5, [.ref b32_10_0, .int (nI 0)])) := by rw [eg_33, hs_n _ _ n_a4_a14]; exact f32_4
                have f33_5 : g_33 b32_10_0 = some (.inl (cI, 60, .inl (fun _ => 0))) := by rw [eg_33, hs_n _ _ n_b32_10_0_a14]; exact f32_5
                have f33_6 : g_33 a5 = some (.inr (5, [.ref b32_13_0, .int (nI 0)])) := by rw [eg_33, hs_n _ _ n_a5_a14]; exact f32_6
                have f33_7 : g_33 b32_13_0 = some (.inl (cI, 60, .inl (fun _ => 0))) := by rw [eg_33, hs_n _ _ n_b32_13_0_a14]; exact f32_7
                have f33_8 : g_33 a6 = some (.inr (5, [.ref b32_16_0, .int (nI 0)])) := by rw [eg_33, hs_n _ _ n_a6_a14]; exact f32_8
                have f33_9 : g_33 b32_16_0 = some (.inl (cI, 60, .inl (fun _ => 0))) := by rw [eg_33, hs_n _ _ n_b32_16_0_a14]; exact f32_9
                have f33_10 : g_33 a7 = some (.inr (5, [.ref b32_19_0, .int (nI 0)])) := by rw [eg_33, hs_n _ _ n_a7_a14]; exact f32_10
                have f33_11 : g_33 b32_19_0 = some (.inl (cI, 60, .inl (fun _ => 0))) := by rw [eg_33, hs_n _ _ n_b32_19_0_a14]; exact f32_11
                have f33_12 : g_33 a1 = some (.inl (cR, 6, .inr (.inr (.inr (.inr (va_up (va_up (va_up (va_up (va_up (va_up (fun _ => none) 0 (some a2)) 1 (some a3)) 2 (some a4)) 3 (some a5)) 4 (some a6)) 5 (some a7))))))) := by rw [eg_33, hs_n _ _ n_a1_a14]; exact f32_12
                have f33_13 : g_33 a8 = some (.inl (cI, 3721, .inl (fun _ => 0))) := by rw [eg_33, hs_n _ _ n_a8_a14]; exact f32_13
                have f33_14 : g_33 a9 = some (.inr (0, [.ref b53_23_0, .ref b53_23_1, .int (nI 0), .ref a8])) := by rw [eg_33, hs_n _ _ n_a9_a14]; exact f32_14
                have f33_15 : g_33 b53_23_0 = some (.inl (cI, 60, .inl (fun _ => 0))) := by rw [eg_33, hs_n _ _ n_b53_23_0_a14]; exact f32_15
                have f33_16 : g_33 b53_23_1 = some (.inl (cI, 60, .inl (fun _ => 0))) := by rw [eg_33, hs_n _ _ n_b53_23_1_a14]; exact f32_16
                have f33_17 : g_33 a10 = some (.inr (0, [.ref b62_25_0, .ref b62_25_1, .int (nI 0), .ref a8])) := by rw [eg_33, hs_n _ _ n_a10_a14]; exact f32_17
                have f33_18 : g_33 b62_25_0 = some (.inl (cI, 60, .inl (fun _ => 0))) := by rw [eg_33, hs_n _ _ n_b62_25_0_a14]; exact f32_18
                have f33_19 : g_33 b62_25_1 = some (.inl (cI, 60, .inl (fun _ => 0))) := by rw [eg_33, hs_n _ _ n_b62_25_1_a14]; exact f32_19
                have f33_20 : g_33 a11 = some (.inr (0, [.ref b72_27_0, .ref b72_27_1, .int (nI 0), .ref a8])) := by rw [eg_33, hs_n _ _ n_a11_a14]; exact f32_20
                have f33_21 : g_33 b72_27_0 = some (.inl (cI, 60, .inl (fun _ => 0))) := by rw [eg_33, hs_n _ _ n_b72_27_0_a14]; exact f32_21
                have f33_22 : g_33 b72_27_1 = some (.inl (cI, 60, .inl (fun _ => 0))) := by rw [eg_33, hs_n _ _ n_b72_27_1_a14]; exact f32_22
                have f33_23 : g_33 a12 = some (.inr (1, [.ref b84_30_0, .int (nI 0), .ref a9])) := by rw [eg_33, hs_n _ _ n_a12_a14]; exact f32_23
                have f33_24 : g_33 b84_30_0 = some (.inl (cI, 244, .inl (fun _ => 0))) := by rw [eg_33, hs_n _ _ n_b84_30_0_a14]; exact f32_24
                have f33_25 : g_33 mo = some (.inr (7, [.ref a1, .ref a11, .ref a12, .null, .null, .null, .null])) := by rw [eg_33, hs_n _ _ n_mo_a14]; exact f32_25
                have f33_26 : g_33 a13 = some (.inr (4, [.null, .int (nI 0), .null])) := by rw [eg_33, hs_n _ _ n_a13_a14]; exact f32_26
                have f33_27 : g_33 a14 = some (.inr (1, [.null, .int (nI 0), .null])) := by rw [eg_33]; exact hs_s _ _ _
                have fr := fr.putN eg_33 z_a14
                refine lv_dup S0.1 S0.2.1 dMR_init_98 rfl ?_
                refine lv_aload_n S0.1 S0.2.1 dMR_init_99 rfl (lv_at hl 1 rfl) ?_
                refine hw_I (As := [.ref a9]) (rest := [.ref a14, .ref a13, .ref a13, .ref mo]) S0 hK hg hS hA0 (c_Hu_init l D cI cR cJ g_33 _ a14 a9 f33_27) kHu_init lm_MR_29 (hR.call rfl) rfl hl.1 rfl (Nat.le_of_ble_eq_true rfl) dMR_init_100 (hR.new (by decide) (by decide)) (fun g_34 H locs hp_100 hg hS => ?_)
                obtain ⟨b100_34_0, z100_34_0, frn100_34, s100_34, y100_34_0⟩ := hp_100
                have n_a2_b100_34_0 : a2 ≠ b100_34_0 := h_nn f33_0 z100_34_0
                have n_b32_4_0_b100_34_0 : b32_4_0 ≠ b100_34_0 := h_nn f33_1 z100_34_0
                have n_a3_b100_34_0 : a3 ≠ b100_34_0 := h_nn f33_2 z100_34_0
                have n_b32_7_0_b100_34_0 : b32_7_0 ≠ b100_34_0 := h_nn f33_3 z100_34_0
                have n_a4_b100_34_0 : a4 ≠ b100_34_0 := h_nn f33_4 z100_34_0
                have n_b32_10_0_b100_34_0 : b32_10_0 ≠ b100_34_0 := h_nn f33_5 z100_34_0
                have n_a5_b100_34_0 : a5 ≠ b100_34_0 := h_nn f33_6 z100_34_0
                have n_b32_13_0_b100_34_0 : b32_13_0 ≠ b100_34_0 := h_nn f33_7 z100_34_0
                have n_a6_b100_34_0 : a6 ≠ b100_34_0 := h_nn f33_8 z100_34_0
                have n_b32_16_0_b100_34_0 : b32_16_0 ≠ b100_34_0 := h_nn f33_9 z100_34_0
                have n_a7_b100_34_0 : a7 ≠ b100_34_0 := h_nn f33_10 z100_34_0
                have n_b32_19_0_b100_34_0 : b32_19_0 ≠ b100_34_0 := h_nn f33_11 z100_34_0
                have n_a1_b100_34_0 : a1 ≠ b100_34_0 := h_nn f33_12 z100_34_0
                have n_a8_b100_34_0 : a8 ≠ b100_34_0 := h_nn f33_13 z100_34_0
                have n_a9_b100_34_0 : a9 ≠ b100_34_0 := h_nn f33_14 z100_34_0
                have n_b53_23_0_b100_34_0 : b53_23_0 ≠ b100_34_0 := h_nn f33_15 z100_34_0
                have n_b53_23_1_b100_34_0 : b53_23_1 ≠ b100_34_0 := h_nn f33_16 z100_34_0
                have n_a10_b100_34_0 : a10 ≠ b100_34_0 := h_nn f33_17 z100_34_0
                have n_b62_25_0_b100_34_0 : b62_25_0 ≠ b100_34_0 := h_nn f33_18 z100_34_0
                have n_b62_25_1_b100_34_0 : b62_25_1 ≠ b100_34_0 := h_nn f33_19 z100_34_0
                have n_a11_b100_34_0 : a11 ≠ b100_34_0 := h_nn f33_20 z100_34_0
                have n_b72_27_0_b100_34_0 : b72_27_0 ≠ b100_34_0 := h_nn f33_21 z100_34_0
                have n_b72_27_1_b100_34_0 : b72_27_1 ≠ b100_34_0 := h_nn f33_22 z100_34_0
                have n_a12_b100_34_0 : a12 ≠ b100_34_0 := h_nn f33_23 z100_34_0
                have n_b84_30_0_b100_34_0 : b84_30_0 ≠ b100_34_0 := h_nn f33_24 z100_34_0
                have n_mo_b100_34_0 : mo ≠ b100_34_0 := h_nn f33_25 z100_34_0
                have n_a13_b100_34_0 : a13 ≠ b100_34_0 := h_nn f33_26 z100_34_0
                have n_a14_b100_34_0 : a14 ≠ b100_34_0 := h_nn f33_27 z100_34_0
                have k34_0 := frn100_34.at (h_nm n_a2_a14 h_n0) f33_0
                have k34_1 := frn100_34.at (h_nm n_b32_4_0_a14 h_n0) f33_1
                have k34_2 := frn100_34.at (h_nm n_a3_a14 h_n0) f33_2
                have k34_3 := frn100_34.at (h_nm n_b32_7_0_a14 h_n0) f33_3
                have k34_4 := frn100_34.at (h_nm n_a4_a14 h_n0) f33_4
                have k34_5 := frn100_34.at (h_nm n_b32_10_0_a14 h_n0) f33_5
                have k34_6 := frn100_34.at (h_nm n_a5_a14 h_n0) f33_6
                have k34_7 := frn100_34.at (h_nm n_b32_13_0_a14 h_n0) f33_7
                have k34_8 := frn100_34.at (h_nm n_a6_a14 h_n0) f33_8
                have k34_9 := frn100_34.at (h_nm n_b32_16_0_a14 h_n0) f33_9
                have k34_10 := frn100_34.at (h_nm n_a7_a14 h_n0) f33_10
                have k34_11 := frn100_34.at (h_nm n_b32_19_0_a14 h_n0) f33_11
                have k34_12 := frn100_34.at (h_nm n_a1_a14 h_n0) f33_12
                have k34_13 := frn100_34.at (h_nm n_a8_a14 h_n0) f33_13
                have k34_14 := frn100_34.at (h_nm n_a9_a14 h_n0) f33_14
                have k34_15 := frn100_34.at (h_nm n_b53_23_0_a14 h_n0) f33_15
                have k34_16 := frn100_34.at (h_nm n_b53_23_1_a14 h_n0) f33_16
                have k34_17 := frn100_34.at (h_nm n_a10_a14 h_n0) f33_17
                have k34_18 := frn100_34.at (h_nm n_b62_25_0_a14 h_n0) f33_18
                have k34_19 := frn100_34.at (h_nm n_b62_25_1_a14 h_n0) f33_19
                have k34_20 := frn100_34.at (h_nm n_a11_a14 h_n0) f33_20
                have k34_21 := frn100_34.at (h_nm n_b72_27_0_a14 h_n0) f33_21
                have k34_22 := frn100_34.at (h_nm n_b72_27_1_a14 h_n0) f33_22
                have k34_23 := frn100_34.at (h_nm n_a12_a14 h_n0) f33_23
                have k34_24 := frn100_34.at (h_nm n_b84_30_0_a14 h_n0) f33_24
                have k34_25 := frn100_34.at (h_nm n_mo_a14 h_n0) f33_25
                have k34_26 := frn100_34.at (h_nm n_a13_a14 h_n0) f33_26
                have z_b100_34_0 : g b100_34_0 = none := fr.nn z100_34_0 (h_nm (Ne.symm n_mo_b100_34_0) h_n0)
                have fr := fr.call frn100_34 (fun z hz => by rcases List.mem_singleton.mp hz with rfl; exact Or.inr z_a14)
                refine hw_I (As := [.ref a14]) (rest := [.ref a13, .ref mo]) S0 hK hg hS hA0 (c_Pg_init l D cI cR cJ g_34 _ a13 a14 k34_26) kPg_init lm_MR_38 (hR.call rfl) rfl hl.1 rfl (Nat.le_of_ble_eq_true rfl) dMR_init_103 (hR.new (by decide) (by decide)) (fun g_35 H locs hp_103 hg hS => ?_)
                obtain ⟨b103_35_0, b103_35_1, z103_35_0, z103_35_1, frn103_35, s103_35, y103_35_0, y103_35_1⟩ := hp_103
                have n_a2_b103_35_0 : a2 ≠ b103_35_0 := h_nn k34_0 z103_35_0
                have n_b32_4_0_b103_35_0 : b32_4_0 ≠ b103_35_0 := h_nn k34_1 z103_35_0
                have n_a3_b103_35_0 : a3 ≠ b103_35_0 := h_nn k34_2 z103_35_0
                have n_b32_7_0_b103_35_0 : b32_7_0 ≠ b103_35_0 := h_nn k34_3 z103_35_0
                have n_a4_b103_35_0 : a4 ≠ b103_35_0 := h_nn k34_4 z103_35_0
                have n_b32_10_0_b103_35_0 : b32_10_0 ≠ b103_35_0 := h_nn k34_5 z103_35_0
                have n_a5_b103_35_0 : a5 ≠ b103_35_0 := h_nn k34_6 z103_35_0
                have n_b32_13_0_b103_35_0 : b32_13_0 ≠ b103_35_0 := h_nn k34_7 z103_35_0
                have n_a6_b103_35_0 : a6 ≠ b103_35_0 := h_nn k34_8 z103_35_0
                have n_b32_16_0_b103_35_0 : b32_16_0 ≠ b103_35_0 := h_nn k34_9 z103_35_0
                have n_a7_b103_35_0 : a7 ≠ b103_35_0 := h_nn k34_10 z103_35_0
                have n_b32_19_0_b103_35_0 : b32_19_0 ≠ b103_35_0 := h_nn k34_11 z103_35_0
                have n_a1_b103_35_0 : a1 ≠ b103_35_0 := h_nn k34_12 z103_35_0
                have n_a8_b103_35_0 : a8 ≠ b103_35_0 := h_nn k34_13 z103_35_0
                have n_a9_b103_35_0 : a9 ≠ b103_35_0 := h_nn k34_14 z103_35_0
                have n_b53_23_0_b103_35_0 : b53_23_0 ≠ b103_35_0 := h_nn k34_15 z103_35_0
                have n_b53_23_1_b103_35_0 : b53_23_1 ≠ b103_35_0 := h_nn k34_16 z103_35_0
                have n_a10_b103_35_0 : a10 ≠ b103_35_0 := h_nn k34_17 z103_35_0
                have n_b62_25_0_b103_35_0 : b62_25_0 ≠ b103_35_0 := h_nn k34_18 z103_35_0
                have n_b62_25_1_b103_35_0 : b62_25_1 ≠ b103_35_0 := h_nn k34_19 z103_35_0
                have n_a11_b103_35_0 : a11 ≠ b103_35_0 := h_nn k34_20 z103_35_0
                have n_b72_27_0_b103_35_0 : b72_27_0 ≠ b103_35_0 := h_nn k34_21 z103_35_0
                have n_b72_27_1_b103_35_0 : b72_27_1 ≠ b103_35_0 := h_nn k34_22 z103_35_0
                have n_a12_b103_35_0 : a12 ≠ b103_35_0 := h_nn k34_23 z103_35_0
                have n_b84_30_0_b103_35_0 : b84_30_0 ≠ b103_35_0 := h_nn k34_24 z103_35_0
                have n_mo_b103_35_0 : mo ≠ b103_35_0 := h_nn k34_25 z103_35_0
                have n_a13_b103_35_0 : a13 ≠ b103_35_0 := h_nn k34_26 z103_35_0
                have n_a14_b103_35_0 : a14 ≠ b103_35_0 := h_nn s100_34 z103_35_0
                have n_b100_34_0_b103_35_0 : b100_34_0 ≠ b103_35_0 := h_nn y100_34_0 z103_35_0
                have n_a2_b103_35_1 : a2 ≠ b103_35_1 := h_nn k34_0 z103_35_1
                have n_b32_4_0_b103_35_1 : b32_4_0 ≠ b103_35_1 := h_nn k34_1 z103_35_1
                have n_a3_b103_35_1 : a3 ≠ b103_35_1 := h_nn k34_2 z103_35_1
                have n_b32_7_0_b103_35_1 : b32_7_0 ≠ b103_35_1 := h_nn k34_3 z103_35_1
                have n_a4_b103_35_1 : a4 ≠ b103_35_1 := h_nn k34_4 z103_35_1
                have n_b32_10_0_b103_35_1 : b32_10_0 ≠ b103_35_1 := h_nn k34_5 z103_35_1
                have n_a5_b103_35_1 : a5 ≠ b103_35_1 := h_nn k34_6 z103_35_1
                have n_b32_13_0_b103_35_1 : b32_13_0 ≠ b103_35_1 := h_nn k34_7 z103_35_1
                have n_a6_b103_35_1 : a6 ≠ b103_35_1 := h_nn k34_8 z103_35_1
                have n_b32_16_0_b103_35_1 : b32_16_0 ≠ b103_35_1 := h_nn k34_9 z103_35_1
                have n_a7_b103_35_1 : a7 ≠ b103_35_1 := h_nn k34_10 z103_35_1
                have n_b32_19_0_b103_35_1 : b32_19_0 ≠ b103_35_1 := h_nn k34_11 z103_35_1
                have n_a1_b103_35_1 : a1 ≠ b103_35_1 := h_nn k34_12 z103_35_1
                have n_a8_b103_35_1 : a8 ≠ b103_35_1 := h_nn k34_13 z103_35_1
                have n_a9_b103_35_1 : a9 ≠ b103_35_1 := h_nn k34_14 z103_35_1
                have n_b53_23_0_b103_35_1 : b53_23_0 ≠ b103_35_1 := h_nn k34_15 z103_35_1
                have n_b53_23_1_b103_35_1 : b53_23_1 ≠ b103_35_1 := h_nn k34_16 z103_35_1
                have n_a10_b103_35_1 : a10 ≠ b103_35_1 := h_nn k34_17 z103_35_1
                have n_b62_25_0_b103_35_1 : b62_25_0 ≠ b103_35_1 := h_nn k34_18 z103_35_1
                have n_b62_25_1_b103_35_1 : b62_25_1 ≠ b103_35_1 := h_nn k34_19 z103_35_1
                have n_a11_b103_35_1 : a11 ≠ b103_35_1 := h_nn k34_20 z103_35_1
                have n_b72_27_0_b103_35_1 : b72_27_0 ≠ b103_35_1 := h_nn k34_21 z103_35_1
                have n_b72_27_1_b103_35_1 : b72_27_1 ≠ b103_35_1 := h_nn k34_22 z103_35_1
                have n_a12_b103_35_1 : a12 ≠ b103_35_1 := h_nn k34_23 z103_35_1
                have n_b84_30_0_b103_35_1 : b84_30_0 ≠ b103_35_1 := h_nn k34_24 z103_35_1
                have n_mo_b103_35_1 : mo ≠ b103_35_1 := h_nn k34_25 z103_35_1
                have n_a13_b103_35_1 : a13 ≠ b103_35_1 := h_nn k34_26 z103_35_1
                have n_a14_b103_35_1 : a14 ≠ b103_35_1 := h_nn s100_34 z103_35_1
                have n_b100_34_0_b103_35_1 : b100_34_0 ≠ b103_35_1 := h_nn y100_34_0 z103_35_1
                have k35_0 := frn103_35.at (h_nm n_a2_a13 h_n0) k34_0
                have k35_1 := frn103_35.at (h_nm n_b32_4_0_a13 h_n0) k34_1
                have k35_2 := frn103_35.at (h_nm n_a3_a13 h_n0) k34_2
                have k35_3 := frn103_35.at (h_nm n_b32_7_0_a13 h_n0) k34_3
                have k35_4 := frn103_35.at (h_nm n_a4_a13 h_n0) k34_4
                have k35_5 := frn103_35.at (h_nm n_b32_10_0_a13 h_n0) k34_5
                have k35_6 := frn103_35.at (h_nm n_a5_a13 h_n0) k34_6
                have k35_7 := frn103_35.at (h_nm n_b32_13_0_a13 h_n0) k34_7
                have k35_8 := frn103_35.at (h_nm n_a6_a13 h_n0) k34_8
                have k35_9 := frn103_35.at (h_nm n_b32_16_0_a13 h_n0) k34_9
                have k35_10 := frn103_35.at (h_nm n_a7_a13 h_n0) k34_10
                have k35_11 := frn103_35.at (h_nm n_b32_19_0_a13 h_n0) k34_11
                have k35_12 := frn103_35.at (h_nm n_a1_a13 h_n0) k34_12
                have k35_13 := frn103_35.at (h_nm n_a8_a13 h_n0) k34_13
                have k35_14 := frn103_35.at (h_nm n_a9_a13 h_n0) k34_14
                have k35_15 := frn103_35.at (h_nm n_b53_23_0_a13 h_n0) k34_15
                have k35_16 := frn103_35.at (h_nm n_b53_23_1_a13 h_n0) k34_16
                have k35_17 := frn103_35.at (h_nm n_a10_a13 h_n0) k34_17
                have k35_18 := frn103_35.at (h_nm n_b62_25_0_a13 h_n0) k34_18
                have k35_19 := frn103_35.at (h_nm n_b62_25_1_a13 h_n0) k34_19
                have k35_20 := frn103_35.at (h_nm n_a11_a13 h_n0) k34_20
                have k35_21 := frn103_35.at (h_nm n_b72_27_0_a13 h_n0) k34_21
                have k35_22 := frn103_35.at (h_nm n_b72_27_1_a13 h_n0) k34_22
                have k35_23 := frn103_35.at (h_nm n_a12_a13 h_n0) k34_23
                have k35_24 := frn103_35.at (h_nm n_b84_30_0_a13 h_n0) k34_24
                have k35_25 := frn103_35.at (h_nm n_mo_a13 h_n0) k34_25
                have k35_26 := frn103_35.at (h_nm (Ne.symm n_a13_a14) h_n0) s100_34
                have k35_27 := frn103_35.at (h_nm (Ne.symm n_a13_b100_34_0) h_n0) y100_34_0
                have z_b103_35_0 : g b103_35_0 = none := fr.nn z103_35_0 (h_nm (Ne.symm n_mo_b103_35_0) h_n0)
                have z_b103_35_1 : g b103_35_1 = none := fr.nn z103_35_1 (h_nm (Ne.symm n_mo_b103_35_1) h_n0)
                have fr := fr.call frn103_35 (fun z hz => by rcases List.mem_singleton.mp hz with rfl; exact Or.inr z_a13)
                refine hw_putF S0 hK hg hS k35_25 rfl inMR tyMR tokMR nmMR 3 (by decide) lf_MR_41 rfl rfl hnm rfl rfl rfl (Nat.le_of_ble_eq_true rfl) dMR_init_106 (fun H locs hg hS => ?_)
                obtain ⟨g_36, eg_36⟩ : ∃ z, z = hs g_35 mo (.inr (7, [.ref a1, .ref a11, .ref a12, .ref a13, .null, .null, .null])) := ⟨_, rfl⟩
                have hg : hw D hC AX g_36 H := by rw [eg_36]; exact hg
                have f36_0 : g_36 a2 = some (.inr (5, [.ref b32_4_0, .int (nI 0)])) := by rw [eg_36, hs_n _ _ (Ne.symm n_mo_a2)]; exact k35_0
                have f36_1 : g_36 b32_4_0 = some (.inl (cI, 60, .inl (fun _ => 0))) := by rw [eg_36, hs_n _ _ (Ne.symm n_mo_b32_4_0)]; exact k35_1
                have f36_2 : g_36 a3 = some (.inr (5, [.ref b32_7_0, .int (nI 0)])) := by rw [eg_36, hs_n _ _ (Ne.symm n_mo_a3)]; exact k35_2
                have f36_3 : g_36 b32_7_0 = some (.inl (cI, 60, .inl (fun _ => 0))) := by rw [eg_36, hs_n _ _ (Ne.symm n_mo_b32_7_0)]; exact k35_3
                have f36_4 : g_36 a4 = some (.inr (5, [.ref b32_10_0, .int (nI 0)])) := by rw [eg_36, hs_n _ _ (Ne.symm n_mo_a4)]; exact k35_4
                have f36_5 : g_36 b32_10_0 = some (.inl (cI, 60, .inl (fun _ => 0))) := by rw [eg_36, hs_n _ _ (Ne.symm n_mo_b32_10_0)]; exact k35_5
                have f36_6 : g_36 a5 = some (.inr (5, [.ref b32_13_0, .int (nI 0)])) := by rw [eg_36, hs_n _ _ (Ne.symm n_mo_a5)]; exact k35_6
                have f36_7 : g_36 b32_13_0 = some (.inl (cI, 60, .inl (fun _ => 0))) := by rw [eg_36, hs_n _ _ (Ne.symm n_mo_b32_13_0)]; exact k35_7
                have f36_8 : g_36 a6 = some (.inr (5, [.ref b32_16_0, .int (nI 0)])) := by rw [eg_36, hs_n _ _ (Ne.symm n_mo_a6)]; exact k35_8
                have f36_9 : g_36 b32_16_0 = some (.inl (cI, 60, .inl (fun _ => 0))) := by rw [eg_36, hs_n _ _ (Ne.symm n_mo_b32_16_0)]; exact k35_9
                have f36_10 : g_36 a7 = some (.inr (5, [.ref b32_19_0, .int (nI 0)])) := by rw [eg_36, hs_n _ _ (Ne.symm n_mo_a7)]; exact k35_10
                have f36_11 : g_36 b32_19_0 = some (.inl (cI, 60, .inl (fun _ => 0))) := by rw [eg_36, hs_n _ _ (Ne.symm n_mo_b32_19_0)]; exact k35_11
                have f36_12 : g_36 a1 = some (.inl (cR, 6, .inr (.inr (.inr (.inr (va_up (va_up (va_up (va_up (va_up (va_up (fun _ => none) 0 (some a2)) 1 (some a3)) 2 (some a4)) 3 (some a5)) 4 (some a6)) 5 (some a7))))))) := by rw [eg_36, hs_n _ _ (Ne.symm n_mo_a1)]; exact k35_12
                have f36_13 : g_36 a8 = some (.inl (cI, 3721, .inl (fun _ => 0))) := by rw [eg_36, hs_n _ _ (Ne.symm n_mo_a8)]; exact k35_13
                have f36_14 : g_36 a9 = some (.inr (0, [.ref b53_23_0, .ref b53_23_1, .int (nI 0), .ref a8])) := by rw [eg_36, hs_n _ _ (Ne.symm n_mo_a9)]; exact k35_14
                have f36_15 : g_36 b53_23_0 = some (.inl (cI, 60, .inl (fun _ => 0))) := by rw [eg_36, hs_n _ _ (Ne.symm n_mo_b53_23_0)]; exact k35_15
                have f36_16 : g_36 b53_23_1 = some (.inl (cI, 60, .inl (fun _ => 0))) := by rw [eg_36, hs_n _ _ (Ne.symm n_mo_b53_23_1)]; exact k35_16
                have f36_17 : g_36 a10 = some (.inr (0, [.ref b62_25_0, .ref b62_25_1, .int (nI 0), .ref a8])) := by rw [eg_36, hs_n _ _ (Ne.symm n_mo_a10)]; exact k35_17
                have f36_18 : g_36 b62_25_0 = some (.inl (cI, 60, .inl (fun _ => 0))) := by rw [eg_36, hs_n _ _ (Ne.symm n_mo_b62_25_0)]; exact k35_18
                have f36_19 : g_36 b62_25_1 = some (.inl (cI, 60, .inl (fun _ => 0))) := by rw [eg_36, hs_n _ _ (Ne.symm n_mo_b62_25_1)]; exact k35_19
                have f36_20 : g_36 a11 = some (.inr (0, [.ref b72_27_0, .ref b72_27_1, .int (nI 0), .ref a8])) := by rw [eg_36, hs_n _ _ (Ne.symm n_mo_a11)]; exact k35_20
                have f36_21 : g_36 b72_27_0 = some (.inl (cI, 60, .inl (fun _ => 0))) := by rw [eg_36, hs_n _ _ (Ne.symm n_mo_b72_27_0)]; exact k35_21
                have f36_22 : g_36 b72_27_1 = some (.inl (cI, 60, .inl (fun _ => 0))) := by rw [eg_36, hs_n _ _ (Ne.symm n_mo_b72_27_1)]; exact k35_22
                have f36_23 : g_36 a12 = some (.inr (1, [.ref b84_30_0, .int (nI 0), .ref a9])) := by rw [eg_36, hs_n _ _ (Ne.symm n_mo_a12)]; exact k35_23
                have f36_24 : g_36 b84_30_0 = some (.inl (cI, 244, .inl (fun _ => 0))) := by rw [eg_36, hs_n _ _ (Ne.symm n_mo_b84_30_0)]; exact k35_24
                have f36_25 : g_36 a14 = some (.inr (1, [.ref b100_34_0, .int (nI 0), .ref a9])) := by rw [eg_36, hs_n _ _ (Ne.symm n_mo_a14)]; exact k35_26
                have f36_26 : g_36 b100_34_0 = some (.inl (cI, 244, .inl (fun _ => 0))) := by rw [eg_36, hs_n _ _ (Ne.symm n_mo_b100_34_0)]; exact k35_27
                have f36_27 : g_36 a13 = some (.inr (4, [.ref b103_35_0, .int (nI 0), .ref a14])) := by rw [eg_36, hs_n _ _ (Ne.symm n_mo_a13)]; exact s103_35
                have f36_28 : g_36 b103_35_0 = some (.inr (5, [.ref b103_35_1, .int (nI 0)])) := by rw [eg_36, hs_n _ _ (Ne.symm n_mo_b103_35_0)]; exact y103_35_0
                have f36_29 : g_36 b103_35_1 = some (.inl (cI, 120, .inl (fun _ => 0))) := by rw [eg_36, hs_n _ _ (Ne.symm n_mo_b103_35_1)]; exact y103_35_1
                have f36_30 : g_36 mo = some (.inr (7, [.ref a1, .ref a11, .ref a12, .ref a13, .null, .null, .null])) := by rw [eg_36]; exact hs_s _ _ _
                have fr := fr.put eg_36 (by simp)
                refine lv_aload_n S0.1 S0.2.1 dMR_init_109 rfl (lv_at hl 3 rfl) ?_
                refine hw_new (fs := [.null, .null, .int (nI 0), .null, .null]) S0 hK hg hS hA0 (ci := 6) rfl inVe tyVe tokVe lc_MR_45 insVe iniVe dflVe (Nat.le_trans (Nat.le_of_ble_eq_true rfl) hR.2.2.1) (Nat.le_trans (Nat.le_of_ble_eq_true rfl) hR.2.2.2) dMR_init_110 (fun a15 H ha15 hg hS => ?_)
                have n_a2_a15 : a2 ≠ a15 := h_nn f36_0 ha15
                have n_b32_4_0_a15 : b32_4_0 ≠ a15 := h_nn f36_1 ha15
                have n_a3_a15 : a3 ≠ a15 := h_nn f36_2 ha15
                have n_b32_7_0_a15 : b32_7_0 ≠ a15 := h_nn f36_3 ha15
                have n_a4_a15 : a4 ≠ a15 := h_nn f36_4 ha15
                have n_b32_10_0_a15 : b32_10_0 ≠ a15 := h_nn f36_5 ha15
                have n_a5_a15 : a5 ≠ a15 := h_nn f36_6 ha15
                have n_b32_13_0_a15 : b32_13_0 ≠ a15 := h_nn f36_7 ha15
                have n_a6_a15 : a6 ≠ a15 := h_nn f36_8 ha15
                have n_b32_16_0_a15 : b32_16_0 ≠ a15 := h_nn f36_9 ha15
                have n_a7_a15 : a7 ≠ a15 := h_nn f36_10 ha15
                have n_b32_19_0_a15 : b32_19_0 ≠ a15 := h_nn f36_11 ha15
                have n_a1_a15 : a1 ≠ a15 := h_nn f36_12 ha15
                have n_a8_a15 : a8 ≠ a15 := h_nn f36_13 ha15
                have n_a9_a15 : a9 ≠ a15 := h_nn f36_14 ha15
                have n_b53_23_0_a15 : b53_23_0 ≠ a15 := h_nn f36_15 ha15
                have n_b53_23_1_a15 : b53_23_1 ≠ a15 := h_nn f36_16 ha15
                have n_a10_a15 : a10 ≠ a15 := h_nn f36_17 ha15
                have n_b62_25_0_a15 : b62_25_0 ≠ a15 := h_nn f36_18 ha15
                have n_b62_25_1_a15 : b62_25_1 ≠ a15 := h_nn f36_19 ha15
                have n_a11_a15 : a11 ≠ a15 := h_nn f36_20 ha15
                have n_b72_27_0_a15 : b72_27_0 ≠ a15 := h_nn f36_21 ha15
                have n_b72_27_1_a15 : b72_27_1 ≠ a15 := h_nn f36_22 ha15
                have n_a12_a15 : a12 ≠ a15 := h_nn f36_23 ha15
                have n_b84_30_0_a15 : b84_30_0 ≠ a15 := h_nn f36_24 ha15
                have n_a14_a15 : a14 ≠ a15 := h_nn f36_25 ha15
                have n_b100_34_0_a15 : b100_34_0 ≠ a15 := h_nn f36_26 ha15
                have n_a13_a15 : a13 ≠ a15 := h_nn f36_27 ha15
                have n_b103_35_0_a15 : b103_35_0 ≠ a15 := h_nn f36_28 ha15
                have n_b103_35_1_a15 : b103_35_1 ≠ a15 := h_nn f36_29 ha15
                have n_mo_a15 : mo ≠ a15 := h_nn f36_30 ha15
                have z_a15 : g a15 = none := fr.nn ha15 (h_nm (Ne.symm n_mo_a15) h_n0)
                obtain ⟨g_37, eg_37⟩ : ∃ z, z = hs g_36 a15 (.inr (6, [.null, .null, .int (nI 0), .null, .null])) := ⟨_, rfl⟩
                have hg : hw D hC AX g_37 H := by rw [eg_37]; exact hg
                have f37_0 : g_37 a2 = some (.inr (5, [.ref b32_4_0, .int (nI 0)])) := by rw [eg_37, hs_n _ _ n_a2_a15]; exact f36_0
                have f37_1 : g_37 b32_4_0 = some (.inl (cI, 60, .inl (fun _ => 0))) := by rw [eg_37, hs_n _ _ n_b32_4_0_a15]; exact f36_1
                have f37_2 : g_37 a3 = some (.inr (5, [.ref b32_7_0, .int (nI 0)])) := by rw [eg_37, hs_n _ _ n_a3_a15]; exact f36_2
                have f37_3 : g_37 b32_7_0 = some (.inl (cI, 60, .inl (fun _ => 0))) := by rw [eg_37, hs_n _ _ n_b32_7_0_a15]; exact f36_3
                have f37_4 : g_37 a4 = some (.inr (5, [.ref b32_10_0, .int (nI 0)])) := by rw [eg_37, hs_n _ _ n_a4_a15]; exact f36_4
                have f37_5 : g_37 b32_10_0 = some (.inl (cI, 60, .inl (fun _ => 0))) := by rw [eg_37, hs_n _ _ n_b32_10_0_a15]; exact f36_5
                have f37_6 : g_37 a5 = some (.inr (5, [.ref b32_13_0, .int (nI 0)])) := by rw [eg_37, hs_n _ _ n_a5_a15]; exact f36_6
                have f37_7 : g_37 b32_13_0 = some (.inl (cI, 60, .inl (fun _ => 0))) := by rw [eg_37, hs_n _ _ n_b32_13_0_a15]; exact f36_7
                have f37_8 : g_37 a6 = some (.inr (5, [.ref b32_16_0, .int (nI 0)])) := by rw [eg_37, hs_n _ _ n_a6_a15]; exact f36_8
                have f37_9 : g_37 b32_16_0 = some (.inl (cI, 60, .inl (fun _ => 0))) := by rw [eg_37, hs_n _ _ n_b32_16_0_a15]; exact f36_9
                have f37_10 : g_37 a7 = some (.inr (5, [.ref b32_19_0, .int (nI 0)])) := by rw [eg_37, hs_n _ _ n_a7_a15]; exact f36_10
                have f37_11 : g_37 b32_19_0 = some (.inl (cI, 60, .inl (fun _ => 0))) := by rw [eg_37, hs_n _ _ n_b32_19_0_a15]; exact f36_11
                have f37_12 : g_37 a1 = some (.inl (cR, 6, .inr (.inr (.inr (.inr (va_up (va_up (va_up (va_up (va_up (va_up (fun _ => none) 0 (some a2)) 1 (some a3)) 2 (some a4)) 3 (some a5)) 4 (some a6)) 5 (some a7))))))) := by rw [eg_37, hs_n _ _ n_a1_a15]; exact f36_12
                have f37_13 : g_37 a8 = some (.inl (cI, 3721, .inl (fun _ => 0))) := by rw [eg_37, hs_n _ _ n_a8_a15]; exact f36_13
                have f37_14 : g_37 a9 = some (.inr (0, [.ref b53_23_0, .ref b53_23_1, .int (nI 0), .ref a8])) := by rw [eg_37, hs_n _ _ n_a9_a15]; exact f36_14
                have f37_15 : g_37 b53_23_0 = some (.inl (cI, 60, .inl (fun _ => 0))) := by rw [eg_37, hs_n _ _ n_b53_23_0_a15]; exact f36_15
                have f37_16 : g_37 b53_23_1 = some (.inl (cI, 60, .inl (fun _ => 0))) := by rw [eg_37, hs_n _ _ n_b53_23_1_a15]; exact f36_16
                have f37_17 : g_37 a10 = some (.inr (0, [.ref b62_25_0, .ref b62_25_1, .int (nI 0), .ref a8])) := by rw [eg_37, hs_n _ _ n_a10_a15]; exact f36_17
                have f37_18 : g_37 b62_25_0 = some (.inl (cI, 60, .inl (fun _ => 0))) := by rw [eg_37, hs_n _ _ n_b62_25_0_a15]; exact f36_18
                have f37_19 : g_37 b62_25_1 = some (.inl (cI, 60, .inl (fun _ => 0))) := by rw [eg_37, hs_n _ _ n_b62_25_1_a15]; exact f36_19
                have f37_20 : g_37 a11 = some (.inr (0, [.ref b72_27_0, .ref b72_27_1, .int (nI 0), .ref a8])) := by rw [eg_37, hs_n _ _ n_a11_a15]; exact f36_20
                have f37_21 : g_37 b72_27_0 = some (.inl (cI, 60, .inl (fun _ => 0))) := by rw [eg_37, hs_n _ _ n_b72_27_0_a15]; exact f36_21
                have f37_22 : g_37 b72_27_1 = some (.inl (cI, 60, .inl (fun _ => 0))) := by rw [eg_37, hs_n _ _ n_b72_27_1_a15]; exact f36_22
                have f37_23 : g_37 a12 = some (.inr (1, [.ref b84_30_0, .int (nI 0), .ref a9])) := by rw [eg_37, hs_n _ _ n_a12_a15]; exact f36_23
                have f37_24 : g_37 b84_30_0 = some (.inl (cI, 244, .inl (fun _ => 0))) := by rw [eg_37, hs_n _ _ n_b84_30_0_a15]; exact f36_24
                have f37_25 : g_37 a14 = some (.inr (1, [.ref b100_34_0, .int (nI 0), .ref a9])) := by rw [eg_37, hs_n _ _ n_a14_a15]; exact f36_25
                have f37_26 : g_37 b100_34_0 = some (.inl (cI, 244, .inl (fun _ => 0))) := by rw [eg_37, hs_n _ _ n_b100_34_0_a15]; exact f36_26
                have f37_27 : g_37 a13 = some (.inr (4, [.ref b103_35_0, .int (nI 0), .ref a14])) := by rw [eg_37, hs_n _ _ n_a13_a15]; exact f36_27
                have f37_28 : g_37 b103_35_0 = some (.inr (5, [.ref b103_35_1, .int (nI 0)])) := by rw [eg_37, hs_n _ _ n_b103_35_0_a15]; exact f36_28
                have f37_29 : g_37 b103_35_1 = some (.inl (cI, 120, .inl (fun _ => 0))) := by rw [eg_37, hs_n _ _ n_b103_35_1_a15]; exact f36_29
                have f37_30 : g_37 mo = some (.inr (7, [.ref a1, .ref a11, .ref a12, .ref a13, .null, .null, .null])) := by rw [eg_37, hs_n _ _ n_mo_a15]; exact f36_30
                have f37_31 : g_37 a15 = some (.inr (6, [.null, .null, .int (nI 0), .null, .null])) := by rw [eg_37]; exact hs_s _ _ _
                have fr := fr.putN eg_37 z_a15
                refine lv_dup S0.1 S0.2.1 dMR_init_113 rfl ?_
                refine lv_aload_n S0.1 S0.2.1 dMR_init_114 rfl (lv_at hl 1 rfl) ?_
                refine hw_I (As := [.ref a9]) (rest := [.ref a15, .ref mo]) S0 hK hg hS hA0 (c_Ve_init l D cI cR cJ g_37 _ a15 a9 f37_31) kVe_init lm_MR_47 (hR.call rfl) rfl hl.1 rfl (Nat.le_of_ble_eq_true rfl) dMR_init_115 (hR.new (by decide) (by decide)) (fun g_38 H locs hp_115 hg hS => ?_)
                obtain ⟨b115_38_0, b115_38_1, b115_38_2, b115_38_3, z115_38_0, z115_38_1, z115_38_2, z115_38_3, frn115_38, s115_38, y115_38_0, y115_38_1, y115_38_2, y115_38_3, w115_38_0, w115_38_1, w115_38_2⟩ := hp_115
                have n_a2_b115_38_0 : a2 ≠ b115_38_0 := h_nn f37_0 z115_38_0
                have n_b32_4_0_b115_38_0 : b32_4_0 ≠ b115_38_0 := h_nn f37_1 z115_38_0
                have n_a3_b115_38_0 : a3 ≠ b115_38_0 := h_nn f37_2 z115_38_0
                have n_b32_7_0_b115_38_0 : b32_7_0 ≠ b115_38_0 := h_nn f37_3 z115_38_0
                have n_a4_b115_38_0 : a4 ≠ b115_38_0 := h_nn f37_4 z115_38_0
                have n_b32_10_0_b115_38_0 : b32_10_0 ≠ b115_38_0 := h_nn f37_5 z115_38_0
                have n_a5_b115_38_0 : a5 ≠ b115_38_0 := h_nn f37_6 z115_38_0
                have n_b32_13_0_b115_38_0 : b32_13_0 ≠ b115_38_0 := h_nn f37_7 z115_38_0
                have n_a6_b115_38_0 : a6 ≠ b115_38_0 := h_nn f37_8 z115_38_0
                have n_b32_16_0_b115_38_0 : b32_16_0 ≠ b115_38_0 := h_nn f37_9 z115_38_0
                have n_a7_b115_38_0 : a7 ≠ b115_38_0 := h_nn f37_10 z115_38_0
                have n_b32_19_0_b115_38_0 : b32_19_0 ≠ b115_38_0 := h_nn f37_11 z115_38_0
                have n_a1_b115_38_0 : a1 ≠ b115_38_0 := h_nn f37_12 z115_38_0
                have n_a8_b115_38_0 : a8 ≠ b115_38_0 := h_nn f37_13 z115_38_0
                have n_a9_b115_38_0 : a9 ≠ b115_38_0 := h_nn f37_14 z115_38_0
                have n_b53_23_0_b115_38_0 : b53_23_0 ≠ b115_38_0 := h_nn f37_15 z115_38_0
                have n_b53_23_1_b115_38_0 : b53_23_1 ≠ b115_38_0 := h_nn f37_16 z115_38_0
                have n_a10_b115_38_0 : a10 ≠ b115_38_0 := h_nn f37_17 z115_38_0
                have n_b62_25_0_b115_38_0 : b62_25_0 ≠ b115_38_0 := h_nn f37_18 z115_38_0
                have n_b62_25_1_b115_38_0 : b62_25_1 ≠ b115_38_0 := h_nn f37_19 z115_38_0
                have n_a11_b115_38_0 : a11 ≠ b115_38_0 := h_nn f37_20 z115_38_0
                have n_b72_27_0_b115_38_0 : b72_27_0 ≠ b115_38_0 := h_nn f37_21 z115_38_0
                have n_b72_27_1_b115_38_0 : b72_27_1 ≠ b115_38_0 := h_nn f37_22 z115_38_0
                have n_a12_b115_38_0 : a12 ≠ b115_38_0 := h_nn f37_23 z115_38_0
                have n_b84_30_0_b115_38_0 : b84_30_0 ≠ b115_38_0 := h_nn f37_24 z115_38_0
                have n_a14_b115_38_0 : a14 ≠ b115_38_0 := h_nn f37_25 z115_38_0
                have n_b100_34_0_b115_38_0 : b100_34_0 ≠ b115_38_0 := h_nn f37_26 z115_38_0
                have n_a13_b115_38_0 : a13 ≠ b115_38_0 := h_nn f37_27 z115_38_0
                have n_b103_35_0_b115_38_0 : b103_35_0 ≠ b115_38_0 := h_nn f37_28 z115_38_0
                have n_b103_35_1_b115_38_0 : b103_35_1 ≠ b115_38_0 := h_nn f37_29 z115_38_0
                have n_mo_b115_38_0 : mo ≠ b115_38_0 := h_nn f37_30 z115_38_0
                have n_a15_b115_38_0 : a15 ≠ b115_38_0 := h_nn f37_31 z115_38_0
                have n_a2_b115_38_1 : a2 ≠ b115_38_1 := h_nn f37_0 z115_38_1
                have n_b32_4_0_b115_38_1 : b32_4_0 ≠ b115_38_1 := h_nn f37_1 z115_38_1
                have n_a3_b115_38_1 : a3 ≠ b115_38_1 := h_nn f37_2 z115_38_1
                have n_b32_7_0_b115_38_1 : b32_7_0 ≠ b115_38_1 := h_nn f37_3 z115_38_1
                have n_a4_b115_38_1 : a4 ≠ b115_38_1 := h_nn f37_4 z115_38_1
                have n_b32_10_0_b115_38_1 : b32_10_0 ≠ b115_38_1 := h_nn f37_5 z115_38_1
                have n_a5_b115_38_1 : a5 ≠ b115_38_1 := h_nn f37_6 z115_38_1
                have n_b32_13_0_b115_38_1 : b32_13_0 ≠ b115_38_1 := h_nn f37_7 z115_38_1
                have n_a6_b115_38_1 : a6 ≠ b115_38_1 := h_nn f37_8 z115_38_1
                have n_b32_16_0_b115_38_1 : b32_16_0 ≠ b115_38_1 := h_nn f37_9 z115_38_1
                have n_a7_b115_38_1 : a7 ≠ b115_38_1 := h_nn f37_10 z115_38_1
                have n_b32_19_0_b115_38_1 : b32_19_0 ≠ b115_38_1 := h_nn f37_11 z115_38_1
                have n_a1_b115_38_1 : a1 ≠ b115_38_1 := h_nn f37_12 z115_38_1
                have n_a8_b115_38_1 : a8 ≠ b115_38_1 := h_nn f37_13 z115_38_1
                have n_a9_b115_38_1 : a9 ≠ b115_38_1 := h_nn f37_14 z115_38_1
                have n_b53_23_0_b115_38_1 : b53_23_0 ≠ b115_38_1 := h_nn f37_15 z115_38_1
                have n_b53_23_1_b115_38_1 : b53_23_1 ≠ b115_38_1 := h_nn f37_16 z115_38_1
                have n_a10_b115_38_1 : a10 ≠ b115_38_1 := h_nn f37_17 z115_38_1
                have n_b62_25_0_b115_38_1 : b62_25_0 ≠ b115_38_1 := h_nn f37_18 z115_38_1
                have n_b62_25_1_b115_38_1 : b62_25_1 ≠ b115_38_1 := h_nn f37_19 z115_38_1
                have n_a11_b115_38_1 : a11 ≠ b115_38_1 := h_nn f37_20 z115_38_1
                have n_b72_27_0_b115_38_1 : b72_27_0 ≠ b115_38_1 := h_nn f37_21 z115_38_1
                have n_b72_27_1_b115_38_1 : b72_27_1 ≠ b115_38_1 := h_nn f37_22 z115_38_1
                have n_a12_b115_38_1 : a12 ≠ b115_38_1 := h_nn f37_23 z115_38_1
                have n_b84_30_0_b115_38_1 : b84_30_0 ≠ b115_38_1 := h_nn f37_24 z115_38_1
                have n_a14_b115_38_1 : a14 ≠ b115_38_1 := h_nn f37_25 z115_38_1
                have n_b100_34_0_b115_38_1 : b100_34_0 ≠ b115_38_1 := h_nn f37_26 z115_38_1
                have n_a13_b115_38_1 : a13 ≠ b115_38_1 := h_nn f37_27 z115_38_1
                have n_b103_35_0_b115_38_1 : b103_35_0 ≠ b115_38_1 := h_nn f37_28 z115_38_1
                have n_b103_35_1_b115_38_1 : b103_35_1 ≠ b115_38_1 := h_nn f37_29 z115_38_1
                have n_mo_b115_38_1 : mo ≠ b115_38_1 := h_nn f37_30 z115_38_1
                have n_a15_b115_38_1 : a15 ≠ b115_38_1 := h_nn f37_31 z115_38_1
                have n_a2_b115_38_2 : a2 ≠ b115_38_2 := h_nn f37_0 z115_38_2
                have n_b32_4_0_b115_38_2 : b32_4_0 ≠ b115_38_2 := h_nn f37_1 z115_38_2
                have n_a3_b115_38_2 : a3 ≠ b115_38_2 := h_nn f37_2 z115_38_2
                have n_b32_7_0_b115_38_2 : b32_7_0 ≠ b115_38_2 := h_nn f37_3 z115_38_2
                have n_a4_b115_38_2 : a4 ≠ b115_38_2 := h_nn f37_4 z115_38_2
                have n_b32_10_0_b115_38_2 : b32_10_0 ≠ b115_38_2 := h_nn f37_5 z115_38_2
                have n_a5_b115_38_2 : a5 ≠ b115_38_2 := h_nn f37_6 z115_38_2
                have n_b32_13_0_b115_38_2 : b32_13_0 ≠ b115_38_2 := h_nn f37_7 z115_38_2
                have n_a6_b115_38_2 : a6 ≠ b115_38_2 := h_nn f37_8 z115_38_2
                have n_b32_16_0_b115_38_2 : b32_16_0 ≠ b115_38_2 := h_nn f37_9 z115_38_2
                have n_a7_b115_38_2 : a7 ≠ b115_38_2 := h_nn f37_10 z115_38_2
                have n_b32_19_0_b115_38_2 : b32_19_0 ≠ b115_38_2 := h_nn f37_11 z115_38_2
                have n_a1_b115_38_2 : a1 ≠ b115_38_2 := h_nn f37_12 z115_38_2
                have n_a8_b115_38_2 : a8 ≠ b115_38_2 := h_nn f37_13 z115_38_2
                have n_a9_b115_38_2 : a9 ≠ b115_38_2 := h_nn f37_14 z115_38_2
                have n_b53_23_0_b115_38_2 : b53_23_0 ≠ b115_38_2 := h_nn f37_15 z115_38_2
                have n_b53_23_1_b115_38_2 : b53_23_1 ≠ b115_38_2 := h_nn f37_16 z115_38_2
                have n_a10_b115_38_2 : a10 ≠ b115_38_2 := h_nn f37_17 z115_38_2
                have n_b62_25_0_b115_38_2 : b62_25_0 ≠ b115_38_2 := h_nn f37_18 z115_38_2
                have n_b62_25_1_b115_38_2 : b62_25_1 ≠ b115_38_2 := h_nn f37_19 z115_38_2
                have n_a11_b115_38_2 : a11 ≠ b115_38_2 := h_nn f37_20 z115_38_2
                have n_b72_27_0_b115_38_2 : b72_27_0 ≠ b115_38_2 := h_nn f37_21 z115_38_2
                have n_b72_27_1_b115_38_2 : b72_27_1 ≠ b115_38_2 := h_nn f37_22 z115_38_2
                have n_a12_b115_38_2 : a12 ≠ b115_38_2 := h_nn f37_23 z115_38_2
                have n_b84_30_0_b115_38_2 : b84_30_0 ≠ b115_38_2 := h_nn f37_24 z115_38_2
                have n_a14_b115_38_2 : a14 ≠ b115_38_2 := h_nn f37_25 z115_38_2
                have n_b100_34_0_b115_38_2 : b100_34_0 ≠ b115_38_2 := h_nn f37_26 z115_38_2
                have n_a13_b115_38_2 : a13 ≠ b115_38_2 := h_nn f37_27 z115_38_2
                have n_b103_35_0_b115_38_2 : b103_35_0 ≠ b115_38_2 := h_nn f37_28 z115_38_2
                have n_b103_35_1_b115_38_2 : b103_35_1 ≠ b115_38_2 := h_nn f37_29 z115_38_2
                have n_mo_b115_38_2 : mo ≠ b115_38_2 := h_nn f37_30 z115_38_2
                have n_a15_b115_38_2 : a15 ≠ b115_38_2 := h_nn f37_31 z115_38_2
                have n_a2_b115_38_3 : a2 ≠ b115_38_3 := h_nn f37_0 z115_38_3
                have n_b32_4_0_b115_38_3 : b32_4_0 ≠ b115_38_3 := h_nn f37_1 z115_38_3
                have n_a3_b115_38_3 : a3 ≠ b115_38_3 := h_nn f37_2 z115_38_3
                have n_b32_7_0_b115_38_3 : b32_7_0 ≠ b115_38_3 := h_nn f37_3 z115_38_3
                have n_a4_b115_38_3 : a4 ≠ b115_38_3 := h_nn f37_4 z115_38_3
                have n_b32_10_0_b115_38_3 : b32_10_0 ≠ b115_38_3 := h_nn f37_5 z115_38_3
                have n_a5_b115_38_3 : a5 ≠ b115_38_3 := h_nn f37_6 z115_38_3
                have n_b32_13_0_b115_38_3 : b32_13_0 ≠ b115_38_3 := h_nn f37_7 z115_38_3
                have n_a6_b115_38_3 : a6 ≠ b115_38_3 := h_nn f37_8 z115_38_3
                have n_b32_16_0_b115_38_3 : b32_16_0 ≠ b115_38_3 := h_nn f37_9 z115_38_3
                have n_a7_b115_38_3 : a7 ≠ b115_38_3 := h_nn f37_10 z115_38_3
                have n_b32_19_0_b115_38_3 : b32_19_0 ≠ b115_38_3 := h_nn f37_11 z115_38_3
                have n_a1_b115_38_3 : a1 ≠ b115_38_3 := h_nn f37_12 z115_38_3
                have n_a8_b115_38_3 : a8 ≠ b115_38_3 := h_nn f37_13 z115_38_3
                have n_a9_b115_38_3 : a9 ≠ b115_38_3 := h_nn f37_14 z115_38_3
                have n_b53_23_0_b115_38_3 : b53_23_0 ≠ b115_38_3 := h_nn f37_15 z115_38_3
                have n_b53_23_1_b115_38_3 : b53_23_1 ≠ b115_38_3 := h_nn f37_16 z115_38_3
                have n_a10_b115_38_3 : a10 ≠ b115_38_3 := h_nn f37_17 z115_38_3
                have n_b62_25_0_b115_38_3 : b62_25_0 ≠ b115_38_3 := h_nn f37_18 z115_38_3
                have n_b62_25_1_b115_38_3 : b62_25_1 ≠ b115_38_3 := h_nn f37_19 z115_38_3
                have n_a11_b115_38_3 : a11 ≠ b115_38_3 := h_nn f37_20 z115_38_3
                have n_b72_27_0_b115_38_3 : b72_27_0 ≠ b115_38_3 := h_nn f37_21 z115_38_3
                have n_b72_27_1_b115_38_3 : b72_27_1 ≠ b115_38_3 := h_nn f37_22 z115_38_3
                have n_a12_b115_38_3 : a12 ≠ b115_38_3 := h_nn f37_23 z115_38_3
                have n_b84_30_0_b115_38_3 : b84_30_0 ≠ b115_38_3 := h_nn f37_24 z115_38_3
                have n_a14_b115_38_3 : a14 ≠ b115_38_3 := h_nn f37_25 z115_38_3
                have n_b100_34_0_b115_38_3 : b100_34_0 ≠ b115_38_3 := h_nn f37_26 z115_38_3
                have n_a13_b115_38_3 : a13 ≠ b115_38_3 := h_nn f37_27 z115_38_3
                have n_b103_35_0_b115_38_3 : b103_35_0 ≠ b115_38_3 := h_nn f37_28 z115_38_3
                have n_b103_35_1_b115_38_3 : b103_35_1 ≠ b115_38_3 := h_nn f37_29 z115_38_3
                have n_mo_b115_38_3 : mo ≠ b115_38_3 := h_nn f37_30 z115_38_3
                have n_a15_b115_38_3 : a15 ≠ b115_38_3 := h_nn f37_31 z115_38_3
                have k38_0 := frn115_38.at (h_nm n_a2_a15 h_n0) f37_0
                have k38_1 := frn115_38.at (h_nm n_b32_4_0_a15 h_n0) f37_1
                have k38_2 := frn115_38.at (h_nm n_a3_a15 h_n0) f37_2
                have k38_3 := frn115_38.at (h_nm n_b32_7_0_a15 h_n0) f37_3
                have k38_4 := frn115_38.at (h_nm n_a4_a15 h_n0) f37_4
                have k38_5 := frn115_38.at (h_nm n_b32_10_0_a15 h_n0) f37_5
                have k38_6 := frn115_38.at (h_nm n_a5_a15 h_n0) f37_6
                have k38_7 := frn115_38.at (h_nm n_b32_13_0_a15 h_n0) f37_7
                have k38_8 := frn115_38.at (h_nm n_a6_a15 h_n0) f37_8
                have k38_9 := frn115_38.at (h_nm n_b32_16_0_a15 h_n0) f37_9
                have k38_10 := frn115_38.at (h_nm n_a7_a15 h_n0) f37_10
                have k38_11 := frn115_38.at (h_nm n_b32_19_0_a15 h_n0) f37_11
                have k38_12 := frn115_38.at (h_nm n_a1_a15 h_n0) f37_12
                have k38_13 := frn115_38.at (h_nm n_a8_a15 h_n0) f37_13
                have k38_14 := frn115_38.at (h_nm n_a9_a15 h_n0) f37_14
                have k38_15 := frn115_38.at (h_nm n_b53_23_0_a15 h_n0) f37_15
                have k38_16 := frn115_38.at (h_nm n_b53_23_1_a15 h_n0) f37_16
                have k38_17 := frn115_38.at (h_nm n_a10_a15 h_n0) f37_17
                have k38_18 := frn115_38.at (h_nm n_b62_25_0_a15 h_n0) f37_18
                have k38_19 := frn115_38.at (h_nm n_b62_25_1_a15 h_n0) f37_19
                have k38_20 := frn115_38.at (h_nm n_a11_a15 h_n0) f37_20
                have k38_21 := frn115_38.at (h_nm n_b72_27_0_a15 h_n0) f37_21
                have k38_22 := frn115_38.at (h_nm n_b72_27_1_a15 h_n0) f37_22
                have k38_23 := frn115_38.at (h_nm n_a12_a15 h_n0) f37_23
                have k38_24 := frn115_38.at (h_nm n_b84_30_0_a15 h_n0) f37_24
                have k38_25 := frn115_38.at (h_nm n_a14_a15 h_n0) f37_25
                have k38_26 := frn115_38.at (h_nm n_b100_34_0_a15 h_n0) f37_26
                have k38_27 := frn115_38.at (h_nm n_a13_a15 h_n0) f37_27
                have k38_28 := frn115_38.at (h_nm n_b103_35_0_a15 h_n0) f37_28
                have k38_29 := frn115_38.at (h_nm n_b103_35_1_a15 h_n0) f37_29
                have k38_30 := frn115_38.at (h_nm n_mo_a15 h_n0) f37_30
                have z_b115_38_0 : g b115_38_0 = none := fr.nn z115_38_0 (h_nm (Ne.symm n_mo_b115_38_0) h_n0)
                have z_b115_38_1 : g b115_38_1 = none := fr.nn z115_38_1 (h_nm (Ne.symm n_mo_b115_38_1) h_n0)
                have z_b115_38_2 : g b115_38_2 = none := fr.nn z115_38_2 (h_nm (Ne.symm n_mo_b115_38_2) h_n0)
                have z_b115_38_3 : g b115_38_3 = none := fr.nn z115_38_3 (h_nm (Ne.symm n_mo_b115_38_3) h_n0)
                have fr := fr.call frn115_38 (fun z hz => by rcases List.mem_singleton.mp hz with rfl; exact Or.inr z_a15)
                refine hw_putF S0 hK hg hS k38_30 rfl inMR tyMR tokMR nmMR 4 (by decide) lf_MR_48 rfl rfl hnm rfl rfl rfl (Nat.le_of_ble_eq_true rfl) dMR_init_118 (fun H locs hg hS => ?_)
                obtain ⟨g_39, eg_39⟩ : ∃ z, z = hs g_38 mo (.inr (7, [.ref a1, .ref a11, .ref a12, .ref a13, .ref a15, .null, .null])) := ⟨_, rfl⟩
                have hg : hw D hC AX g_39 H := by rw [eg_39]; exact hg
                have f39_0 : g_39 a2 = some (.inr (5, [.ref b32_4_0, .int (nI 0)])) := by rw [eg_39, hs_n _ _ (Ne.symm n_mo_a2)]; exact k38_0
                have f39_1 : g_39 b32_4_0 = some (.inl (cI, 60, .inl (fun _ => 0))) := by rw [eg_39, hs_n _ _ (Ne.symm n_mo_b32_4_0)]; exact k38_1
                have f39_2 : g_39 a3 = some (.inr (5, [.ref b32_7_0, .int (nI 0)])) := by rw [eg_39, hs_n _ _ (Ne.symm n_mo_a3)]; exact k38_2
                have f39_3 : g_39 b32_7_0 = some (.inl (cI, 60, .inl (fun _ => 0))) := by rw [eg_39, hs_n _ _ (Ne.symm n_mo_b32_7_0)]; exact k38_3
                have f39_4 : g_39 a4 = some (.inr (5, [.ref b32_10_0, .int (nI 0)])) := by rw [eg_39, hs_n _ _ (Ne.symm n_mo_a4)]; exact k38_4
                have f39_5 : g_39 b32_10_0 = some (.inl (cI, 60, .inl (fun _ => 0))) := by rw [eg_39, hs_n _ _ (Ne.symm n_mo_b32_10_0)]; exact k38_5
                have f39_6 : g_39 a5 = some (.inr (5, [.ref b32_13_0, .int (nI 0)])) := by rw [eg_39, hs_n _ _ (Ne.symm n_mo_a5)]; exact k38_6
                have f39_7 : g_39 b32_13_0 = some (.inl (cI, 60, .inl (fun _ => 0))) := by rw [eg_39, hs_n _ _ (Ne.symm n_mo_b32_13_0)]; exact k38_7
                have f39_8 : g_39 a6 = some (.inr (5, [.ref b32_16_0, .int (nI 0)])) := by rw [eg_39, hs_n _ _ (Ne.symm n_mo_a6)]; exact k38_8
                have f39_9 : g_39 b32_16_0 = some (.inl (cI, 60, .inl (fun _ => 0))) := by rw [eg_39, hs_n _ _ (Ne.symm n_mo_b32_16_0)]; exact k38_9
                have f39_10 : g_39 a7 = some (.inr (5, [.ref b32_19_0, .int (nI 0)])) := by rw [eg_39, hs_n _ _ (Ne.symm n_mo_a7)]; exact k38_10
                have f39_11 : g_39 b32_19_0 = some (.inl (cI, 60, .inl (fun _ => 0))) := by rw [eg_39, hs_n _ _ (Ne.symm n_mo_b32_19_0)]; exact k38_11
                have f39_12 : g_39 a1 = some (.inl (cR, 6, .inr (.inr (.inr (.inr (va_up (va_up (va_up (va_up (va_up (va_up (fun _ => none) 0 (some a2)) 1 (some a3)) 2 (some a4)) 3 (some a5)) 4 (some a6)) 5 (some a7))))))) := by rw [eg_39, hs_n _ _ (Ne.symm n_mo_a1)]; exact k38_12
                have f39_13 : g_39 a8 = some (.inl (cI, 3721, .inl (fun _ => 0))) := by rw [eg_39, hs_n _ _ (Ne.symm n_mo_a8)]; exact k38_13
                have f39_14 : g_39 a9 = some (.inr (0, [.ref b53_23_0, .ref b53_23_1, .int (nI 0), .ref a8])) := by rw [eg_39, hs_n _ _ (Ne.symm n_mo_a9)]; exact k38_14
                have f39_15 : g_39 b53_23_0 = some (.inl (cI, 60, .inl (fun _ => 0))) := by rw [eg_39, hs_n _ _ (Ne.symm n_mo_b53_23_0)]; exact k38_15
                have f39_16 : g_39 b53_23_1 = some (.inl (cI, 60, .inl (fun _ => 0))) := by rw [eg_39, hs_n _ _ (Ne.symm n_mo_b53_23_1)]; exact k38_16
                have f39_17 : g_39 a10 = some (.inr (0, [.ref b62_25_0, .ref b62_25_1, .int (nI 0), .ref a8])) := by rw [eg_39, hs_n _ _ (Ne.symm n_mo_a10)]; exact k38_17
                have f39_18 : g_39 b62_25_0 = some (.inl (cI, 60, .inl (fun _ => 0))) := by rw [eg_39, hs_n _ _ (Ne.symm n_mo_b62_25_0)]; exact k38_18
                have f39_19 : g_39 b62_25_1 = some (.inl (cI, 60, .inl (fun _ => 0))) := by rw [eg_39, hs_n _ _ (Ne.symm n_mo_b62_25_1)]; exact k38_19
                have f39_20 : g_39 a11 = some (.inr (0, [.ref b72_27_0, .ref b72_27_1, .int (nI 0), .ref a8])) := by rw [eg_39, hs_n _ _ (Ne.symm n_mo_a11)]; exact k38_20
                have f39_21 : g_39 b72_27_0 = some (.inl (cI, 60, .inl (fun _ => 0))) := by rw [eg_39, hs_n _ _ (Ne.symm n_mo_b72_27_0)]; exact k38_21
                have f39_22 : g_39 b72_27_1 = some (.inl (cI, 60, .inl (fun _ => 0))) := by rw [eg_39, hs_n _ _ (Ne.symm n_mo_b72_27_1)]; exact k38_22
                have f39_23 : g_39 a12 = some (.inr (1, [.ref b84_30_0, .int (nI 0), .ref a9])) := by rw [eg_39, hs_n _ _ (Ne.symm n_mo_a12)]; exact k38_23
                have f39_24 : g_39 b84_30_0 = some (.inl (cI, 244, .inl (fun _ => 0))) := by rw [eg_39, hs_n _ _ (Ne.symm n_mo_b84_30_0)]; exact k38_24
                have f39_25 : g_39 a14 = some (.inr (1, [.ref b100_34_0, .int (nI 0), .ref a9])) := by rw [eg_39, hs_n _ _ (Ne.symm n_mo_a14)]; exact k38_25
                have f39_26 : g_39 b100_34_0 = some (.inl (cI, 244, .inl (fun _ => 0))) := by rw [eg_39, hs_n _ _ (Ne.symm n_mo_b100_34_0)]; exact k38_26
                have f39_27 : g_39 a13 = some (.inr (4, [.ref b103_35_0, .int (nI 0), .ref a14])) := by rw [eg_39, hs_n _ _ (Ne.symm n_mo_a13)]; exact k38_27
                have f39_28 : g_39 b103_35_0 = some (.inr (5, [.ref b103_35_1, .int (nI 0)])) := by rw [eg_39, hs_n _ _ (Ne.symm n_mo_b103_35_0)]; exact k38_28
                have f39_29 : g_39 b103_35_1 = some (.inl (cI, 120, .inl (fun _ => 0))) := by rw [eg_39, hs_n _ _ (Ne.symm n_mo_b103_35_1)]; exact k38_29
                have f39_30 : g_39 a15 = some (.inr (6, [.ref b115_38_0, .ref b115_38_1, .int (nI 0), .ref b115_38_2, .ref a9])) := by rw [eg_39, hs_n _ _ (Ne.symm n_mo_a15)]; exact s115_38
                have f39_31 : g_39 b115_38_0 = some (.inl (cI, 30, .inl (fun _ => 0))) := by rw [eg_39, hs_n _ _ (Ne.symm n_mo_b115_38_0)]; exact y115_38_0
                have f39_32 : g_39 b115_38_1 = some (.inl (cI, 1800, .inl (fun _ => 0))) := by rw [eg_39, hs_n _ _ (Ne.symm n_mo_b115_38_1)]; exact y115_38_1
                have f39_33 : g_39 b115_38_2 = some (.inr (5, [.ref b115_38_3, .int (nI 0)])) := by rw [eg_39, hs_n _ _ (Ne.symm n_mo_b115_38_2)]; exact y115_38_2
                have f39_34 : g_39 b115_38_3 = some (.inl (cI, 60, .inl (fun _ => 0))) := by rw [eg_39, hs_n _ _ (Ne.symm n_mo_b115_38_3)]; exact y115_38_3
                have f39_35 : g_39 mo = some (.inr (7, [.ref a1, .ref a11, .ref a12, .ref a13, .ref a15, .null, .null])) := by rw [eg_39]; exact hs_s _ _ _
                have fr := fr.put eg_39 (by simp)
                refine lv_aload_n S0.1 S0.2.1 dMR_init_121 rfl (lv_at hl 3 rfl) ?_
                refine hw_new (fs := [.null, .null, .int (nI 0), .null, .null, .null, .null, .null]) S0 hK hg hS hA0 (ci := 2) rfl inMg tyMg tokMg lc_MR_52 insMg iniMg dflMg (Nat.le_trans (Nat.le_of_ble_eq_true rfl) hR.2.2.1) (Nat.le_trans (Nat.le_of_ble_eq_true rfl) hR.2.2.2) dMR_init_122 (fun a16 H ha16 hg hS => ?_)
                have n_a2_a16 : a2 ≠ a16 := h_nn f39_0 ha16
                have n_b32_4_0_a16 : b32_4_0 ≠ a16 := h_nn f39_1 ha16
                have n_a3_a16 : a3 ≠ a16 := h_nn f39_2 ha16
                have n_b32_7_0_a16 : b32_7_0 ≠ a16 := h_nn f39_3 ha16
                have n_a4_a16 : a4 ≠ a16 := h_nn f39_4 ha16
                have n_b32_10_0_a16 : b32_10_0 ≠ a16 := h_nn f39_5 ha16
                have n_a5_a16 : a5 ≠ a16 := h_nn f39_6 ha16
                have n_b32_13_0_a16 : b32_13_0 ≠ a16 := h_nn f39_7 ha16
                have n_a6_a16 : a6 ≠ a16 := h_nn f39_8 ha16
                have n_b32_16_0_a16 : b32_16_0 ≠ a16 := h_nn f39_9 ha16
                have n_a7_a16 : a7 ≠ a16 := h_nn f39_10 ha16
                have n_b32_19_0_a16 : b32_19_0 ≠ a16 := h_nn f39_11 ha16
                have n_a1_a16 : a1 ≠ a16 := h_nn f39_12 ha16
                have n_a8_a16 : a8 ≠ a16 := h_nn f39_13 ha16
                have n_a9_a16 : a9 ≠ a16 := h_nn f39_14 ha16
                have n_b53_23_0_a16 : b53_23_0 ≠ a16 := h_nn f39_15 ha16
                have n_b53_23_1_a16 : b53_23_1 ≠ a16 := h_nn f39_16 ha16
                have n_a10_a16 : a10 ≠ a16 := h_nn f39_17 ha16
                have n_b62_25_0_a16 : b62_25_0 ≠ a16 := h_nn f39_18 ha16
                have n_b62_25_1_a16 : b62_25_1 ≠ a16 := h_nn f39_19 ha16
                have n_a11_a16 : a11 ≠ a16 := h_nn f39_20 ha16
                have n_b72_27_0_a16 : b72_27_0 ≠ a16 := h_nn f39_21 ha16
                have n_b72_27_1_a16 : b72_27_1 ≠ a16 := h_nn f39_22 ha16
                have n_a12_a16 : a12 ≠ a16 := h_nn f39_23 ha16
                have n_b84_30_0_a16 : b84_30_0 ≠ a16 := h_nn f39_24 ha16
                have n_a14_a16 : a14 ≠ a16 := h_nn f39_25 ha16
                have n_b100_34_0_a16 : b100_34_0 ≠ a16 := h_nn f39_26 ha16
                have n_a13_a16 : a13 ≠ a16 := h_nn f39_27 ha16
                have n_b103_35_0_a16 : b103_35_0 ≠ a16 := h_nn f39_28 ha16
                have n_b103_35_1_a16 : b103_35_1 ≠ a16 := h_nn f39_29 ha16
                have n_a15_a16 : a15 ≠ a16 := h_nn f39_30 ha16
                have n_b115_38_0_a16 : b115_38_0 ≠ a16 := h_nn f39_31 ha16
                have n_b115_38_1_a16 : b115_38_1 ≠ a16 := h_nn f39_32 ha16
                have n_b115_38_2_a16 : b115_38_2 ≠ a16 := h_nn f39_33 ha16
                have n_b115_38_3_a16 : b115_38_3 ≠ a16 := h_nn f39_34 ha16
                have n_mo_a16 : mo ≠ a16 := h_nn f39_35 ha16
                have z_a16 : g a16 = none := fr.nn ha16 (h_nm (Ne.symm n_mo_a16) h_n0)
                obtain ⟨g_40, eg_40⟩ : ∃ z, z = hs g_39 a16 (.inr (2, [.null, .null, .int (nI 0), .null, .null, .null, .null, .null])) := ⟨_, rfl⟩
                have hg : hw D hC AX g_40 H := by rw [eg_40]; exact hg
                have f40_0 : g_40 a2 = some (.inr (5, [.ref b32_4_0, .int (nI 0)])) := by rw [eg_40, hs_n _ _ n_a2_a16]; exact f39_0
                have f40_1 : g_40 b32_4_0 = some (.inl (cI, 60, .inl (fun _ => 0))) := by rw [eg_40, hs_n _ _ n_b32_4_0_a16]; exact f39_1
                have f40_2 : g_40 a3 = some (.inr (5, [.ref b32_7_0, .int (nI 0)])) := by rw [eg_40, hs_n _ _ n_a3_a16]; exact f39_2
                have f40_3 : g_40 b32_7_0 = some (.inl (cI, 60, .inl (fun _ => 0))) := by rw [eg_40, hs_n _ _ n_b32_7_0_a16]; exact f39_3
                have f40_4 : g_40 a4 = some (.inr (5, [.ref b32_10_0, .int (nI 0)])) := by rw [eg_40, hs_n _ _ n_a4_a16]; exact f39_4
                have f40_5 : g_40 b32_10_0 = some (.inl (cI, 60, .inl (fun _ => 0))) := by rw [eg_40, hs_n _ _ n_b32_10_0_a16]; exact f39_5
                have f40_6 : g_40 a5 = some (.inr (5, [.ref b32_13_0, .int (nI 0)])) := by rw [eg_40, hs_n _ _ n_a5_a16]; exact f39_6
                have f40_7 : g_40 b32_13_0 = some (.inl (cI, 60, .inl (fun _ => 0))) := by rw [eg_40, hs_n _ _ n_b32_13_0_a16]; exact f39_7
                have f40_8 : g_40 a6 = some (.inr (5, [.ref b32_16_0, .int (nI 0)])) := by rw [eg_40, hs_n _ _ n_a6_a16]; exact f39_8
                have f40_9 : g_40 b32_16_0 = some (.inl (cI, 60, .inl (fun _ => 0))) := by rw [eg_40, hs_n _ _ n_b32_16_0_a16]; exact f39_9
                have f40_10 : g_40 a7 = some (.inr (5, [.ref b32_19_0, .int (nI 0)])) := by rw [eg_40, hs_n _ _ n_a7_a16]; exact f39_10
                have f40_11 : g_40 b32_19_0 = some (.inl (cI, 60, .inl (fun _ => 0))) := by rw [eg_40, hs_n _ _ n_b32_19_0_a16]; exact f39_11
                have f40_12 : g_40 a1 = some (.inl (cR, 6, .inr (.inr (.inr (.inr (va_up (va_up (va_up (va_up (va_up (va_up (fun _ => none) 0 (some a2)) 1 (some a3)) 2 (some a4)) 3 (some a5)) 4 (some a6)) 5 (some a7))))))) := by rw [eg_40, hs_n _ _ n_a1_a16]; exact f39_12
                have f40_13 : g_40 a8 = some (.inl (cI, 3721, .inl (fun _ => 0))) := by rw [eg_40, hs_n _ _ n_a8_a16]; exact f39_13
                have f40_14 : g_40 a9 = some (.inr (0, [.ref b53_23_0, .ref b53_23_1, .int (nI 0), .ref a8])) := by rw [eg_40, hs_n _ _ n_a9_a16]; exact f39_14
                have f40_15 : g_40 b53_23_0 = some (.inl (cI, 60, .inl (fun _ => 0))) := by rw [eg_40, hs_n _ _ n_b53_23_0_a16]; exact f39_15
                have f40_16 : g_40 b53_23_1 = some (.inl (cI, 60, .inl (fun _ => 0))) := by rw [eg_40, hs_n _ _ n_b53_23_1_a16]; exact f39_16
                have f40_17 : g_40 a10 = some (.inr (0, [.ref b62_25_0, .ref b62_25_1, .int (nI 0), .ref a8])) := by rw [eg_40, hs_n _ _ n_a10_a16]; exact f39_17
                have f40_18 : g_40 b62_25_0 = some (.inl (cI, 60, .inl (fun _ => 0))) := by rw [eg_40, hs_n _ _ n_b62_25_0_a16]; exact f39_18
                have f40_19 : g_40 b62_25_1 = some (.inl (cI, 60, .inl (fun _ => 0))) := by rw [eg_40, hs_n _ _ n_b62_25_1_a16]; exact f39_19
                have f40_20 : g_40 a11 = some (.inr (0, [.ref b72_27_0, .ref b72_27_1, .int (nI 0), .ref a8])) := by rw [eg_40, hs_n _ _ n_a11_a16]; exact f39_20
                have f40_21 : g_40 b72_27_0 = some (.inl (cI, 60, .inl (fun _ => 0))) := by rw [eg_40, hs_n _ _ n_b72_27_0_a16]; exact f39_21
                have f40_22 : g_40 b72_27_1 = some (.inl (cI, 60, .inl (fun _ => 0))) := by rw [eg_40, hs_n _ _ n_b72_27_1_a16]; exact f39_22
                have f40_23 : g_40 a12 = some (.inr (1, [.ref b84_30_0, .int (nI 0), .ref a9])) := by rw [eg_40, hs_n _ _ n_a12_a16]; exact f39_23
                have f40_24 : g_40 b84_30_0 = some (.inl (cI, 244, .inl (fun _ => 0))) := by rw [eg_40, hs_n _ _ n_b84_30_0_a16]; exact f39_24
                have f40_25 : g_40 a14 = some (.inr (1, [.ref b100_34_0, .int (nI 0), .ref a9])) := by rw [eg_40, hs_n _ _ n_a14_a16]; exact f39_25
                have f40_26 : g_40 b100_34_0 = some (.inl (cI, 244, .inl (fun _ => 0))) := by rw [eg_40, hs_n _ _ n_b100_34_0_a16]; exact f39_26
                have f40_27 : g_40 a13 = some (.inr (4, [.ref b103_35_0, .int (nI 0), .ref a14])) := by rw [eg_40, hs_n _ _ n_a13_a16]; exact f39_27
                have f40_28 : g_40 b103_35_0 = some (.inr (5, [.ref b103_35_1, .int (nI 0)])) := by rw [eg_40, hs_n _ _ n_b103_35_0_a16]; exact f39_28
                have f40_29 : g_40 b103_35_1 = some (.inl (cI, 120, .inl (fun _ => 0))) := by rw [eg_40, hs_n _ _ n_b103_35_1_a16]; exact f39_29
                have f40_30 : g_40 a15 = some (.inr (6, [.ref b115_38_0, .ref b115_38_1, .int (nI 0), .ref b115_38_2, .ref a9])) := by rw [eg_40, hs_n _ _ n_a15_a16]; exact f39_30
                have f40_31 : g_40 b115_38_0 = some (.inl (cI, 30, .inl (fun _ => 0))) := by rw [eg_40, hs_n _ _ n_b115_38_0_a16]; exact f39_31
                have f40_32 : g_40 b115_38_1 = some (.inl (cI, 1800, .inl (fun _ => 0))) := by rw [eg_40, hs_n _ _ n_b115_38_1_a16]; exact f39_32
                have f40_33 : g_40 b115_38_2 = some (.inr (5, [.ref b115_38_3, .int (nI 0)])) := by rw [eg_40, hs_n _ _ n_b115_38_2_a16]; exact f39_33
                have f40_34 : g_40 b115_38_3 = some (.inl (cI, 60, .inl (fun _ => 0))) := by rw [eg_40, hs_n _ _ n_b115_38_3_a16]; exact f39_34
                have f40_35 : g_40 mo = some (.inr (7, [.ref a1, .ref a11, .ref a12, .ref a13, .ref a15, .null, .null])) := by rw [eg_40, hs_n _ _ n_mo_a16]; exact f39_35
                have f40_36 : g_40 a16 = some (.inr (2, [.null, .null, .int (nI 0), .null, .null, .null, .null, .null])) := by rw [eg_40]; exact hs_s _ _ _
                have fr := fr.putN eg_40 z_a16
                refine lv_dup S0.1 S0.2.1 dMR_init_125 rfl ?_
                refine lv_aload_n S0.1 S0.2.1 dMR_init_126 rfl (lv_at hl 1 rfl) ?_
                refine lv_aload_n S0.1 S0.2.1 dMR_init_127 rfl (lv_at hl 0 rfl) ?_
                refine hw_I (As := [.ref a9, .ref a10]) (rest := [.ref a16, .ref mo]) S0 hK hg hS hA0 (c_Mg_init l D cI cR cJ g_40 _ a16 a9 a10 f40_36) kMg_init lm_MR_54 (hR.call rfl) rfl hl.1 rfl (Nat.le_of_ble_eq_true rfl) dMR_init_128 (hR.new (by decide) (by decide)) (fun g_41 H locs hp_128 hg hS => ?_)
                obtain ⟨b128_41_0, b128_41_1, b128_41_2, b128_41_3, b128_41_4, b128_41_5, z128_41_0, z128_41_1, z128_41_2, z128_41_3, z128_41_4, z128_41_5, frn128_41, s128_41, y128_41_0, y128_41_1, y128_41_2, u128_41_0, u128_41_1, u128_41_2, y128_41_3, y128_41_4, y128_41_5, w128_41_0, w128_41_1, w128_41_2, w128_41_3⟩ := hp_128
                have n_a2_b128_41_0 : a2 ≠ b128_41_0 := h_nn f40_0 z128_41_0
                have n_b32_4_0_b128_41_0 : b32_4_0 ≠ b128_41_0 := h_nn f40_1 z128_41_0
                have n_a3_b128_41_0 : a3 ≠ b128_41_0 := h_nn f40_2 z128_41_0
                have n_b32_7_0_b128_41_0 : b32_7_0 ≠ b128_41_0 := h_nn f40_3 z128_41_0
                have n_a4_b128_41_0 : a4 ≠ b128_41_0 := h_nn f40_4 z128_41_0
                have n_b32_10_0_b128_41_0 : b32_10_0 ≠ b128_41_0 := h_nn f40_5 z128_41_0
                have n_a5_b128_41_0 : a5 ≠ b128_41_0 := h_nn f40_6 z128_41_0
                have n_b32_13_0_b128_41_0 : b32_13_0 ≠ b128_41_0 := h_nn f40_7 z128_41_0
                have n_a6_b128_41_0 : a6 ≠ b128_41_0 := h_nn f40_8 z128_41_0
                have n_b32_16_0_b128_41_0 : b32_16_0 ≠ b128_41_0 := h_nn f40_9 z128_41_0
                have n_a7_b128_41_0 : a7 ≠ b128_41_0 := h_nn f40_10 z128_41_0
                have n_b32_19_0_b128_41_0 : b32_19_0 ≠ b128_41_0 := h_nn f40_11 z128_41_0
                have n_a1_b128_41_0 : a1 ≠ b128_41_0 := h_nn f40_12 z128_41_0
                have n_a8_b128_41_0 : a8 ≠ b128_41_0 := h_nn f40_13 z128_41_0
                have n_a9_b128_41_0 : a9 ≠ b128_41_0 := h_nn f40_14 z128_41_0
                have n_b53_23_0_b128_41_0 : b53_23_0 ≠ b128_41_0 := h_nn f40_15 z128_41_0
                have n_b53_23_1_b128_41_0 : b53_23_1 ≠ b128_41_0 := h_nn f40_16 z128_41_0
                have n_a10_b128_41_0 : a10 ≠ b128_41_0 := h_nn f40_17 z128_41_0
                have n_b62_25_0_b128_41_0 : b62_25_0 ≠ b128_41_0 := h_nn f40_18 z128_41_0
                have n_b62_25_1_b128_41_0 : b62_25_1 ≠ b128_41_0 := h_nn f40_19 z128_41_0
                have n_a11_b128_41_0 : a11 ≠ b128_41_0 := h_nn f40_20 z128_41_0
                have n_b72_27_0_b128_41_0 : b72_27_0 ≠ b128_41_0 := h_nn f40_21 z128_41_0
                have n_b72_27_1_b128_41_0 : b72_27_1 ≠ b128_41_0 := h_nn f40_22 z128_41_0
                have n_a12_b128_41_0 : a12 ≠ b128_41_0 := h_nn f40_23 z128_41_0
                have n_b84_30_0_b128_41_0 : b84_30_0 ≠ b128_41_0 := h_nn f40_24 z128_41_0
                have n_a14_b128_41_0 : a14 ≠ b128_41_0 := h_nn f40_25 z128_41_0
                have n_b100_34_0_b128_41_0 : b100_34_0 ≠ b128_41_0 := h_nn f40_26 z128_41_0
                have n_a13_b128_41_0 : a13 ≠ b128_41_0 := h_nn f40_27 z128_41_0
                have n_b103_35_0_b128_41_0 : b103_35_0 ≠ b128_41_0 := h_nn f40_28 z128_41_0
                have n_b103_35_1_b128_41_0 : b103_35_1 ≠ b128_41_0 := h_nn f40_29 z128_41_0
                have n_a15_b128_41_0 : a15 ≠ b128_41_0 := h_nn f40_30 z128_41_0
                have n_b115_38_0_b128_41_0 : b115_38_0 ≠ b128_41_0 := h_nn f40_31 z128_41_0
                have n_b115_38_1_b128_41_0 : b115_38_1 ≠ b128_41_0 := h_nn f40_32 z128_41_0
                have n_b115_38_2_b128_41_0 : b115_38_2 ≠ b128_41_0 := h_nn f40_33 z128_41_0
                have n_b115_38_3_b128_41_0 : b115_38_3 ≠ b128_41_0 := h_nn f40_34 z128_41_0
                have n_mo_b128_41_0 : mo ≠ b128_41_0 := h_nn f40_35 z128_41_0
                have n_a16_b128_41_0 : a16 ≠ b128_41_0 := h_nn f40_36 z128_41_0
                have n_a2_b128_41_1 : a2 ≠ b128_41_1 := h_nn f40_0 z128_41_1
                have n_b32_4_0_b128_41_1 : b32_4_0 ≠ b128_41_1 := h_nn f40_1 z128_41_1
                have n_a3_b128_41_1 : a3 ≠ b128_41_1 := h_nn f40_2 z128_41_1
                have n_b32_7_0_b128_41_1 : b32_7_0 ≠ b128_41_1 := h_nn f40_3 z128_41_1
                have n_a4_b128_41_1 : a4 ≠ b128_41_1 := h_nn f40_4 z128_41_1
                have n_b32_10_0_b128_41_1 : b32_10_0 ≠ b128_41_1 := h_nn f40_5 z128_41_1
                have n_a5_b128_41_1 : a5 ≠ b128_41_1 := h_nn f40_6 z128_41_1
                have n_b32_13_0_b128_41_1 : b32_13_0 ≠ b128_41_1 := h_nn f40_7 z128_41_1
                have n_a6_b128_41_1 : a6 ≠ b128_41_1 := h_nn f40_8 z128_41_1
                have n_b32_16_0_b128_41_1 : b32_16_0 ≠ b128_41_1 := h_nn f40_9 z128_41_1
                have n_a7_b128_41_1 : a7 ≠ b128_41_1 := h_nn f40_10 z128_41_1
                have n_b32_19_0_b128_41_1 : b32_19_0 ≠ b128_41_1 := h_nn f40_11 z128_41_1
                have n_a1_b128_41_1 : a1 ≠ b128_41_1 := h_nn f40_12 z128_41_1
                have n_a8_b128_41_1 : a8 ≠ b128_41_1 := h_nn f40_13 z128_41_1
                have n_a9_b128_41_1 : a9 ≠ b128_41_1 := h_nn f40_14 z128_41_1
                have n_b53_23_0_b128_41_1 : b53_23_0 ≠ b128_41_1 := h_nn f40_15 z128_41_1
                have n_b53_23_1_b128_41_1 : b53_23_1 ≠ b128_41_1 := h_nn f40_16 z128_41_1
                have n_a10_b128_41_1 : a10 ≠ b128_41_1 := h_nn f40_17 z128_41_1
                have n_b62_25_0_b128_41_1 : b62_25_0 ≠ b128_41_1 := h_nn f40_18 z128_41_1
                have n_b62_25_1_b128_41_1 : b62_25_1 ≠ b128_41_1 := h_nn f40_19 z128_41_1
                have n_a11_b128_41_1 : a11 ≠ b128_41_1 := h_nn f40_20 z128_41_1
                have n_b72_27_0_b128_41_1 : b72_27_0 ≠ b128_41_1 := h_nn f40_21 z128_41_1
                have n_b72_27_1_b128_41_1 : b72_27_1 ≠ b128_41_1 := h_nn f40_22 z128_41_1
                have n_a12_b128_41_1 : a12 ≠ b128_41_1 := h_nn f40_23 z128_41_1
                have n_b84_30_0_b128_41_1 : b84_30_0 ≠ b128_41_1 := h_nn f40_24 z128_41_1
                have n_a14_b128_41_1 : a14 ≠ b128_41_1 := h_nn f40_25 z128_41_1
                have n_b100_34_0_b128_41_1 : b100_34_0 ≠ b128_41_1 := h_nn f40_26 z128_41_1
                have n_a13_b128_41_1 : a13 ≠ b128_41_1 := h_nn f40_27 z128_41_1
                have n_b103_35_0_b128_41_1 : b103_35_0 ≠ b128_41_1 := h_nn f40_28 z128_41_1
                have n_b103_35_1_b128_41_1 : b103_35_1 ≠ b128_41_1 := h_nn f40_29 z128_41_1
                have n_a15_b128_41_1 : a15 ≠ b128_41_1 := h_nn f40_30 z128_41_1
                have n_b115_38_0_b128_41_1 : b115_38_0 ≠ b128_41_1 := h_nn f40_31 z128_41_1
                have n_b115_38_1_b128_41_1 : b115_38_1 ≠ b128_41_1 := h_nn f40_32 z128_41_1
                have n_b115_38_2_b128_41_1 : b115_38_2 ≠ b128_41_1 := h_nn f40_33 z128_41_1
                have n_b115_38_3_b128_41_1 : b115_38_3 ≠ b128_41_1 := h_nn f40_34 z128_41_1
                have n_mo_b128_41_1 : mo ≠ b128_41_1 := h_nn f40_35 z128_41_1
                have n_a16_b128_41_1 : a16 ≠ b128_41_1 := h_nn f40_36 z128_41_1
                have n_a2_b128_41_2 : a2 ≠ b128_41_2 := h_nn f40_0 z128_41_2
                have n_b32_4_0_b128_41_2 : b32_4_0 ≠ b128_41_2 := h_nn f40_1 z128_41_2
                have n_a3_b128_41_2 : a3 ≠ b128_41_2 := h_nn f40_2 z128_41_2
                have n_b32_7_0_b128_41_2 : b32_7_0 ≠ b128_41_2 := h_nn f40_3 z128_41_2
                have n_a4_b128_41_2 : a4 ≠ b128_41_2 := h_nn f40_4 z128_41_2
                have n_b32_10_0_b128_41_2 : b32_10_0 ≠ b128_41_2 := h_nn f40_5 z128_41_2
                have n_a5_b128_41_2 : a5 ≠ b128_41_2 := h_nn f40_6 z128_41_2
                have n_b32_13_0_b128_41_2 : b32_13_0 ≠ b128_41_2 := h_nn f40_7 z128_41_2
                have n_a6_b128_41_2 : a6 ≠ b128_41_2 := h_nn f40_8 z128_41_2
                have n_b32_16_0_b128_41_2 : b32_16_0 ≠ b128_41_2 := h_nn f40_9 z128_41_2
                have n_a7_b128_41_2 : a7 ≠ b128_41_2 := h_nn f40_10 z128_41_2
                have n_b32_19_0_b128_41_2 : b32_19_0 ≠ b128_41_2 := h_nn f40_11 z128_41_2
                have n_a1_b128_41_2 : a1 ≠ b128_41_2 := h_nn f40_12 z128_41_2
                have n_a8_b128_41_2 : a8 ≠ b128_41_2 := h_nn f40_13 z128_41_2
                have n_a9_b128_41_2 : a9 ≠ b128_41_2 := h_nn f40_14 z128_41_2
                have n_b53_23_0_b128_41_2 : b53_23_0 ≠ b128_41_2 := h_nn f40_15 z128_41_2
                have n_b53_23_1_b128_41_2 : b53_23_1 ≠ b128_41_2 := h_nn f40_16 z128_41_2
                have n_a10_b128_41_2 : a10 ≠ b128_41_2 := h_nn f40_17 z128_41_2
                have n_b62_25_0_b128_41_2 : b62_25_0 ≠ b128_41_2 := h_nn f40_18 z128_41_2
                have n_b62_25_1_b128_41_2 : b62_25_1 ≠ b128_41_2 := h_nn f40_19 z128_41_2
                have n_a11_b128_41_2 : a11 ≠ b128_41_2 := h_nn f40_20 z128_41_2
                have n_b72_27_0_b128_41_2 : b72_27_0 ≠ b128_41_2 := h_nn f40_21 z128_41_2
                have n_b72_27_1_b128_41_2 : b72_27_1 ≠ b128_41_2 := h_nn f40_22 z128_41_2
                have n_a12_b128_41_2 : a12 ≠ b128_41_2 := h_nn f40_23 z128_41_2
                have n_b84_30_0_b128_41_2 : b84_30_0 ≠ b128_41_2 := h_nn f40_24 z128_41_2
                have n_a14_b128_41_2 : a14 ≠ b128_41_2 := h_nn f40_25 z128_41_2
                have n_b100_34_0_b128_41_2 : b100_34_0 ≠ b128_41_2 := h_nn f40_26 z128_41_2
                have n_a13_b128_41_2 : a13 ≠ b128_41_2 := h_nn f40_27 z128_41_2
                have n_b103_35_0_b128_41_2 : b103_35_0 ≠ b128_41_2 := h_nn f40_28 z128_41_2
                have n_b103_35_1_b128_41_2 : b103_35_1 ≠ b128_41_2 := h_nn f40_29 z128_41_2
                have n_a15_b128_41_2 : a15 ≠ b128_41_2 := h_nn f40_30 z128_41_2
                have n_b115_38_0_b128_41_2 : b115_38_0 ≠ b128_41_2 := h_nn f40_31 z128_41_2
                have n_b115_38_1_b128_41_2 : b115_38_1 ≠ b128_41_2 := h_nn f40_32 z128_41_2
                have n_b115_38_2_b128_41_2 : b115_38_2 ≠ b128_41_2 := h_nn f40_33 z128_41_2
                have n_b115_38_3_b128_41_2 : b115_38_3 ≠ b128_41_2 := h_nn f40_34 z128_41_2
                have n_mo_b128_41_2 : mo ≠ b128_41_2 := h_nn f40_35 z128_41_2
                have n_a16_b128_41_2 : a16 ≠ b128_41_2 := h_nn f40_36 z128_41_2
                have n_a2_b128_41_3 : a2 ≠ b128_41_3 := h_nn f40_0 z128_41_3
                have n_b32_4_0_b128_41_3 : b32_4_0 ≠ b128_41_3 := h_nn f40_1 z128_41_3
                have n_a3_b128_41_3 : a3 ≠ b128_41_3 := h_nn f40_2 z128_41_3
                have n_b32_7_0_b128_41_3 : b32_7_0 ≠ b128_41_3 := h_nn f40_3 z128_41_3
                have n_a4_b128_41_3 : a4 ≠ b128_41_3 := h_nn f40_4 z128_41_3
                have n_b32_10_0_b128_41_3 : b32_10_0 ≠ b128_41_3 := h_nn f40_5 z128_41_3
                have n_a5_b128_41_3 : a5 ≠ b128_41_3 := h_nn f40_6 z128_41_3
                have n_b32_13_0_b128_41_3 : b32_13_0 ≠ b128_41_3 := h_nn f40_7 z128_41_3
                have n_a6_b128_41_3 : a6 ≠ b128_41_3 := h_nn f40_8 z128_41_3
                have n_b32_16_0_b128_41_3 : b32_16_0 ≠ b128_41_3 := h_nn f40_9 z128_41_3
                have n_a7_b128_41_3 : a7 ≠ b128_41_3 := h_nn f40_10 z128_41_3
                have n_b32_19_0_b128_41_3 : b32_19_0 ≠ b128_41_3 := h_nn f40_11 z128_41_3
                have n_a1_b128_41_3 : a1 ≠ b128_41_3 := h_nn f40_12 z128_41_3
                have n_a8_b128_41_3 : a8 ≠ b128_41_3 := h_nn f40_13 z128_41_3
                have n_a9_b128_41_3 : a9 ≠ b128_41_3 := h_nn f40_14 z128_41_3
                have n_b53_23_0_b128_41_3 : b53_23_0 ≠ b128_41_3 := h_nn f40_15 z128_41_3
                have n_b53_23_1_b128_41_3 : b53_23_1 ≠ b128_41_3 := h_nn f40_16 z128_41_3
                have n_a10_b128_41_3 : a10 ≠ b128_41_3 := h_nn f40_17 z128_41_3
                have n_b62_25_0_b128_41_3 : b62_25_0 ≠ b128_41_3 := h_nn f40_18 z128_41_3
                have n_b62_25_1_b128_41_3 : b62_25_1 ≠ b128_41_3 := h_nn f40_19 z128_41_3
                have n_a11_b128_41_3 : a11 ≠ b128_41_3 := h_nn f40_20 z128_41_3
                have n_b72_27_0_b128_41_3 : b72_27_0 ≠ b128_41_3 := h_nn f40_21 z128_41_3
                have n_b72_27_1_b128_41_3 : b72_27_1 ≠ b128_41_3 := h_nn f40_22 z128_41_3
                have n_a12_b128_41_3 : a12 ≠ b128_41_3 := h_nn f40_23 z128_41_3
                have n_b84_30_0_b128_41_3 : b84_30_0 ≠ b128_41_3 := h_nn f40_24 z128_41_3
                have n_a14_b128_41_3 : a14 ≠ b128_41_3 := h_nn f40_25 z128_41_3
                have n_b100_34_0_b128_41_3 : b100_34_0 ≠ b128_41_3 := h_nn f40_26 z128_41_3
                have n_a13_b128_41_3 : a13 ≠ b128_41_3 := h_nn f40_27 z128_41_3
                have n_b103_35_0_b128_41_3 : b103_35_0 ≠ b128_41_3 := h_nn f40_28 z128_41_3
                have n_b103_35_1_b128_41_3 : b103_35_1 ≠ b128_41_3 := h_nn f40_29 z128_41_3
                have n_a15_b128_41_3 : a15 ≠ b128_41_3 := h_nn f40_30 z128_41_3
                have n_b115_38_0_b128_41_3 : b115_38_0 ≠ b128_41_3 := h_nn f40_31 z128_41_3
                have n_b115_38_1_b128_41_3 : b115_38_1 ≠ b128_41_3 := h_nn f40_32 z128_41_3
                have n_b115_38_2_b128_41_3 : b115_38_2 ≠ b128_41_3 := h_nn f40_33 z128_41_3
                have n_b115_38_3_b128_41_3 : b115_38_3 ≠ b128_41_3 := h_nn f40_34 z128_41_3
                have n_mo_b128_41_3 : mo ≠ b128_41_3 := h_nn f40_35 z128_41_3
                have n_a16_b128_41_3 : a16 ≠ b128_41_3 := h_nn f40_36 z128_41_3
                have n_a2_b128_41_4 : a2 ≠ b128_41_4 := h_nn f40_0 z128_41_4
                have n_b32_4_0_b128_41_4 : b32_4_0 ≠ b128_41_4 := h_nn f40_1 z128_41_4
                have n_a3_b128_41_4 : a3 ≠ b128_41_4 := h_nn f40_2 z128_41_4
                have n_b32_7_0_b128_41_4 : b32_7_0 ≠ b128_41_4 := h_nn f40_3 z128_41_4
                have n_a4_b128_41_4 : a4 ≠ b128_41_4 := h_nn f40_4 z128_41_4
                have n_b32_10_0_b128_41_4 : b32_10_0 ≠ b128_41_4 := h_nn f40_5 z128_41_4
                have n_a5_b128_41_4 : a5 ≠ b128_41_4 := h_nn f40_6 z128_41_4
                have n_b32_13_0_b128_41_4 : b32_13_0 ≠ b128_41_4 := h_nn f40_7 z128_41_4
                have n_a6_b128_41_4 : a6 ≠ b128_41_4 := h_nn f40_8 z128_41_4
                have n_b32_16_0_b128_41_4 : b32_16_0 ≠ b128_41_4 := h_nn f40_9 z128_41_4
                have n_a7_b128_41_4 : a7 ≠ b128_41_4 := h_nn f40_10 z128_41_4
                have n_b32_19_0_b128_41_4 : b32_19_0 ≠ b128_41_4 := h_nn f40_11 z128_41_4
                have n_a1_b128_41_4 : a1 ≠ b128_41_4 := h_nn f40_12 z128_41_4
                have n_a8_b128_41_4 : a8 ≠ b128_41_4 := h_nn f40_13 z128_41_4
                have n_a9_b128_41_4 : a9 ≠ b128_41_4 := h_nn f40_14 z128_41_4
                have n_b53_23_0_b128_41_4 : b53_23_0 ≠ b128_41_4 := h_nn f40_15 z128_41_4
                have n_b53_23_1_b128_41_4 : b53_23_1 ≠ b128_41_4 := h_nn f40_16 z128_41_4
                have n_a10_b128_41_4 : a10 ≠ b128_41_4 := h_nn f40_17 z128_41_4
                have n_b62_25_0_b128_41_4 : b62_25_0 ≠ b128_41_4 := h_nn f40_18 z128_41_4
                have n_b62_25_1_b128_41_4 : b62_25_1 ≠ b128_41_4 := h_nn f40_19 z128_41_4
                have n_a11_b128_41_4 : a11 ≠ b128_41_4 := h_nn f40_20 z128_41_4
                have n_b72_27_0_b128_41_4 : b72_27_0 ≠ b128_41_4 := h_nn f40_21 z128_41_4
                have n_b72_27_1_b128_41_4 : b72_27_1 ≠ b128_41_4 := h_nn f40_22 z128_41_4
                have n_a12_b128_41_4 : a12 ≠ b128_41_4 := h_nn f40_23 z128_41_4
                have n_b84_30_0_b128_41_4 : b84_30_0 ≠ b128_41_4 := h_nn f40_24 z128_41_4
                have n_a14_b128_41_4 : a14 ≠ b128_41_4 := h_nn f40_25 z128_41_4
                have n_b100_34_0_b128_41_4 : b100_34_0 ≠ b128_41_4 := h_nn f40_26 z128_41_4
                have n_a13_b128_41_4 : a13 ≠ b128_41_4 := h_nn f40_27 z128_41_4
                have n_b103_35_0_b128_41_4 : b103_35_0 ≠ b128_41_4 := h_nn f40_28 z128_41_4
                have n_b103_35_1_b128_41_4 : b103_35_1 ≠ b128_41_4 := h_nn f40_29 z128_41_4
                have n_a15_b128_41_4 : a15 ≠ b128_41_4 := h_nn f40_30 z128_41_4
                have n_b115_38_0_b128_41_4 : b115_38_0 ≠ b128_41_4 := h_nn f40_31 z128_41_4
                have n_b115_38_1_b128_41_4 : b115_38_1 ≠ b128_41_4 := h_nn f40_32 z128_41_4
                have n_b115_38_2_b128_41_4 : b115_38_2 ≠ b128_41_4 := h_nn f40_33 z128_41_4
                have n_b115_38_3_b128_41_4 : b115_38_3 ≠ b128_41_4 := h_nn f40_34 z128_41_4
                have n_mo_b128_41_4 : mo ≠ b128_41_4 := h_nn f40_35 z128_41_4
                have n_a16_b128_41_4 : a16 ≠ b128_41_4 := h_nn f40_36 z128_41_4
                have n_a2_b128_41_5 : a2 ≠ b128_41_5 := h_nn f40_0 z128_41_5
                have n_b32_4_0_b128_41_5 : b32_4_0 ≠ b128_41_5 := h_nn f40_1 z128_41_5
                have n_a3_b128_41_5 : a3 ≠ b128_41_5 := h_nn f40_2 z128_41_5
                have n_b32_7_0_b128_41_5 : b32_7_0 ≠ b128_41_5 := h_nn f40_3 z128_41_5
                have n_a4_b128_41_5 : a4 ≠ b128_41_5 := h_nn f40_4 z128_41_5
                have n_b32_10_0_b128_41_5 : b32_10_0 ≠ b128_41_5 := h_nn f40_5 z128_41_5
                have n_a5_b128_41_5 : a5 ≠ b128_41_5 := h_nn f40_6 z128_41_5
                have n_b32_13_0_b128_41_5 : b32_13_0 ≠ b128_41_5 := h_nn f40_7 z128_41_5
                have n_a6_b128_41_5 : a6 ≠ b128_41_5 := h_nn f40_8 z128_41_5
                have n_b32_16_0_b128_41_5 : b32_16_0 ≠ b128_41_5 := h_nn f40_9 z128_41_5
                have n_a7_b128_41_5 : a7 ≠ b128_41_5 := h_nn f40_10 z128_41_5
                have n_b32_19_0_b128_41_5 : b32_19_0 ≠ b128_41_5 := h_nn f40_11 z128_41_5
                have n_a1_b128_41_5 : a1 ≠ b128_41_5 := h_nn f40_12 z128_41_5
                have n_a8_b128_41_5 : a8 ≠ b128_41_5 := h_nn f40_13 z128_41_5
                have n_a9_b128_41_5 : a9 ≠ b128_41_5 := h_nn f40_14 z128_41_5
                have n_b53_23_0_b128_41_5 : b53_23_0 ≠ b128_41_5 := h_nn f40_15 z128_41_5
                have n_b53_23_1_b128_41_5 : b53_23_1 ≠ b128_41_5 := h_nn f40_16 z128_41_5
                have n_a10_b128_41_5 : a10 ≠ b128_41_5 := h_nn f40_17 z128_41_5
                have n_b62_25_0_b128_41_5 : b62_25_0 ≠ b128_41_5 := h_nn f40_18 z128_41_5
                have n_b62_25_1_b128_41_5 : b62_25_1 ≠ b128_41_5 := h_nn f40_19 z128_41_5
                have n_a11_b128_41_5 : a11 ≠ b128_41_5 := h_nn f40_20 z128_41_5
                have n_b72_27_0_b128_41_5 : b72_27_0 ≠ b128_41_5 := h_nn f40_21 z128_41_5
                have n_b72_27_1_b128_41_5 : b72_27_1 ≠ b128_41_5 := h_nn f40_22 z128_41_5
                have n_a12_b128_41_5 : a12 ≠ b128_41_5 := h_nn f40_23 z128_41_5
                have n_b84_30_0_b128_41_5 : b84_30_0 ≠ b128_41_5 := h_nn f40_24 z128_41_5
                have n_a14_b128_41_5 : a14 ≠ b128_41_5 := h_nn f40_25 z128_41_5
                have n_b100_34_0_b128_41_5 : b100_34_0 ≠ b128_41_5 := h_nn f40_26 z128_41_5
                have n_a13_b128_41_5 : a13 ≠ b128_41_5 := h_nn f40_27 z128_41_5
                have n_b103_35_0_b128_41_5 : b103_35_0 ≠ b128_41_5 := h_nn f40_28 z128_41_5
                have n_b103_35_1_b128_41_5 : b103_35_1 ≠ b128_41_5 := h_nn f40_29 z128_41_5
                have n_a15_b128_41_5 : a15 ≠ b128_41_5 := h_nn f40_30 z128_41_5
                have n_b115_38_0_b128_41_5 : b115_38_0 ≠ b128_41_5 := h_nn f40_31 z128_41_5
                have n_b115_38_1_b128_41_5 : b115_38_1 ≠ b128_41_5 := h_nn f40_32 z128_41_5
                have n_b115_38_2_b128_41_5 : b115_38_2 ≠ b128_41_5 := h_nn f40_33 z128_41_5
                have n_b115_38_3_b128_41_5 : b115_38_3 ≠ b128_41_5 := h_nn f40_34 z128_41_5
                have n_mo_b128_41_5 : mo ≠ b128_41_5 := h_nn f40_35 z128_41_5
                have n_a16_b128_41_5 : a16 ≠ b128_41_5 := h_nn f40_36 z128_41_5
                have k41_0 := frn128_41.at (h_nm n_a2_a16 h_n0) f40_0
                have k41_1 := frn128_41.at (h_nm n_b32_4_0_a16 h_n0) f40_1
                have k41_2 := frn128_41.at (h_nm n_a3_a16 h_n0) f40_2
                have k41_3 := frn128_41.at (h_nm n_b32_7_0_a16 h_n0) f40_3
                have k41_4 := frn128_41.at (h_nm n_a4_a16 h_n0) f40_4
                have k41_5 := frn128_41.at (h_nm n_b32_10_0_a16 h_n0) f40_5
                have k41_6 := frn128_41.at (h_nm n_a5_a16 h_n0) f40_6
                have k41_7 := frn128_41.at (h_nm n_b32_13_0_a16 h_n0) f40_7
                have k41_8 := frn128_41.at (h_nm n_a6_a16 h_n0) f40_8
                have k41_9 := frn128_41.at (h_nm n_b32_16_0_a16 h_n0) f40_9
                have k41_10 := frn128_41.at (h_nm n_a7_a16 h_n0) f40_10
                have k41_11 := frn128_41.at (h_nm n_b32_19_0_a16 h_n0) f40_11
                have k41_12 := frn128_41.at (h_nm n_a1_a16 h_n0) f40_12
                have k41_13 := frn128_41.at (h_nm n_a8_a16 h_n0) f40_13
                have k41_14 := frn128_41.at (h_nm n_a9_a16 h_n0) f40_14
                have k41_15 := frn128_41.at (h_nm n_b53_23_0_a16 h_n0) f40_15
                have k41_16 := frn128_41.at (h_nm n_b53_23_1_a16 h_n0) f40_16
                have k41_17 := frn128_41.at (h_nm n_a10_a16 h_n0) f40_17
                have k41_18 := frn128_41.at (h_nm n_b62_25_0_a16 h_n0) f40_18
                have k41_19 := frn128_41.at (h_nm n_b62_25_1_a16 h_n0) f40_19
                have k41_20 := frn128_41.at (h_nm n_a11_a16 h_n0) f40_20
                have k41_21 := frn128_41.at (h_nm n_b72_27_0_a16 h_n0) f40_21
                have k41_22 := frn128_41.at (h_nm n_b72_27_1_a16 h_n0) f40_22
                have k41_23 := frn128_41.at (h_nm n_a12_a16 h_n0) f40_23
                have k41_24 := frn128_41.at (h_nm n_b84_30_0_a16 h_n0) f40_24
                have k41_25 := frn128_41.at (h_nm n_a14_a16 h_n0) f40_25
                have k41_26 := frn128_41.at (h_nm n_b100_34_0_a16 h_n0) f40_26
                have k41_27 := frn128_41.at (h_nm n_a13_a16 h_n0) f40_27
                have k41_28 := frn128_41.at (h_nm n_b103_35_0_a16 h_n0) f40_28
                have k41_29 := frn128_41.at (h_nm n_b103_35_1_a16 h_n0) f40_29
                have k41_30 := frn128_41.at (h_nm n_a15_a16 h_n0) f40_30
                have k41_31 := frn128_41.at (h_nm n_b115_38_0_a16 h_n0) f40_31
                have k41_32 := frn128_41.at (h_nm n_b115_38_1_a16 h_n0) f40_32
                have k41_33 := frn128_41.at (h_nm n_b115_38_2_a16 h_n0) f40_33
                have k41_34 := frn128_41.at (h_nm n_b115_38_3_a16 h_n0) f40_34
                have k41_35 := frn128_41.at (h_nm n_mo_a16 h_n0) f40_35
                have z_b128_41_0 : g b128_41_0 = none := fr.nn z128_41_0 (h_nm (Ne.symm n_mo_b128_41_0) h_n0)
                have z_b128_41_1 : g b128_41_1 = none := fr.nn z128_41_1 (h_nm (Ne.symm n_mo_b128_41_1) h_n0)
                have z_b128_41_2 : g b128_41_2 = none := fr.nn z128_41_2 (h_nm (Ne.symm n_mo_b128_41_2) h_n0)
                have z_b128_41_3 : g b128_41_3 = none := fr.nn z128_41_3 (h_nm (Ne.symm n_mo_b128_41_3) h_n0)
                have z_b128_41_4 : g b128_41_4 = none := fr.nn z128_41_4 (h_nm (Ne.symm n_mo_b128_41_4) h_n0)
                have z_b128_41_5 : g b128_41_5 = none := fr.nn z128_41_5 (h_nm (Ne.symm n_mo_b128_41_5) h_n0)
                have fr := fr.call frn128_41 (fun z hz => by rcases List.mem_singleton.mp hz with rfl; exact Or.inr z_a16)
                refine hw_put S0 hK hg hS k41_35 rfl inMR tyMR tokMR nmMR 5 (by decide) lf_MR_57 rfl rfl rfl rfl (Nat.le_of_ble_eq_true rfl) dMR_init_131 (fun H locs hg hS => ?_)
                obtain ⟨g_42, eg_42⟩ : ∃ z, z = hs g_41 mo (.inr (7, [.ref a1, .ref a11, .ref a12, .ref a13, .ref a15, .ref a16, .null])) := ⟨_, rfl⟩
                have hg : hw D hC AX g_42 H := by rw [eg_42]; exact hg
                have f42_0 : g_42 a2 = some (.inr (5, [.ref b32_4_0, .int (nI 0)])) := by rw [eg_42, hs_n _ _ (Ne.symm n_mo_a2)]; exact k41_0
                have f42_1 : g_42 b32_4_0 = some (.inl (cI, 60, .inl (fun _ => 0))) := by rw [eg_42, hs_n _ _ (Ne.symm n_mo_b32_4_0)]; exact k41_1
                have f42_2 : g_42 a3 = some (.inr (5, [.ref b32_7_0, .int (nI 0)])) := by rw [eg_42, hs_n _ _ (Ne.symm n_mo_a3)]; exact k41_2
                have f42_3 : g_42 b32_7_0 = some (.inl (cI, 60, .inl (fun _ => 0))) := by rw [eg_42, hs_n _ _ (Ne.symm n_mo_b32_7_0)]; exact k41_3
                have f42_4 : g_42 a4 = some (.inr (5, [.ref b32_10_0, .int (nI 0)])) := by rw [eg_42, hs_n _ _ (Ne.symm n_mo_a4)]; exact k41_4
                have f42_5 : g_42 b32_10_0 = some (.inl (cI, 60, .inl (fun _ => 0))) := by rw [eg_42, hs_n _ _ (Ne.symm n_mo_b32_10_0)]; exact k41_5
                have f42_6 : g_42 a5 = some (.inr (5, [.ref b32_13_0, .int (nI 0)])) := by rw [eg_42, hs_n _ _ (Ne.symm n_mo_a5)]; exact k41_6
                have f42_7 : g_42 b32_13_0 = some (.inl (cI, 60, .inl (fun _ => 0))) := by rw [eg_42, hs_n _ _ (Ne.symm n_mo_b32_13_0)]; exact k41_7
                have f42_8 : g_42 a6 = some (.inr (5, [.ref b32_16_0, .int (nI 0)])) := by rw [eg_42, hs_n _ _ (Ne.symm n_mo_a6)]; exact k41_8
                have f42_9 : g_42 b32_16_0 = some (.inl (cI, 60, .inl (fun _ => 0))) := by rw [eg_42, hs_n _ _ (Ne.symm n_mo_b32_16_0)]; exact k41_9
                have f42_10 : g_42 a7 = some (.inr (5, [.ref b32_19_0, .int (nI 0)])) := by rw [eg_42, hs_n _ _ (Ne.symm n_mo_a7)]; exact k41_10
                have f42_11 : g_42 b32_19_0 = some (.inl (cI, 60, .inl (fun _ => 0))) := by rw [eg_42, hs_n _ _ (Ne.symm n_mo_b32_19_0)]; exact k41_11
                have f42_12 : g_42 a1 = some (.inl (cR, 6, .inr (.inr (.inr (.inr (va_up (va_up (va_up (va_up (va_up (va_up (fun _ => none) 0 (some a2)) 1 (some a3)) 2 (some a4)) 3 (some a5)) 4 (some a6)) 5 (some a7))))))) := by rw [eg_42, hs_n _ _ (Ne.symm n_mo_a1)]; exact k41_12
                have f42_13 : g_42 a8 = some (.inl (cI, 3721, .inl (fun _ => 0))) := by rw [eg_42, hs_n _ _ (Ne.symm n_mo_a8)]; exact k41_13
                have f42_14 : g_42 a9 = some (.inr (0, [.ref b53_23_0, .ref b53_23_1, .int (nI 0), .ref a8])) := by rw [eg_42, hs_n _ _ (Ne.symm n_mo_a9)]; exact k41_14
                have f42_15 : g_42 b53_23_0 = some (.inl (cI, 60, .inl (fun _ => 0))) := by rw [eg_42, hs_n _ _ (Ne.symm n_mo_b53_23_0)]; exact k41_15
                have f42_16 : g_42 b53_23_1 = some (.inl (cI, 60, .inl (fun _ => 0))) := by rw [eg_42, hs_n _ _ (Ne.symm n_mo_b53_23_1)]; exact k41_16
                have f42_17 : g_42 a10 = some (.inr (0, [.ref b62_25_0, .ref b62_25_1, .int (nI 0), .ref a8])) := by rw [eg_42, hs_n _ _ (Ne.symm n_mo_a10)]; exact k41_17
                have f42_18 : g_42 b62_25_0 = some (.inl (cI, 60, .inl (fun _ => 0))) := by rw [eg_42, hs_n _ _ (Ne.symm n_mo_b62_25_0)]; exact k41_18
                have f42_19 : g_42 b62_25_1 = some (.inl (cI, 60, .inl (fun _ => 0))) := by rw [eg_42, hs_n _ _ (Ne.symm n_mo_b62_25_1)]; exact k41_19
                have f42_20 : g_42 a11 = some (.inr (0, [.ref b72_27_0, .ref b72_27_1, .int (nI 0), .ref a8])) := by rw [eg_42, hs_n _ _ (Ne.symm n_mo_a11)]; exact k41_20
                have f42_21 : g_42 b72_27_0 = some (.inl (cI, 60, .inl (fun _ => 0))) := by rw [eg_42, hs_n _ _ (Ne.symm n_mo_b72_27_0)]; exact k41_21
                have f42_22 : g_42 b72_27_1 = some (.inl (cI, 60, .inl (fun _ => 0))) := by rw [eg_42, hs_n _ _ (Ne.symm n_mo_b72_27_1)]; exact k41_22
                have f42_23 : g_42 a12 = some (.inr (1, [.ref b84_30_0, .int (nI 0), .ref a9])) := by rw [eg_42, hs_n _ _ (Ne.symm n_mo_a12)]; exact k41_23
                have f42_24 : g_42 b84_30_0 = some (.inl (cI, 244, .inl (fun _ => 0))) := by rw [eg_42, hs_n _ _ (Ne.symm n_mo_b84_30_0)]; exact k41_24
                have f42_25 : g_42 a14 = some (.inr (1, [.ref b100_34_0, .int (nI 0), .ref a9])) := by rw [eg_42, hs_n _ _ (Ne.symm n_mo_a14)]; exact k41_25
                have f42_26 : g_42 b100_34_0 = some (.inl (cI, 244, .inl (fun _ => 0))) := by rw [eg_42, hs_n _ _ (Ne.symm n_mo_b100_34_0)]; exact k41_26
                have f42_27 : g_42 a13 = some (.inr (4, [.ref b103_35_0, .int (nI 0), .ref a14])) := by rw [eg_42, hs_n _ _ (Ne.symm n_mo_a13)]; exact k41_27
                have f42_28 : g_42 b103_35_0 = some (.inr (5, [.ref b103_35_1, .int (nI 0)])) := by rw [eg_42, hs_n _ _ (Ne.symm n_mo_b103_35_0)]; exact k41_28
                have f42_29 : g_42 b103_35_1 = some (.inl (cI, 120, .inl (fun _ => 0))) := by rw [eg_42, hs_n _ _ (Ne.symm n_mo_b103_35_1)]; exact k41_29
                have f42_30 : g_42 a15 = some (.inr (6, [.ref b115_38_0, .ref b115_38_1, .int (nI 0), .ref b115_38_2, .ref a9])) := by rw [eg_42, hs_n _ _ (Ne.symm n_mo_a15)]; exact k41_30
                have f42_31 : g_42 b115_38_0 = some (.inl (cI, 30, .inl (fun _ => 0))) := by rw [eg_42, hs_n _ _ (Ne.symm n_mo_b115_38_0)]; exact k41_31
                have f42_32 : g_42 b115_38_1 = some (.inl (cI, 1800, .inl (fun _ => 0))) := by rw [eg_42, hs_n _ _ (Ne.symm n_mo_b115_38_1)]; exact k41_32
                have f42_33 : g_42 b115_38_2 = some (.inr (5, [.ref b115_38_3, .int (nI 0)])) := by rw [eg_42, hs_n _ _ (Ne.symm n_mo_b115_38_2)]; exact k41_33
                have f42_34 : g_42 b115_38_3 = some (.inl (cI, 60, .inl (fun _ => 0))) := by rw [eg_42, hs_n _ _ (Ne.symm n_mo_b115_38_3)]; exact k41_34
                have f42_35 : g_42 a16 = some (.inr (2, [.ref b128_41_0, .ref b128_41_2, .int (nI 0), .ref a9, .ref a10, .ref b128_41_3, .ref b128_41_4, .ref b128_41_5])) := by rw [eg_42, hs_n _ _ (Ne.symm n_mo_a16)]; exact s128_41
                have f42_36 : g_42 b128_41_0 = some (.inr (5, [.ref b128_41_1, .int (nI 0)])) := by rw [eg_42, hs_n _ _ (Ne.symm n_mo_b128_41_0)]; exact y128_41_0
                have f42_37 : g_42 b128_41_1 = some (.inl (cI, 120, .inl (fun _ => 0))) := by rw [eg_42, hs_n _ _ (Ne.symm n_mo_b128_41_1)]; exact y128_41_1
                have f42_38 : g_42 b128_41_2 = some (.inl (cI, 183, .inl (fun _ => 0))) := by rw [eg_42, hs_n _ _ (Ne.symm n_mo_b128_41_2)]; exact y128_41_2
                have f42_39 : g_42 b128_41_3 = some (.inr (3, [.ref u128_41_0, .int (nI 0), .int (nI 0)])) := by rw [eg_42, hs_n _ _ (Ne.symm n_mo_b128_41_3)]; exact y128_41_3
                have f42_40 : g_42 b128_41_4 = some (.inr (3, [.ref u128_41_1, .int (nI 0), .int (nI 0)])) := by rw [eg_42, hs_n _ _ (Ne.symm n_mo_b128_41_4)]; exact y128_41_4
                have f42_41 : g_42 b128_41_5 = some (.inr (3, [.ref u128_41_2, .int (nI 0), .int (nI 0)])) := by rw [eg_42, hs_n _ _ (Ne.symm n_mo_b128_41_5)]; exact y128_41_5
                have f42_42 : g_42 mo = some (.inr (7, [.ref a1, .ref a11, .ref a12, .ref a13, .ref a15, .ref a16, .null])) := by rw [eg_42]; exact hs_s _ _ _
                have fr := fr.put eg_42 (by simp)
                refine lv_aload_n S0.1 S0.2.1 dMR_init_134 rfl (lv_at hl 3 rfl) ?_
                refine hw_new (fs := [.null, .null, .int (nI 0), .null, .null, .null, .null, .null]) S0 hK hg hS hA0 (ci := 2) rfl inMg tyMg tokMg lc_MR_52 insMg iniMg dflMg (Nat.le_trans (Nat.le_of_ble_eq_true rfl) hR.2.2.1) (Nat.le_trans (Nat.le_of_ble_eq_true rfl) hR.2.2.2) dMR_init_135 (fun a17 H ha17 hg hS => ?_)
                have n_a2_a17 : a2 ≠ a17 := h_nn f42_0 ha17
                have n_b32_4_0_a17 : b32_4_0 ≠ a17 := h_nn f42_1 ha17
                have n_a3_a17 : a3 ≠ a17 := h_nn f42_2 ha17
                have n_b32_7_0_a17 : b32_7_0 ≠ a17 := h_nn f42_3 ha17
                have n_a4_a17 : a4 ≠ a17 := h_nn f42_4 ha17
                have n_b32_10_0_a17 : b32_10_0 ≠ a17 := h_nn f42_5 ha17
                have n_a5_a17 : a5 ≠ a17 := h_nn f42_6 ha17
                have n_b32_13_0_a17 : b32_13_0 ≠ a17 := h_nn f42_7 ha17
                have n_a6_a17 : a6 ≠ a17 := h_nn f42_8 ha17
                have n_b32_16_0_a17 : b32_16_0 ≠ a17 := h_nn f42_9 ha17
                have n_a7_a17 : a7 ≠ a17 := h_nn f42_10 ha17
                have n_b32_19_0_a17 : b32_19_0 ≠ a17 := h_nn f42_11 ha17
                have n_a1_a17 : a1 ≠ a17 := h_nn f42_12 ha17
                have n_a8_a17 : a8 ≠ a17 := h_nn f42_13 ha17
                have n_a9_a17 : a9 ≠ a17 := h_nn f42_14 ha17
                have n_b53_23_0_a17 : b53_23_0 ≠ a17 := h_nn f42_15 ha17
                have n_b53_23_1_a17 : b53_23_1 ≠ a17 := h_nn f42_16 ha17
                have n_a10_a17 : a10 ≠ a17 := h_nn f42_17 ha17
                have n_b62_25_0_a17 : b62_25_0 ≠ a17 := h_nn f42_18 ha17
                have n_b62_25_1_a17 : b62_25_1 ≠ a17 := h_nn f42_19 ha17
                have n_a11_a17 : a11 ≠ a17 := h_nn f42_20 ha17
                have n_b72_27_0_a17 : b72_27_0 ≠ a17 := h_nn f42_21 ha17
                have n_b72_27_1_a17 : b72_27_1 ≠ a17 := h_nn f42_22 ha17
                have n_a12_a17 : a12 ≠ a17 := h_nn f42_23 ha17
                have n_b84_30_0_a17 : b84_30_0 ≠ a17 := h_nn f42_24 ha17
                have n_a14_a17 : a14 ≠ a17 := h_nn f42_25 ha17
                have n_b100_34_0_a17 : b100_34_0 ≠ a17 := h_nn f42_26 ha17
                have n_a13_a17 : a13 ≠ a17 := h_nn f42_27 ha17
                have n_b103_35_0_a17 : b103_35_0 ≠ a17 := h_nn f42_28 ha17
                have n_b103_35_1_a17 : b103_35_1 ≠ a17 := h_nn f42_29 ha17
                have n_a15_a17 : a15 ≠ a17 := h_nn f42_30 ha17
                have n_b115_38_0_a17 : b115_38_0 ≠ a17 := h_nn f42_31 ha17
                have n_b115_38_1_a17 : b115_38_1 ≠ a17 := h_nn f42_32 ha17
                have n_b115_38_2_a17 : b115_38_2 ≠ a17 := h_nn f42_33 ha17
                have n_b115_38_3_a17 : b115_38_3 ≠ a17 := h_nn f42_34 ha17
                have n_a16_a17 : a16 ≠ a17 := h_nn f42_35 ha17
                have n_b128_41_0_a17 : b128_41_0 ≠ a17 := h_nn f42_36 ha17
                have n_b128_41_1_a17 : b128_41_1 ≠ a17 := h_nn f42_37 ha17
                have n_b128_41_2_a17 : b128_41_2 ≠ a17 := h_nn f42_38 ha17
                have n_b128_41_3_a17 : b128_41_3 ≠ a17 := h_nn f42_39 ha17
                have n_b128_41_4_a17 : b128_41_4 ≠ a17 := h_nn f42_40 ha17
                have n_b128_41_5_a17 : b128_41_5 ≠ a17 := h_nn f42_41 ha17
                have n_mo_a17 : mo ≠ a17 := h_nn f42_42 ha17
                have z_a17 : g a17 = none := fr.nn ha17 (h_nm (Ne.symm n_mo_a17) h_n0)
                obtain ⟨g_43, eg_43⟩ : ∃ z, z = hs g_42 a17 (.inr (2, [.null, .null, .int (nI 0), .null, .null, .null, .null, .null])) := ⟨_, rfl⟩
                have hg : hw D hC AX g_43 H := by rw [eg_43]; exact hg
                have f43_0 : g_43 a2 = some (.inr (5, [.ref b32_4_0, .int (nI 0)])) := by rw [eg_43, hs_n _ _ n_a2_a17]; exact f42_0
                have f43_1 : g_43 b32_4_0 = some (.inl (cI, 60, .inl (fun _ => 0))) := by rw [eg_43, hs_n _ _ n_b32_4_0_a17]; exact f42_1
                have f43_2 : g_43 a3 = some (.inr (5, [.ref b32_7_0, .int (nI 0)])) := by rw [eg_43, hs_n _ _ n_a3_a17]; exact f42_2
                have f43_3 : g_43 b32_7_0 = some (.inl (cI, 60, .inl (fun _ => 0))) := by rw [eg_43, hs_n _ _ n_b32_7_0_a17]; exact f42_3
                have f43_4 : g_43 a4 = some (.inr (5, [.ref b32_10_0, .int (nI 0)])) := by rw [eg_43, hs_n _ _ n_a4_a17]; exact f42_4
                have f43_5 : g_43 b32_10_0 = some (.inl (cI, 60, .inl (fun _ => 0))) := by rw [eg_43, hs_n _ _ n_b32_10_0_a17]; exact f42_5
                have f43_6 : g_43 a5 = some (.inr (5, [.ref b32_13_0, .int (nI 0)])) := by rw [eg_43, hs_n _ _ n_a5_a17]; exact f42_6
                have f43_7 : g_43 b32_13_0 = some (.inl (cI, 60, .inl (fun _ => 0))) := by rw [eg_43, hs_n _ _ n_b32_13_0_a17]; exact f42_7
                have f43_8 : g_43 a6 = some (.inr (5, [.ref b32_16_0, .int (nI 0)])) := by rw [eg_43, hs_n _ _ n_a6_a17]; exact f42_8
                have f43_9 : g_43 b32_16_0 = some (.inl (cI, 60, .inl (fun _ => 0))) := by rw [eg_43, hs_n _ _ n_b32_16_0_a17]; exact f42_9
                have f43_10 : g_43 a7 = some (.inr (5, [.ref b32_19_0, .int (nI 0)])) := by rw [eg_43, hs_n _ _ n_a7_a17]; exact f42_10
                have f43_11 : g_43 b32_19_0 = some (.inl (cI, 60, .inl (fun _ => 0))) := by rw [eg_43, hs_n _ _ n_b32_19_0_a17]; exact f42_11
                have f43_12 : g_43 a1 = some (.inl (cR, 6, .inr (.inr (.inr (.inr (va_up (va_up (va_up (va_up (va_up (va_up (fun _ => none) 0 (some a2)) 1 (some a3)) 2 (some a4)) 3 (some a5)) 4 (some a6)) 5 (some a7))))))) := by rw [eg_43, hs_n _ _ n_a1_a17]; exact f42_12
                have f43_13 : g_43 a8 = some (.inl (cI, 3721, .inl (fun _ => 0))) := by rw [eg_43, hs_n _ _ n_a8_a17]; exact f42_13
                have f43_14 : g_43 a9 = some (.inr (0, [.ref b53_23_0, .ref b53_23_1, .int (nI 0), .ref a8])) := by rw [eg_43, hs_n _ _ n_a9_a17]; exact f42_14
                have f43_15 : g_43 b53_23_0 = some (.inl (cI, 60, .inl (fun _ => 0))) := by rw [eg_43, hs_n _ _ n_b53_23_0_a17]; exact f42_15
                have f43_16 : g_43 b53_23_1 = some (.inl (cI, 60, .inl (fun _ => 0))) := by rw [eg_43, hs_n _ _ n_b53_23_1_a17]; exact f42_16
                have f43_17 : g_43 a10 = some (.inr (0, [.ref b62_25_0, .ref b62_25_1, .int (nI 0), .ref a8])) := by rw [eg_43, hs_n _ _ n_a10_a17]; exact f42_17
                have f43_18 : g_43 b62_25_0 = some (.inl (cI, 60, .inl (fun _ => 0))) := by rw [eg_43, hs_n _ _ n_b62_25_0_a17]; exact f42_18
                have f43_19 : g_43 b62_25_1 = some (.inl (cI, 60, .inl (fun _ => 0))) := by rw [eg_43, hs_n _ _ n_b62_25_1_a17]; exact f42_19
                have f43_20 : g_43 a11 = some (.inr (0, [.ref b72_27_0, .ref b72_27_1, .int (nI 0), .ref a8])) := by rw [eg_43, hs_n _ _ n_a11_a17]; exact f42_20
                have f43_21 : g_43 b72_27_0 = some (.inl (cI, 60, .inl (fun _ => 0))) := by rw [eg_43, hs_n _ _ n_b72_27_0_a17]; exact f42_21
                have f43_22 : g_43 b72_27_1 = some (.inl (cI, 60, .inl (fun _ => 0))) := by rw [eg_43, hs_n _ _ n_b72_27_1_a17]; exact f42_22
                have f43_23 : g_43 a12 = some (.inr (1, [.ref b84_30_0, .int (nI 0), .ref a9])) := by rw [eg_43, hs_n _ _ n_a12_a17]; exact f42_23
                have f43_24 : g_43 b84_30_0 = some (.inl (cI, 244, .inl (fun _ => 0))) := by rw [eg_43, hs_n _ _ n_b84_30_0_a17]; exact f42_24
                have f43_25 : g_43 a14 = some (.inr (1, [.ref b100_34_0, .int (nI 0), .ref a9])) := by rw [eg_43, hs_n _ _ n_a14_a17]; exact f42_25
                have f43_26 : g_43 b100_34_0 = some (.inl (cI, 244, .inl (fun _ => 0))) := by rw [eg_43, hs_n _ _ n_b100_34_0_a17]; exact f42_26
                have f43_27 : g_43 a13 = some (.inr (4, [.ref b103_35_0, .int (nI 0), .ref a14])) := by rw [eg_43, hs_n _ _ n_a13_a17]; exact f42_27
                have f43_28 : g_43 b103_35_0 = some (.inr (5, [.ref b103_35_1, .int (nI 0)])) := by rw [eg_43, hs_n _ _ n_b103_35_0_a17]; exact f42_28
                have f43_29 : g_43 b103_35_1 = some (.inl (cI, 120, .inl (fun _ => 0))) := by rw [eg_43, hs_n _ _ n_b103_35_1_a17]; exact f42_29
                have f43_30 : g_43 a15 = some (.inr (6, [.ref b115_38_0, .ref b115_38_1, .int (nI 0), .ref b115_38_2, .ref a9])) := by rw [eg_43, hs_n _ _ n_a15_a17]; exact f42_30
                have f43_31 : g_43 b115_38_0 = some (.inl (cI, 30, .inl (fun _ => 0))) := by rw [eg_43, hs_n _ _ n_b115_38_0_a17]; exact f42_31
                have f43_32 : g_43 b115_38_1 = some (.inl (cI, 1800, .inl (fun _ => 0))) := by rw [eg_43, hs_n _ _ n_b115_38_1_a17]; exact f42_32
                have f43_33 : g_43 b115_38_2 = some (.inr (5, [.ref b115_38_3, .int (nI 0)])) := by rw [eg_43, hs_n _ _ n_b115_38_2_a17]; exact f42_33
                have f43_34 : g_43 b115_38_3 = some (.inl (cI, 60, .inl (fun _ => 0))) := by rw [eg_43, hs_n _ _ n_b115_38_3_a17]; exact f42_34
                have f43_35 : g_43 a16 = some (.inr (2, [.ref b128_41_0, .ref b128_41_2, .int (nI 0), .ref a9, .ref a10, .ref b128_41_3, .ref b128_41_4, .ref b128_41_5])) := by rw [eg_43, hs_n _ _ n_a16_a17]; exact f42_35
                have f43_36 : g_43 b128_41_0 = some (.inr (5, [.ref b128_41_1, .int (nI 0)])) := by rw [eg_43, hs_n _ _ n_b128_41_0_a17]; exact f42_36
                have f43_37 : g_43 b128_41_1 = some (.inl (cI, 120, .inl (fun _ => 0))) := by rw [eg_43, hs_n _ _ n_b128_41_1_a17]; exact f42_37
                have f43_38 : g_43 b128_41_2 = some (.inl (cI, 183, .inl (fun _ => 0))) := by rw [eg_43, hs_n _ _ n_b128_41_2_a17]; exact f42_38
                have f43_39 : g_43 b128_41_3 = some (.inr (3, [.ref u128_41_0, .int (nI 0), .int (nI 0)])) := by rw [eg_43, hs_n _ _ n_b128_41_3_a17]; exact f42_39
                have f43_40 : g_43 b128_41_4 = some (.inr (3, [.ref u128_41_1, .int (nI 0), .int (nI 0)])) := by rw [eg_43, hs_n _ _ n_b128_41_4_a17]; exact f42_40
                have f43_41 : g_43 b128_41_5 = some (.inr (3, [.ref u128_41_2, .int (nI 0), .int (nI 0)])) := by rw [eg_43, hs_n _ _ n_b128_41_5_a17]; exact f42_41
                have f43_42 : g_43 mo = some (.inr (7, [.ref a1, .ref a11, .ref a12, .ref a13, .ref a15, .ref a16, .null])) := by rw [eg_43, hs_n _ _ n_mo_a17]; exact f42_42
                have f43_43 : g_43 a17 = some (.inr (2, [.null, .null, .int (nI 0), .null, .null, .null, .null, .null])) := by rw [eg_43]; exact hs_s _ _ _
                have fr := fr.putN eg_43 z_a17
                refine lv_dup S0.1 S0.2.1 dMR_init_138 rfl ?_
                refine lv_aload_n S0.1 S0.2.1 dMR_init_139 rfl (lv_at hl 1 rfl) ?_
                refine lv_aload_n S0.1 S0.2.1 dMR_init_140 rfl (lv_at hl 0 rfl) ?_
                refine hw_I (As := [.ref a9, .ref a10]) (rest := [.ref a17, .ref mo]) S0 hK hg hS hA0 (c_Mg_init l D cI cR cJ g_43 _ a17 a9 a10 f43_43) kMg_init lm_MR_54 (hR.call rfl) rfl hl.1 rfl (Nat.le_of_ble_eq_true rfl) dMR_init_141 (hR.new (by decide) (by decide)) (fun g_44 H locs hp_141 hg hS => ?_)
                obtain ⟨b141_44_0, b141_44_1, b141_44_2, b141_44_3, b141_44_4, b141_44_5, z141_44_0, z141_44_1, z141_44_2, z141_44_3, z141_44_4, z141_44_5, frn141_44, s141_44, y141_44_0, y141_44_1, y141_44_2, u141_44_0, u141_44_1, u141_44_2, y141_44_3, y141_44_4, y141_44_5, w141_44_0, w141_44_1, w141_44_2, w141_44_3⟩ := hp_141
                have n_a2_b141_44_0 : a2 ≠ b141_44_0 := h_nn f43_0 z141_44_0
                have n_b32_4_0_b141_44_0 : b32_4_0 ≠ b141_44_0 := h_nn f43_1 z141_44_0
                have n_a3_b141_44_0 : a3 ≠ b141_44_0 := h_nn f43_2 z141_44_0
                have n_b32_7_0_b141_44_0 : b32_7_0 ≠ b141_44_0 := h_nn f43_3 z141_44_0
                have n_a4_b141_44_0 : a4 ≠ b141_44_0 := h_nn f43_4 z141_44_0
                have n_b32_10_0_b141_44_0 : b32_10_0 ≠ b141_44_0 := h_nn f43_5 z141_44_0
                have n_a5_b141_44_0 : a5 ≠ b141_44_0 := h_nn f43_6 z141_44_0
                have n_b32_13_0_b141_44_0 : b32_13_0 ≠ b141_44_0 := h_nn f43_7 z141_44_0
                have n_a6_b141_44_0 : a6 ≠ b141_44_0 := h_nn f43_8 z141_44_0
                have n_b32_16_0_b141_44_0 : b32_16_0 ≠ b141_44_0 := h_nn f43_9 z141_44_0
                have n_a7_b141_44_0 : a7 ≠ b141_44_0 := h_nn f43_10 z141_44_0
                have n_b32_19_0_b141_44_0 : b32_19_0 ≠ b141_44_0 := h_nn f43_11 z141_44_0
                have n_a1_b141_44_0 : a1 ≠ b141_44_0 := h_nn f43_12 z141_44_0
                have n_a8_b141_44_0 : a8 ≠ b141_44_0 := h_nn f43_13 z141_44_0
                have n_a9_b141_44_0 : a9 ≠ b141_44_0 := h_nn f43_14 z141_44_0
                have n_b53_23_0_b141_44_0 : b53_23_0 ≠ b141_44_0 := h_nn f43_15 z141_44_0
                have n_b53_23_1_b141_44_0 : b53_23_1 ≠ b141_44_0 := h_nn f43_16 z141_44_0
                have n_a10_b141_44_0 : a10 ≠ b141_44_0 := h_nn f43_17 z141_44_0
                have n_b62_25_0_b141_44_0 : b62_25_0 ≠ b141_44_0 := h_nn f43_18 z141_44_0
                have n_b62_25_1_b141_44_0 : b62_25_1 ≠ b141_44_0 := h_nn f43_19 z141_44_0
                have n_a11_b141_44_0 : a11 ≠ b141_44_0 := h_nn f43_20 z141_44_0
                have n_b72_27_0_b141_44_0 : b72_27_0 ≠ b141_44_0 := h_nn f43_21 z141_44_0
                have n_b72_27_1_b141_44_0 : b72_27_1 ≠ b141_44_0 := h_nn f43_22 z141_44_0
                have n_a12_b141_44_0 : a12 ≠ b141_44_0 := h_nn f43_23 z141_44_0
                have n_b84_30_0_b141_44_0 : b84_30_0 ≠ b141_44_0 := h_nn f43_24 z141_44_0
                have n_a14_b141_44_0 : a14 ≠ b141_44_0 := h_nn f43_25 z141_44_0
                have n_b100_34_0_b141_44_0 : b100_34_0 ≠ b141_44_0 := h_nn f43_26 z141_44_0
                have n_a13_b141_44_0 : a13 ≠ b141_44_0 := h_nn f43_27 z141_44_0
                have n_b103_35_0_b141_44_0 : b103_35_0 ≠ b141_44_0 := h_nn f43_28 z141_44_0
                have n_b103_35_1_b141_44_0 : b103_35_1 ≠ b141_44_0 := h_nn f43_29 z141_44_0
                have n_a15_b141_44_0 : a15 ≠ b141_44_0 := h_nn f43_30 z141_44_0
                have n_b115_38_0_b141_44_0 : b115_38_0 ≠ b141_44_0 := h_nn f43_31 z141_44_0
                have n_b115_38_1_b141_44_0 : b115_38_1 ≠ b141_44_0 := h_nn f43_32 z141_44_0
                have n_b115_38_2_b141_44_0 : b115_38_2 ≠ b141_44_0 := h_nn f43_33 z141_44_0
                have n_b115_38_3_b141_44_0 : b115_38_3 ≠ b141_44_0 := h_nn f43_34 z141_44_0
                have n_a16_b141_44_0 : a16 ≠ b141_44_0 := h_nn f43_35 z141_44_0
                have n_b128_41_0_b141_44_0 : b128_41_0 ≠ b141_44_0 := h_nn f43_36 z141_44_0
                have n_b128_41_1_b141_44_0 : b128_41_1 ≠ b141_44_0 := h_nn f43_37 z141_44_0
                have n_b128_41_2_b141_44_0 : b128_41_2 ≠ b141_44_0 := h_nn f43_38 z141_44_0
                have n_b128_41_3_b141_44_0 : b128_41_3 ≠ b141_44_0 := h_nn f43_39 z141_44_0
                have n_b128_41_4_b141_44_0 : b128_41_4 ≠ b141_44_0 := h_nn f43_40 z141_44_0
                have n_b128_41_5_b141_44_0 : b128_41_5 ≠ b141_44_0 := h_nn f43_41 z141_44_0
                have n_mo_b141_44_0 : mo ≠ b141_44_0 := h_nn f43_42 z141_44_0
                have n_a17_b141_44_0 : a17 ≠ b141_44_0 := h_nn f43_43 z141_44_0
                have n_a2_b141_44_1 : a2 ≠ b141_44_1 := h_nn f43_0 z141_44_1
                have n_b32_4_0_b141_44_1 : b32_4_0 ≠ b141_44_1 := h_nn f43_1 z141_44_1
                have n_a3_b141_44_1 : a3 ≠ b141_44_1 := h_nn f43_2 z141_44_1
                have n_b32_7_0_b141_44_1 : b32_7_0 ≠ b141_44_1 := h_nn f43_3 z141_44_1
                have n_a4_b141_44_1 : a4 ≠ b141_44_1 := h_nn f43_4 z141_44_1
                have n_b32_10_0_b141_44_1 : b32_10_0 ≠ b141_44_1 := h_nn f43_5 z141_44_1
                have n_a5_b141_44_1 : a5 ≠ b141_44_1 := h_nn f43_6 z141_44_1
                have n_b32_13_0_b141_44_1 : b32_13_0 ≠ b141_44_1 := h_nn f43_7 z141_44_1
                have n_a6_b141_44_1 : a6 ≠ b141_44_1 := h_nn f43_8 z141_44_1
                have n_b32_16_0_b141_44_1 : b32_16_0 ≠ b141_44_1 := h_nn f43_9 z141_44_1
                have n_a7_b141_44_1 : a7 ≠ b141_44_1 := h_nn f43_10 z141_44_1
                have n_b32_19_0_b141_44_1 : b32_19_0 ≠ b141_44_1 := h_nn f43_11 z141_44_1
                have n_a1_b141_44_1 : a1 ≠ b141_44_1 := h_nn f43_12 z141_44_1
                have n_a8_b141_44_1 : a8 ≠ b141_44_1 := h_nn f43_13 z141_44_1
                have n_a9_b141_44_1 : a9 ≠ b141_44_1 := h_nn f43_14 z141_44_1
                have n_b53_23_0_b141_44_1 : b53_23_0 ≠ b141_44_1 := h_nn f43_15 z141_44_1
                have n_b53_23_1_b141_44_1 : b53_23_1 ≠ b141_44_1 := h_nn f43_16 z141_44_1
                have n_a10_b141_44_1 : a10 ≠ b141_44_1 := h_nn f43_17 z141_44_1
                have n_b62_25_0_b141_44_1 : b62_25_0 ≠ b141_44_1 := h_nn f43_18 z141_44_1
                have n_b62_25_1_b141_44_1 : b62_25_1 ≠ b141_44_1 := h_nn f43_19 z141_44_1
                have n_a11_b141_44_1 : a11 ≠ b141_44_1 := h_nn f43_20 z141_44_1
                have n_b72_27_0_b141_44_1 : b72_27_0 ≠ b141_44_1 := h_nn f43_21 z141_44_1
                have n_b72_27_1_b141_44_1 : b72_27_1 ≠ b141_44_1 := h_nn f43_22 z141_44_1
                have n_a12_b141_44_1 : a12 ≠ b141_44_1 := h_nn f43_23 z141_44_1
                have n_b84_30_0_b141_44_1 : b84_30_0 ≠ b141_44_1 := h_nn f43_24 z141_44_1
                have n_a14_b141_44_1 : a14 ≠ b141_44_1 := h_nn f43_25 z141_44_1
                have n_b100_34_0_b141_44_1 : b100_34_0 ≠ b141_44_1 := h_nn f43_26 z141_44_1
                have n_a13_b141_44_1 : a13 ≠ b141_44_1 := h_nn f43_27 z141_44_1
                have n_b103_35_0_b141_44_1 : b103_35_0 ≠ b141_44_1 := h_nn f43_28 z141_44_1
                have n_b103_35_1_b141_44_1 : b103_35_1 ≠ b141_44_1 := h_nn f43_29 z141_44_1
                have n_a15_b141_44_1 : a15 ≠ b141_44_1 := h_nn f43_30 z141_44_1
                have n_b115_38_0_b141_44_1 : b115_38_0 ≠ b141_44_1 := h_nn f43_31 z141_44_1
                have n_b115_38_1_b141_44_1 : b115_38_1 ≠ b141_44_1 := h_nn f43_32 z141_44_1
                have n_b115_38_2_b141_44_1 : b115_38_2 ≠ b141_44_1 := h_nn f43_33 z141_44_1
                have n_b115_38_3_b141_44_1 : b115_38_3 ≠ b141_44_1 := h_nn f43_34 z141_44_1
                have n_a16_b141_44_1 : a16 ≠ b141_44_1 := h_nn f43_35 z141_44_1
                have n_b128_41_0_b141_44_1 : b128_41_0 ≠ b141_44_1 := h_nn f43_36 z141_44_1
                have n_b128_41_1_b141_44_1 : b128_41_1 ≠ b141_44_1 := h_nn f43_37 z141_44_1
                have n_b128_41_2_b141_44_1 : b128_41_2 ≠ b141_44_1 := h_nn f43_38 z141_44_1
                have n_b128_41_3_b141_44_1 : b128_41_3 ≠ b141_44_1 := h_nn f43_39 z141_44_1
                have n_b128_41_4_b141_44_1 : b128_41_4 ≠ b141_44_1 := h_nn f43_40 z141_44_1
                have n_b128_41_5_b141_44_1 : b128_41_5 ≠ b141_44_1 := h_nn f43_41 z141_44_1
                have n_mo_b141_44_1 : mo ≠ b141_44_1 := h_nn f43_42 z141_44_1
                have n_a17_b141_44_1 : a17 ≠ b141_44_1 := h_nn f43_43 z141_44_1
                have n_a2_b141_44_2 : a2 ≠ b141_44_2 := h_nn f43_0 z141_44_2
                have n_b32_4_0_b141_44_2 : b32_4_0 ≠ b141_44_2 := h_nn f43_1 z141_44_2
                have n_a3_b141_44_2 : a3 ≠ b141_44_2 := h_nn f43_2 z141_44_2
                have n_b32_7_0_b141_44_2 : b32_7_0 ≠ b141_44_2 := h_nn f43_3 z141_44_2
                have n_a4_b141_44_2 : a4 ≠ b141_44_2 := h_nn f43_4 z141_44_2
                have n_b32_10_0_b141_44_2 : b32_10_0 ≠ b141_44_2 := h_nn f43_5 z141_44_2
                have n_a5_b141_44_2 : a5 ≠ b141_44_2 := h_nn f43_6 z141_44_2
                have n_b32_13_0_b141_44_2 : b32_13_0 ≠ b141_44_2 := h_nn f43_7 z141_44_2
                have n_a6_b141_44_2 : a6 ≠ b141_44_2 := h_nn f43_8 z141_44_2
                have n_b32_16_0_b141_44_2 : b32_16_0 ≠ b141_44_2 := h_nn f43_9 z141_44_2
                have n_a7_b141_44_2 : a7 ≠ b141_44_2 := h_nn f43_10 z141_44_2
                have n_b32_19_0_b141_44_2 : b32_19_0 ≠ b141_44_2 := h_nn f43_11 z141_44_2
                have n_a1_b141_44_2 : a1 ≠ b141_44_2 := h_nn f43_12 z141_44_2
                have n_a8_b141_44_2 : a8 ≠ b141_44_2 := h_nn f43_13 z141_44_2
                have n_a9_b141_44_2 : a9 ≠ b141_44_2 := h_nn f43_14 z141_44_2
                have n_b53_23_0_b141_44_2 : b53_23_0 ≠ b141_44_2 := h_nn f43_15 z141_44_2
                have n_b53_23_1_b141_44_2 : b53_23_1 ≠ b141_44_2 := h_nn f43_16 z141_44_2
                have n_a10_b141_44_2 : a10 ≠ b141_44_2 := h_nn f43_17 z141_44_2
                have n_b62_25_0_b141_44_2 : b62_25_0 ≠ b141_44_2 := h_nn f43_18 z141_44_2
                have n_b62_25_1_b141_44_2 : b62_25_1 ≠ b141_44_2 := h_nn f43_19 z141_44_2
                have n_a11_b141_44_2 : a11 ≠ b141_44_2 := h_nn f43_20 z141_44_2
                have n_b72_27_0_b141_44_2 : b72_27_0 ≠ b141_44_2 := h_nn f43_21 z141_44_2
                have n_b72_27_1_b141_44_2 : b72_27_1 ≠ b141_44_2 := h_nn f43_22 z141_44_2
                have n_a12_b141_44_2 : a12 ≠ b141_44_2 := h_nn f43_23 z141_44_2
                have n_b84_30_0_b141_44_2 : b84_30_0 ≠ b141_44_2 := h_nn f43_24 z141_44_2
                have n_a14_b141_44_2 : a14 ≠ b141_44_2 := h_nn f43_25 z141_44_2
                have n_b100_34_0_b141_44_2 : b100_34_0 ≠ b141_44_2 := h_nn f43_26 z141_44_2
                have n_a13_b141_44_2 : a13 ≠ b141_44_2 := h_nn f43_27 z141_44_2
                have n_b103_35_0_b141_44_2 : b103_35_0 ≠ b141_44_2 := h_nn f43_28 z141_44_2
                have n_b103_35_1_b141_44_2 : b103_35_1 ≠ b141_44_2 := h_nn f43_29 z141_44_2
                have n_a15_b141_44_2 : a15 ≠ b141_44_2 := h_nn f43_30 z141_44_2
                have n_b115_38_0_b141_44_2 : b115_38_0 ≠ b141_44_2 := h_nn f43_31 z141_44_2
                have n_b115_38_1_b141_44_2 : b115_38_1 ≠ b141_44_2 := h_nn f43_32 z141_44_2
                have n_b115_38_2_b141_44_2 : b115_38_2 ≠ b141_44_2 := h_nn f43_33 z141_44_2
                have n_b115_38_3_b141_44_2 : b115_38_3 ≠ b141_44_2 := h_nn f43_34 z141_44_2
                have n_a16_b141_44_2 : a16 ≠ b141_44_2 := h_nn f43_35 z141_44_2
                have n_b128_41_0_b141_44_2 : b128_41_0 ≠ b141_44_2 := h_nn f43_36 z141_44_2
                have n_b128_41_1_b141_44_2 : b128_41_1 ≠ b141_44_2 := h_nn f43_37 z141_44_2
                have n_b128_41_2_b141_44_2 : b128_41_2 ≠ b141_44_2 := h_nn f43_38 z141_44_2
                have n_b128_41_3_b141_44_2 : b128_41_3 ≠ b141_44_2 := h_nn f43_39 z141_44_2
                have n_b128_41_4_b141_44_2 : b128_41_4 ≠ b141_44_2 := h_nn f43_40 z141_44_2
                have n_b128_41_5_b141_44_2 : b128_41_5 ≠ b141_44_2 := h_nn f43_41 z141_44_2
                have n_mo_b141_44_2 : mo ≠ b141_44_2 := h_nn f43_42 z141_44_2
                have n_a17_b141_44_2 : a17 ≠ b141_44_2 := h_nn f43_43 z141_44_2
                have n_a2_b141_44_3 : a2 ≠ b141_44_3 := h_nn f43_0 z141_44_3
                have n_b32_4_0_b141_44_3 : b32_4_0 ≠ b141_44_3 := h_nn f43_1 z141_44_3
                have n_a3_b141_44_3 : a3 ≠ b141_44_3 := h_nn f43_2 z141_44_3
                have n_b32_7_0_b141_44_3 : b32_7_0 ≠ b141_44_3 := h_nn f43_3 z141_44_3
                have n_a4_b141_44_3 : a4 ≠ b141_44_3 := h_nn f43_4 z141_44_3
                have n_b32_10_0_b141_44_3 : b32_10_0 ≠ b141_44_3 := h_nn f43_5 z141_44_3
                have n_a5_b141_44_3 : a5 ≠ b141_44_3 := h_nn f43_6 z141_44_3
                have n_b32_13_0_b141_44_3 : b32_13_0 ≠ b141_44_3 := h_nn f43_7 z141_44_3
                have n_a6_b141_44_3 : a6 ≠ b141_44_3 := h_nn f43_8 z141_44_3
                have n_b32_16_0_b141_44_3 : b32_16_0 ≠ b141_44_3 := h_nn f43_9 z141_44_3
                have n_a7_b141_44_3 : a7 ≠ b141_44_3 := h_nn f43_10 z141_44_3
                have n_b32_19_0_b141_44_3 : b32_19_0 ≠ b141_44_3 := h_nn f43_11 z141_44_3
                have n_a1_b141_44_3 : a1 ≠ b141_44_3 := h_nn f43_12 z141_44_3
                have n_a8_b141_44_3 : a8 ≠ b141_44_3 := h_nn f43_13 z141_44_3
                have n_a9_b141_44_3 : a9 ≠ b141_44_3 := h_nn f43_14 z141_44_3
                have n_b53_23_0_b141_44_3 : b53_23_0 ≠ b141_44_3 := h_nn f43_15 z141_44_3
                have n_b53_23_1_b141_44_3 : b53_23_1 ≠ b141_44_3 := h_nn f43_16 z141_44_3
                have n_a10_b141_44_3 : a10 ≠ b141_44_3 := h_nn f43_17 z141_44_3
                have n_b62_25_0_b141_44_3 : b62_25_0 ≠ b141_44_3 := h_nn f43_18 z141_44_3
                have n_b62_25_1_b141_44_3 : b62_25_1 ≠ b141_44_3 := h_nn f43_19 z141_44_3
                have n_a11_b141_44_3 : a11 ≠ b141_44_3 := h_nn f43_20 z141_44_3
                have n_b72_27_0_b141_44_3 : b72_27_0 ≠ b141_44_3 := h_nn f43_21 z141_44_3
                have n_b72_27_1_b141_44_3 : b72_27_1 ≠ b141_44_3 := h_nn f43_22 z141_44_3
                have n_a12_b141_44_3 : a12 ≠ b141_44_3 := h_nn f43_23 z141_44_3
                have n_b84_30_0_b141_44_3 : b84_30_0 ≠ b141_44_3 := h_nn f43_24 z141_44_3
                have n_a14_b141_44_3 : a14 ≠ b141_44_3 := h_nn f43_25 z141_44_3
                have n_b100_34_0_b141_44_3 : b100_34_0 ≠ b141_44_3 := h_nn f43_26 z141_44_3
                have n_a13_b141_44_3 : a13 ≠ b141_44_3 := h_nn f43_27 z141_44_3
                have n_b103_35_0_b141_44_3 : b103_35_0 ≠ b141_44_3 := h_nn f43_28 z141_44_3
                have n_b103_35_1_b141_44_3 : b103_35_1 ≠ b141_44_3 := h_nn f43_29 z141_44_3
                have n_a15_b141_44_3 : a15 ≠ b141_44_3 := h_nn f43_30 z141_44_3
                have n_b115_38_0_b141_44_3 : b115_38_0 ≠ b141_44_3 := h_nn f43_31 z141_44_3
                have n_b115_38_1_b141_44_3 : b115_38_1 ≠ b141_44_3 := h_nn f43_32 z141_44_3
                have n_b115_38_2_b141_44_3 : b115_38_2 ≠ b141_44_3 := h_nn f43_33 z141_44_3
                have n_b115_38_3_b141_44_3 : b115_38_3 ≠ b141_44_3 := h_nn f43_34 z141_44_3
                have n_a16_b141_44_3 : a16 ≠ b141_44_3 := h_nn f43_35 z141_44_3
                have n_b128_41_0_b141_44_3 : b128_41_0 ≠ b141_44_3 := h_nn f43_36 z141_44_3
                have n_b128_41_1_b141_44_3 : b128_41_1 ≠ b141_44_3 := h_nn f43_37 z141_44_3
                have n_b128_41_2_b141_44_3 : b128_41_2 ≠ b141_44_3 := h_nn f43_38 z141_44_3
                have n_b128_41_3_b141_44_3 : b128_41_3 ≠ b141_44_3 := h_nn f43_39 z141_44_3
                have n_b128_41_4_b141_44_3 : b128_41_4 ≠ b141_44_3 := h_nn f43_40 z141_44_3
                have n_b128_41_5_b141_44_3 : b128_41_5 ≠ b141_44_3 := h_nn f43_41 z141_44_3
                have n_mo_b141_44_3 : mo ≠ b141_44_3 := h_nn f43_42 z141_44_3
                have n_a17_b141_44_3 : a17 ≠ b141_44_3 := h_nn f43_43 z141_44_3
                have n_a2_b141_44_4 : a2 ≠ b141_44_4 := h_nn f43_0 z141_44_4
                have n_b32_4_0_b141_44_4 : b32_4_0 ≠ b141_44_4 := h_nn f43_1 z141_44_4
                have n_a3_b141_44_4 : a3 ≠ b141_44_4 := h_nn f43_2 z141_44_4
                have n_b32_7_0_b141_44_4 : b32_7_0 ≠ b141_44_4 := h_nn f43_3 z141_44_4
                have n_a4_b141_44_4 : a4 ≠ b141_44_4 := h_nn f43_4 z141_44_4
                have n_b32_10_0_b141_44_4 : b32_10_0 ≠ b141_44_4 := h_nn f43_5 z141_44_4
                have n_a5_b141_44_4 : a5 ≠ b141_44_4 := h_nn f43_6 z141_44_4
                have n_b32_13_0_b141_44_4 : b32_13_0 ≠ b141_44_4 := h_nn f43_7 z141_44_4
                have n_a6_b141_44_4 : a6 ≠ b141_44_4 := h_nn f43_8 z141_44_4
                have n_b32_16_0_b141_44_4 : b32_16_0 ≠ b141_44_4 := h_nn f43_9 z141_44_4
                have n_a7_b141_44_4 : a7 ≠ b141_44_4 := h_nn f43_10 z141_44_4
                have n_b32_19_0_b141_44_4 : b32_19_0 ≠ b141_44_4 := h_nn f43_11 z141_44_4
                have n_a1_b141_44_4 : a1 ≠ b141_44_4 := h_nn f43_12 z141_44_4
                have n_a8_b141_44_4 : a8 ≠ b141_44_4 := h_nn f43_13 z141_44_4
                have n_a9_b141_44_4 : a9 ≠ b141_44_4 := h_nn f43_14 z141_44_4
                have n_b53_23_0_b141_44_4 : b53_23_0 ≠ b141_44_4 := h_nn f43_15 z141_44_4
                have n_b53_23_1_b141_44_4 : b53_23_1 ≠ b141_44_4 := h_nn f43_16 z141_44_4
                have n_a10_b141_44_4 : a10 ≠ b141_44_4 := h_nn f43_17 z141_44_4
                have n_b62_25_0_b141_44_4 : b62_25_0 ≠ b141_44_4 := h_nn f43_18 z141_44_4
                have n_b62_25_1_b141_44_4 : b62_25_1 ≠ b141_44_4 := h_nn f43_19 z141_44_4
                have n_a11_b141_44_4 : a11 ≠ b141_44_4 := h_nn f43_20 z141_44_4
                have n_b72_27_0_b141_44_4 : b72_27_0 ≠ b141_44_4 := h_nn f43_21 z141_44_4
                have n_b72_27_1_b141_44_4 : b72_27_1 ≠ b141_44_4 := h_nn f43_22 z141_44_4
                have n_a12_b141_44_4 : a12 ≠ b141_44_4 := h_nn f43_23 z141_44_4
                have n_b84_30_0_b141_44_4 : b84_30_0 ≠ b141_44_4 := h_nn f43_24 z141_44_4
                have n_a14_b141_44_4 : a14 ≠ b141_44_4 := h_nn f43_25 z141_44_4
                have n_b100_34_0_b141_44_4 : b100_34_0 ≠ b141_44_4 := h_nn f43_26 z141_44_4
                have n_a13_b141_44_4 : a13 ≠ b141_44_4 := h_nn f43_27 z141_44_4
                have n_b103_35_0_b141_44_4 : b103_35_0 ≠ b141_44_4 := h_nn f43_28 z141_44_4
                have n_b103_35_1_b141_44_4 : b103_35_1 ≠ b141_44_4 := h_nn f43_29 z141_44_4
                have n_a15_b141_44_4 : a15 ≠ b141_44_4 := h_nn f43_30 z141_44_4
                have n_b115_38_0_b141_44_4 : b115_38_0 ≠ b141_44_4 := h_nn f43_31 z141_44_4
                have n_b115_38_1_b141_44_4 : b115_38_1 ≠ b141_44_4 := h_nn f43_32 z141_44_4
                have n_b115_38_2_b141_44_4 : b115_38_2 ≠ b141_44_4 := h_nn f43_33 z141_44_4
                have n_b115_38_3_b141_44_4 : b115_38_3 ≠ b141_44_4 := h_nn f43_34 z141_44_4
                have n_a16_b141_44_4 : a16 ≠ b141_44_4 := h_nn f43_35 z141_44_4
                have n_b128_41_0_b141_44_4 : b128_41_0 ≠ b141_44_4 := h_nn f43_36 z141_44_4
                have n_b128_41_1_b141_44_4 : b128_41_1 ≠ b141_44_4 := h_nn f43_37 z141_44_4
                have n_b128_41_2_b141_44_4 : b128_41_2 ≠ b141_44_4 := h_nn f43_38 z141_44_4
                have n_b128_41_3_b141_44_4 : b128_41_3 ≠ b141_44_4 := h_nn f43_39 z141_44_4
                have n_b128_41_4_b141_44_4 : b128_41_4 ≠ b141_44_4 := h_nn f43_40 z141_44_4
                have n_b128_41_5_b141_44_4 : b128_41_5 ≠ b141_44_4 := h_nn f43_41 z141_44_4
                have n_mo_b141_44_4 : mo ≠ b141_44_4 := h_nn f43_42 z141_44_4
                have n_a17_b141_44_4 : a17 ≠ b141_44_4 := h_nn f43_43 z141_44_4
                have n_a2_b141_44_5 : a2 ≠ b141_44_5 := h_nn f43_0 z141_44_5
                have n_b32_4_0_b141_44_5 : b32_4_0 ≠ b141_44_5 := h_nn f43_1 z141_44_5
                have n_a3_b141_44_5 : a3 ≠ b141_44_5 := h_nn f43_2 z141_44_5
                have n_b32_7_0_b141_44_5 : b32_7_0 ≠ b141_44_5 := h_nn f43_3 z141_44_5
                have n_a4_b141_44_5 : a4 ≠ b141_44_5 := h_nn f43_4 z141_44_5
                have n_b32_10_0_b141_44_5 : b32_10_0 ≠ b141_44_5 := h_nn f43_5 z141_44_5
                have n_a5_b141_44_5 : a5 ≠ b141_44_5 := h_nn f43_6 z141_44_5
                have n_b32_13_0_b141_44_5 : b32_13_0 ≠ b141_44_5 := h_nn f43_7 z141_44_5
                have n_a6_b141_44_5 : a6 ≠ b141_44_5 := h_nn f43_8 z141_44_5
                have n_b32_16_0_b141_44_5 : b32_16_0 ≠ b141_44_5 := h_nn f43_9 z141_44_5
                have n_a7_b141_44_5 : a7 ≠ b141_44_5 := h_nn f43_10 z141_44_5
                have n_b32_19_0_b141_44_5 : b32_19_0 ≠ b141_44_5 := h_nn f43_11 z141_44_5
                have n_a1_b141_44_5 : a1 ≠ b141_44_5 := h_nn f43_12 z141_44_5
                have n_a8_b141_44_5 : a8 ≠ b141_44_5 := h_nn f43_13 z141_44_5
                have n_a9_b141_44_5 : a9 ≠ b141_44_5 := h_nn f43_14 z141_44_5
                have n_b53_23_0_b141_44_5 : b53_23_0 ≠ b141_44_5 := h_nn f43_15 z141_44_5
                have n_b53_23_1_b141_44_5 : b53_23_1 ≠ b141_44_5 := h_nn f43_16 z141_44_5
                have n_a10_b141_44_5 : a10 ≠ b141_44_5 := h_nn f43_17 z141_44_5
                have n_b62_25_0_b141_44_5 : b62_25_0 ≠ b141_44_5 := h_nn f43_18 z141_44_5
                have n_b62_25_1_b141_44_5 : b62_25_1 ≠ b141_44_5 := h_nn f43_19 z141_44_5
                have n_a11_b141_44_5 : a11 ≠ b141_44_5 := h_nn f43_20 z141_44_5
                have n_b72_27_0_b141_44_5 : b72_27_0 ≠ b141_44_5 := h_nn f43_21 z141_44_5
                have n_b72_27_1_b141_44_5 : b72_27_1 ≠ b141_44_5 := h_nn f43_22 z141_44_5
                have n_a12_b141_44_5 : a12 ≠ b141_44_5 := h_nn f43_23 z141_44_5
                have n_b84_30_0_b141_44_5 : b84_30_0 ≠ b141_44_5 := h_nn f43_24 z141_44_5
                have n_a14_b141_44_5 : a14 ≠ b141_44_5 := h_nn f43_25 z141_44_5
                have n_b100_34_0_b141_44_5 : b100_34_0 ≠ b141_44_5 := h_nn f43_26 z141_44_5
                have n_a13_b141_44_5 : a13 ≠ b141_44_5 := h_nn f43_27 z141_44_5
                have n_b103_35_0_b141_44_5 : b103_35_0 ≠ b141_44_5 := h_nn f43_28 z141_44_5
                have n_b103_35_1_b141_44_5 : b103_35_1 ≠ b141_44_5 := h_nn f43_29 z141_44_5
                have n_a15_b141_44_5 : a15 ≠ b141_44_5 := h_nn f43_30 z141_44_5
                have n_b115_38_0_b141_44_5 : b115_38_0 ≠ b141_44_5 := h_nn f43_31 z141_44_5
                have n_b115_38_1_b141_44_5 : b115_38_1 ≠ b141_44_5 := h_nn f43_32 z141_44_5
                have n_b115_38_2_b141_44_5 : b115_38_2 ≠ b141_44_5 := h_nn f43_33 z141_44_5
                have n_b115_38_3_b141_44_5 : b115_38_3 ≠ b141_44_5 := h_nn f43_34 z141_44_5
                have n_a16_b141_44_5 : a16 ≠ b141_44_5 := h_nn f43_35 z141_44_5
                have n_b128_41_0_b141_44_5 : b128_41_0 ≠ b141_44_5 := h_nn f43_36 z141_44_5
                have n_b128_41_1_b141_44_5 : b128_41_1 ≠ b141_44_5 := h_nn f43_37 z141_44_5
                have n_b128_41_2_b141_44_5 : b128_41_2 ≠ b141_44_5 := h_nn f43_38 z141_44_5
                have n_b128_41_3_b141_44_5 : b128_41_3 ≠ b141_44_5 := h_nn f43_39 z141_44_5
                have n_b128_41_4_b141_44_5 : b128_41_4 ≠ b141_44_5 := h_nn f43_40 z141_44_5
                have n_b128_41_5_b141_44_5 : b128_41_5 ≠ b141_44_5 := h_nn f43_41 z141_44_5
                have n_mo_b141_44_5 : mo ≠ b141_44_5 := h_nn f43_42 z141_44_5
                have n_a17_b141_44_5 : a17 ≠ b141_44_5 := h_nn f43_43 z141_44_5
                have k44_0 := frn141_44.at (h_nm n_a2_a17 h_n0) f43_0
                have k44_1 := frn141_44.at (h_nm n_b32_4_0_a17 h_n0) f43_1
                have k44_2 := frn141_44.at (h_nm n_a3_a17 h_n0) f43_2
                have k44_3 := frn141_44.at (h_nm n_b32_7_0_a17 h_n0) f43_3
                have k44_4 := frn141_44.at (h_nm n_a4_a17 h_n0) f43_4
                have k44_5 := frn141_44.at (h_nm n_b32_10_0_a17 h_n0) f43_5
                have k44_6 := frn141_44.at (h_nm n_a5_a17 h_n0) f43_6
                have k44_7 := frn141_44.at (h_nm n_b32_13_0_a17 h_n0) f43_7
                have k44_8 := frn141_44.at (h_nm n_a6_a17 h_n0) f43_8
                have k44_9 := frn141_44.at (h_nm n_b32_16_0_a17 h_n0) f43_9
                have k44_10 := frn141_44.at (h_nm n_a7_a17 h_n0) f43_10
                have k44_11 := frn141_44.at (h_nm n_b32_19_0_a17 h_n0) f43_11
                have k44_12 := frn141_44.at (h_nm n_a1_a17 h_n0) f43_12
                have k44_13 := frn141_44.at (h_nm n_a8_a17 h_n0) f43_13
                have k44_14 := frn141_44.at (h_nm n_a9_a17 h_n0) f43_14
                have k44_15 := frn141_44.at (h_nm n_b53_23_0_a17 h_n0) f43_15
                have k44_16 := frn141_44.at (h_nm n_b53_23_1_a17 h_n0) f43_16
                have k44_17 := frn141_44.at (h_nm n_a10_a17 h_n0) f43_17
                have k44_18 := frn141_44.at (h_nm n_b62_25_0_a17 h_n0) f43_18
                have k44_19 := frn141_44.at (h_nm n_b62_25_1_a17 h_n0) f43_19
                have k44_20 := frn141_44.at (h_nm n_a11_a17 h_n0) f43_20
                have k44_21 := frn141_44.at (h_nm n_b72_27_0_a17 h_n0) f43_21
                have k44_22 := frn141_44.at (h_nm n_b72_27_1_a17 h_n0) f43_22
                have k44_23 := frn141_44.at (h_nm n_a12_a17 h_n0) f43_23
                have k44_24 := frn141_44.at (h_nm n_b84_30_0_a17 h_n0) f43_24
                have k44_25 := frn141_44.at (h_nm n_a14_a17 h_n0) f43_25
                have k44_26 := frn141_44.at (h_nm n_b100_34_0_a17 h_n0) f43_26
                have k44_27 := frn141_44.at (h_nm n_a13_a17 h_n0) f43_27
                have k44_28 := frn141_44.at (h_nm n_b103_35_0_a17 h_n0) f43_28
                have k44_29 := frn141_44.at (h_nm n_b103_35_1_a17 h_n0) f43_29
                have k44_30 := frn141_44.at (h_nm n_a15_a17 h_n0) f43_30
                have k44_31 := frn141_44.at (h_nm n_b115_38_0_a17 h_n0) f43_31
                have k44_32 := frn141_44.at (h_nm n_b115_38_1_a17 h_n0) f43_32
                have k44_33 := frn141_44.at (h_nm n_b115_38_2_a17 h_n0) f43_33
                have k44_34 := frn141_44.at (h_nm n_b115_38_3_a17 h_n0) f43_34
                have k44_35 := frn141_44.at (h_nm n_a16_a17 h_n0) f43_35
                have k44_36 := frn141_44.at (h_nm n_b128_41_0_a17 h_n0) f43_36
                have k44_37 := frn141_44.at (h_nm n_b128_41_1_a17 h_n0) f43_37
                have k44_38 := frn141_44.at (h_nm n_b128_41_2_a17 h_n0) f43_38
                have k44_39 := frn141_44.at (h_nm n_b128_41_3_a17 h_n0) f43_39
                have k44_40 := frn141_44.at (h_nm n_b128_41_4_a17 h_n0) f43_40
                have k44_41 := frn141_44.at (h_nm n_b128_41_5_a17 h_n0) f43_41
                have k44_42 := frn141_44.at (h_nm n_mo_a17 h_n0) f43_42
                have z_b141_44_0 : g b141_44_0 = none := fr.nn z141_44_0 (h_nm (Ne.symm n_mo_b141_44_0) h_n0)
                have z_b141_44_1 : g b141_44_1 = none := fr.nn z141_44_1 (h_nm (Ne.symm n_mo_b141_44_1) h_n0)
                have z_b141_44_2 : g b141_44_2 = none := fr.nn z141_44_2 (h_nm (Ne.symm n_mo_b141_44_2) h_n0)
                have z_b141_44_3 : g b141_44_3 = none := fr.nn z141_44_3 (h_nm (Ne.symm n_mo_b141_44_3) h_n0)
                have z_b141_44_4 : g b141_44_4 = none := fr.nn z141_44_4 (h_nm (Ne.symm n_mo_b141_44_4) h_n0)
                have z_b141_44_5 : g b141_44_5 = none := fr.nn z141_44_5 (h_nm (Ne.symm n_mo_b141_44_5) h_n0)
                have fr := fr.call frn141_44 (fun z hz => by rcases List.mem_singleton.mp hz with rfl; exact Or.inr z_a17)
                refine hw_put S0 hK hg hS k44_42 rfl inMR tyMR tokMR nmMR 6 (by decide) lf_MR_61 rfl rfl rfl rfl (Nat.le_of_ble_eq_true rfl) dMR_init_144 (fun H locs hg hS => ?_)
                obtain ⟨g_45, eg_45⟩ : ∃ z, z = hs g_44 mo (.inr (7, [.ref a1, .ref a11, .ref a12, .ref a13, .ref a15, .ref a16, .ref a17])) := ⟨_, rfl⟩
                have hg : hw D hC AX g_45 H := by rw [eg_45]; exact hg
                have f45_0 : g_45 a2 = some (.inr (5, [.ref b32_4_0, .int (nI 0)])) := by rw [eg_45, hs_n _ _ (Ne.symm n_mo_a2)]; exact k44_0
                have f45_1 : g_45 b32_4_0 = some (.inl (cI, 60, .inl (fun _ => 0))) := by rw [eg_45, hs_n _ _ (Ne.symm n_mo_b32_4_0)]; exact k44_1
                have f45_2 : g_45 a3 = some (.inr (5, [.ref b32_7_0, .int (nI 0)])) := by rw [eg_45, hs_n _ _ (Ne.symm n_mo_a3)]; exact k44_2
                have f45_3 : g_45 b32_7_0 = some (.inl (cI, 60, .inl (fun _ => 0))) := by rw [eg_45, hs_n _ _ (Ne.symm n_mo_b32_7_0)]; exact k44_3
                have f45_4 : g_45 a4 = some (.inr (5, [.ref b32_10_0, .int (nI 0)])) := by rw [eg_45, hs_n _ _ (Ne.symm n_mo_a4)]; exact k44_4
                have f45_5 : g_45 b32_10_0 = some (.inl (cI, 60, .inl (fun _ => 0))) := by rw [eg_45, hs_n _ _ (Ne.symm n_mo_b32_10_0)]; exact k44_5
                have f45_6 : g_45 a5 = some (.inr (5, [.ref b32_13_0, .int (nI 0)])) := by rw [eg_45, hs_n _ _ (Ne.symm n_mo_a5)]; exact k44_6
                have f45_7 : g_45 b32_13_0 = some (.inl (cI, 60, .inl (fun _ => 0))) := by rw [eg_45, hs_n _ _ (Ne.symm n_mo_b32_13_0)]; exact k44_7
                have f45_8 : g_45 a6 = some (.inr (5, [.ref b32_16_0, .int (nI 0)])) := by rw [eg_45, hs_n _ _ (Ne.symm n_mo_a6)]; exact k44_8
                have f45_9 : g_45 b32_16_0 = some (.inl (cI, 60, .inl (fun _ => 0))) := by rw [eg_45, hs_n _ _ (Ne.symm n_mo_b32_16_0)]; exact k44_9
                have f45_10 : g_45 a7 = some (.inr (5, [.ref b32_19_0, .int (nI 0)])) := by rw [eg_45, hs_n _ _ (Ne.symm n_mo_a7)]; exact k44_10
                have f45_11 : g_45 b32_19_0 = some (.inl (cI, 60, .inl (fun _ => 0))) := by rw [eg_45, hs_n _ _ (Ne.symm n_mo_b32_19_0)]; exact k44_11
                have f45_12 : g_45 a1 = some (.inl (cR, 6, .inr (.inr (.inr (.inr (va_up (va_up (va_up (va_up (va_up (va_up (fun _ => none) 0 (some a2)) 1 (some a3)) 2 (some a4)) 3 (some a5)) 4 (some a6)) 5 (some a7))))))) := by rw [eg_45, hs_n _ _ (Ne.symm n_mo_a1)]; exact k44_12
                have f45_13 : g_45 a8 = some (.inl (cI, 3721, .inl (fun _ => 0))) := by rw [eg_45, hs_n _ _ (Ne.symm n_mo_a8)]; exact k44_13
                have f45_14 : g_45 a9 = some (.inr (0, [.ref b53_23_0, .ref b53_23_1, .int (nI 0), .ref a8])) := by rw [eg_45, hs_n _ _ (Ne.symm n_mo_a9)]; exact k44_14
                have f45_15 : g_45 b53_23_0 = some (.inl (cI, 60, .inl (fun _ => 0))) := by rw [eg_45, hs_n _ _ (Ne.symm n_mo_b53_23_0)]; exact k44_15
                have f45_16 : g_45 b53_23_1 = some (.inl (cI, 60, .inl (fun _ => 0))) := by rw [eg_45, hs_n _ _ (Ne.symm n_mo_b53_23_1)]; exact k44_16
                have f45_17 : g_45 a10 = some (.inr (0, [.ref b62_25_0, .ref b62_25_1, .int (nI 0), .ref a8])) := by rw [eg_45, hs_n _ _ (Ne.symm n_mo_a10)]; exact k44_17
                have f45_18 : g_45 b62_25_0 = some (.inl (cI, 60, .inl (fun _ => 0))) := by rw [eg_45, hs_n _ _ (Ne.symm n_mo_b62_25_0)]; exact k44_18
                have f45_19 : g_45 b62_25_1 = some (.inl (cI, 60, .inl (fun _ => 0))) := by rw [eg_45, hs_n _ _ (Ne.symm n_mo_b62_25_1)]; exact k44_19
                have f45_20 : g_45 a11 = some (.inr (0, [.ref b72_27_0, .ref b72_27_1, .int (nI 0), .ref a8])) := by rw [eg_45, hs_n _ _ (Ne.symm n_mo_a11)]; exact k44_20
                have f45_21 : g_45 b72_27_0 = some (.inl (cI, 60, .inl (fun _ => 0))) := by rw [eg_45, hs_n _ _ (Ne.symm n_mo_b72_27_0)]; exact k44_21
                have f45_22 : g_45 b72_27_1 = some (.inl (cI, 60, .inl (fun _ => 0))) := by rw [eg_45, hs_n _ _ (Ne.symm n_mo_b72_27_1)]; exact k44_22
                have f45_23 : g_45 a12 = some (.inr (1, [.ref b84_30_0, .int (nI 0), .ref a9])) := by rw [eg_45, hs_n _ _ (Ne.symm n_mo_a12)]; exact k44_23
                have f45_24 : g_45 b84_30_0 = some (.inl (cI, 244, .inl (fun _ => 0))) := by rw [eg_45, hs_n _ _ (Ne.symm n_mo_b84_30_0)]; exact k44_24
                have f45_25 : g_45 a14 = some (.inr (1, [.ref b100_34_0, .int (nI 0), .ref a9])) := by rw [eg_45, hs_n _ _ (Ne.symm n_mo_a14)]; exact k44_25
                have f45_26 : g_45 b100_34_0 = some (.inl (cI, 244, .inl (fun _ => 0))) := by rw [eg_45, hs_n _ _ (Ne.symm n_mo_b100_34_0)]; exact k44_26
                have f45_27 : g_45 a13 = some (.inr (4, [.ref b103_35_0, .int (nI 0), .ref a14])) := by rw [eg_45, hs_n _ _ (Ne.symm n_mo_a13)]; exact k44_27
                have f45_28 : g_45 b103_35_0 = some (.inr (5, [.ref b103_35_1, .int (nI 0)])) := by rw [eg_45, hs_n _ _ (Ne.symm n_mo_b103_35_0)]; exact k44_28
                have f45_29 : g_45 b103_35_1 = some (.inl (cI, 120, .inl (fun _ => 0))) := by rw [eg_45, hs_n _ _ (Ne.symm n_mo_b103_35_1)]; exact k44_29
                have f45_30 : g_45 a15 = some (.inr (6, [.ref b115_38_0, .ref b115_38_1, .int (nI 0), .ref b115_38_2, .ref a9])) := by rw [eg_45, hs_n _ _ (Ne.symm n_mo_a15)]; exact k44_30
                have f45_31 : g_45 b115_38_0 = some (.inl (cI, 30, .inl (fun _ => 0))) := by rw [eg_45, hs_n _ _ (Ne.symm n_mo_b115_38_0)]; exact k44_31
                have f45_32 : g_45 b115_38_1 = some (.inl (cI, 1800, .inl (fun _ => 0))) := by rw [eg_45, hs_n _ _ (Ne.symm n_mo_b115_38_1)]; exact k44_32
                have f45_33 : g_45 b115_38_2 = some (.inr (5, [.ref b115_38_3, .int (nI 0)])) := by rw [eg_45, hs_n _ _ (Ne.symm n_mo_b115_38_2)]; exact k44_33
                have f45_34 : g_45 b115_38_3 = some (.inl (cI, 60, .inl (fun _ => 0))) := by rw [eg_45, hs_n _ _ (Ne.symm n_mo_b115_38_3)]; exact k44_34
                have f45_35 : g_45 a16 = some (.inr (2, [.ref b128_41_0, .ref b128_41_2, .int (nI 0), .ref a9, .ref a10, .ref b128_41_3, .ref b128_41_4, .ref b128_41_5])) := by rw [eg_45, hs_n _ _ (Ne.symm n_mo_a16)]; exact k44_35
                have f45_36 : g_45 b128_41_0 = some (.inr (5, [.ref b128_41_1, .int (nI 0)])) := by rw [eg_45, hs_n _ _ (Ne.symm n_mo_b128_41_0)]; exact k44_36
                have f45_37 : g_45 b128_41_1 = some (.inl (cI, 120, .inl (fun _ => 0))) := by rw [eg_45, hs_n _ _ (Ne.symm n_mo_b128_41_1)]; exact k44_37
                have f45_38 : g_45 b128_41_2 = some (.inl (cI, 183, .inl (fun _ => 0))) := by rw [eg_45, hs_n _ _ (Ne.symm n_mo_b128_41_2)]; exact k44_38
                have f45_39 : g_45 b128_41_3 = some (.inr (3, [.ref u128_41_0, .int (nI 0), .int (nI 0)])) := by rw [eg_45, hs_n _ _ (Ne.symm n_mo_b128_41_3)]; exact k44_39
                have f45_40 : g_45 b128_41_4 = some (.inr (3, [.ref u128_41_1, .int (nI 0), .int (nI 0)])) := by rw [eg_45, hs_n _ _ (Ne.symm n_mo_b128_41_4)]; exact k44_40
                have f45_41 : g_45 b128_41_5 = some (.inr (3, [.ref u128_41_2, .int (nI 0), .int (nI 0)])) := by rw [eg_45, hs_n _ _ (Ne.symm n_mo_b128_41_5)]; exact k44_41
                have f45_42 : g_45 a17 = some (.inr (2, [.ref b141_44_0, .ref b141_44_2, .int (nI 0), .ref a9, .ref a10, .ref b141_44_3, .ref b141_44_4, .ref b141_44_5])) := by rw [eg_45, hs_n _ _ (Ne.symm n_mo_a17)]; exact s141_44
                have f45_43 : g_45 b141_44_0 = some (.inr (5, [.ref b141_44_1, .int (nI 0)])) := by rw [eg_45, hs_n _ _ (Ne.symm n_mo_b141_44_0)]; exact y141_44_0
                have f45_44 : g_45 b141_44_1 = some (.inl (cI, 120, .inl (fun _ => 0))) := by rw [eg_45, hs_n _ _ (Ne.symm n_mo_b141_44_1)]; exact y141_44_1
                have f45_45 : g_45 b141_44_2 = some (.inl (cI, 183, .inl (fun _ => 0))) := by rw [eg_45, hs_n _ _ (Ne.symm n_mo_b141_44_2)]; exact y141_44_2
                have f45_46 : g_45 b141_44_3 = some (.inr (3, [.ref u141_44_0, .int (nI 0), .int (nI 0)])) := by rw [eg_45, hs_n _ _ (Ne.symm n_mo_b141_44_3)]; exact y141_44_3
                have f45_47 : g_45 b141_44_4 = some (.inr (3, [.ref u141_44_1, .int (nI 0), .int (nI 0)])) := by rw [eg_45, hs_n _ _ (Ne.symm n_mo_b141_44_4)]; exact y141_44_4
                have f45_48 : g_45 b141_44_5 = some (.inr (3, [.ref u141_44_2, .int (nI 0), .int (nI 0)])) := by rw [eg_45, hs_n _ _ (Ne.symm n_mo_b141_44_5)]; exact y141_44_5
                have f45_49 : g_45 mo = some (.inr (7, [.ref a1, .ref a11, .ref a12, .ref a13, .ref a15, .ref a16, .ref a17])) := by rw [eg_45]; exact hs_s _ _ _
                have fr := fr.put eg_45 (by simp)
                have nd49 : ([b32_19_0] : List Nat).Nodup := nd_c h_n0 nd_n
                have nd48 : ([b32_16_0, b32_19_0] : List Nat).Nodup := nd_c (h_nm n_b32_16_0_b32_19_0 h_n0) nd49
                have nd47 : ([b32_13_0, b32_16_0, b32_19_0] : List Nat).Nodup := nd_c (h_nm n_b32_13_0_b32_16_0 (h_nm n_b32_13_0_b32_19_0 h_n0)) nd48
                have nd46 : ([b32_10_0, b32_13_0, b32_16_0, b32_19_0] : List Nat).Nodup := nd_c (h_nm n_b32_10_0_b32_13_0 (h_nm n_b32_10_0_b32_16_0 (h_nm n_b32_10_0_b32_19_0 h_n0))) nd47
                have nd45 : ([b32_7_0, b32_10_0, b32_13_0, b32_16_0, b32_19_0] : List Nat).Nodup := nd_c (h_nm n_b32_7_0_b32_10_0 (h_nm n_b32_7_0_b32_13_0 (h_nm n_b32_7_0_b32_16_0 (h_nm n_b32_7_0_b32_19_0 h_n0)))) nd46
                have nd44 : ([b32_4_0, b32_7_0, b32_10_0, b32_13_0, b32_16_0, b32_19_0] : List Nat).Nodup := nd_c (h_nm n_b32_4_0_b32_7_0 (h_nm n_b32_4_0_b32_10_0 (h_nm n_b32_4_0_b32_13_0 (h_nm n_b32_4_0_b32_16_0 (h_nm n_b32_4_0_b32_19_0 h_n0))))) nd45
                have nd43 : ([a7, b32_4_0, b32_7_0, b32_10_0, b32_13_0, b32_16_0, b32_19_0] : List Nat).Nodup := nd_c (h_nm (Ne.symm n_b32_4_0_a7) (h_nm (Ne.symm n_b32_7_0_a7) (h_nm (Ne.symm n_b32_10_0_a7) (h_nm (Ne.symm n_b32_13_0_a7) (h_nm (Ne.symm n_b32_16_0_a7) (h_nm n_a7_b32_19_0 h_n0)))))) nd44
                have nd42 : ([a6, a7, b32_4_0, b32_7_0, b32_10_0, b32_13_0, b32_16_0, b32_19_0] : List Nat).Nodup := nd_c (h_nm n_a6_a7 (h_nm (Ne.symm n_b32_4_0_a6) (h_nm (Ne.symm n_b32_7_0_a6) (h_nm (Ne.symm n_b32_10_0_a6) (h_nm (Ne.symm n_b32_13_0_a6) (h_nm n_a6_b32_16_0 (h_nm n_a6_b32_19_0 h_n0))))))) nd43
                have nd41 : ([a5, a6, a7, b32_4_0, b32_7_0, b32_10_0, b32_13_0, b32_16_0, b32_19_0] : List Nat).Nodup := nd_c (h_nm n_a5_a6 (h_nm n_a5_a7 (h_nm (Ne.symm n_b32_4_0_a5) (h_nm (Ne.symm n_b32_7_0_a5) (h_nm (Ne.symm n_b32_10_0_a5) (h_nm n_a5_b32_13_0 (h_nm n_a5_b32_16_0 (h_nm n_a5_b32_19_0 h_n0)))))))) nd42
                have nd40 : ([a4, a5, a6, a7, b32_4_0, b32_7_0, b32_10_0, b32_13_0, b32_16_0, b32_19_0] : List Nat).Nodup := nd_c (h_nm n_a4_a5 (h_nm n_a4_a6 (h_nm n_a4_a7 (h_nm (Ne.symm n_b32_4_0_a4) (h_nm (Ne.symm n_b32_7_0_a4) (h_nm n_a4_b32_10_0 (h_nm n_a4_b32_13_0 (h_nm n_a4_b32_16_0 (h_nm n_a4_b32_19_0 h_n0))))))))) nd41
                have nd39 : ([a3, a4, a5, a6, a7, b32_4_0, b32_7_0, b32_10_0, b32_13_0, b32_16_0, b32_19_0] : List Nat).Nodup := nd_c (h_nm n_a3_a4 (h_nm n_a3_a5 (h_nm n_a3_a6 (h_nm n_a3_a7 (h_nm (Ne.symm n_b32_4_0_a3) (h_nm n_a3_b32_7_0 (h_nm n_a3_b32_10_0 (h_nm n_a3_b32_13_0 (h_nm n_a3_b32_16_0 (h_nm n_a3_b32_19_0 h_n0)))))))))) nd40
                have nd38 : ([a2, a3, a4, a5, a6, a7, b32_4_0, b32_7_0, b32_10_0, b32_13_0, b32_16_0, b32_19_0] : List Nat).Nodup := nd_c (h_nm n_a2_a3 (h_nm n_a2_a4 (h_nm n_a2_a5 (h_nm n_a2_a6 (h_nm n_a2_a7 (h_nm n_a2_b32_4_0 (h_nm n_a2_b32_7_0 (h_nm n_a2_b32_10_0 (h_nm n_a2_b32_13_0 (h_nm n_a2_b32_16_0 (h_nm n_a2_b32_19_0 h_n0))))))))))) nd39
                have nd37 : ([b141_44_5, a2, a3, a4, a5, a6, a7, b32_4_0, b32_7_0, b32_10_0, b32_13_0, b32_16_0, b32_19_0] : List Nat).Nodup := nd_c (h_nm (Ne.symm n_a2_b141_44_5) (h_nm (Ne.symm n_a3_b141_44_5) (h_nm (Ne.symm n_a4_b141_44_5) (h_nm (Ne.symm n_a5_b141_44_5) (h_nm (Ne.symm n_a6_b141_44_5) (h_nm (Ne.symm n_a7_b141_44_5) (h_nm (Ne.symm n_b32_4_0_b141_44_5) (h_nm (Ne.symm n_b32_7_0_b141_44_5) (h_nm (Ne.symm n_b32_10_0_b141_44_5) (h_nm (Ne.symm n_b32_13_0_b141_44_5) (h_nm (Ne.symm n_b32_16_0_b141_44_5) (h_nm (Ne.symm n_b32_19_0_b141_44_5) h_n0)))))))))))) nd38
                have nd36 : ([b141_44_4, b141_44_5, a2, a3, a4, a5, a6, a7, b32_4_0, b32_7_0, b32_10_0, b32_13_0, b32_16_0, b32_19_0] : List Nat).Nodup := nd_c (h_nm w141_44_3 (h_nm (Ne.symm n_a2_b141_44_4) (h_nm (Ne.symm n_a3_b141_44_4) (h_nm (Ne.symm n_a4_b141_44_4) (h_nm (Ne.symm n_a5_b141_44_4) (h_nm (Ne.symm n_a6_b141_44_4) (h_nm (Ne.symm n_a7_b141_44_4) (h_nm (Ne.symm n_b32_4_0_b141_44_4) (h_nm (Ne.symm n_b32_7_0_b141_44_4) (h_nm (Ne.symm n_b32_10_0_b141_44_4) (h_nm (Ne.symm n_b32_13_0_b141_44_4) (h_nm (Ne.symm n_b32_16_0_b141_44_4) (h_nm (Ne.symm n_b32_19_0_b141_44_4) h_n0))))))))))))) nd37
                have nd35 : ([b141_44_3, b141_44_4, b141_44_5, a2, a3, a4, a5, a6, a7, b32_4_0, b32_7_0, b32_10_0, b32_13_0, b32_16_0, b32_19_0] : List Nat).Nodup := nd_c (h_nm w141_44_1 (h_nm w141_44_2 (h_nm (Ne.symm n_a2_b141_44_3) (h_nm (Ne.symm n_a3_b141_44_3) (h_nm (Ne.symm n_a4_b141_44_3) (h_nm (Ne.symm n_a5_b141_44_3) (h_nm (Ne.symm n_a6_b141_44_3) (h_nm (Ne.symm n_a7_b141_44_3) (h_nm (Ne.symm n_b32_4_0_b141_44_3) (h_nm (Ne.symm n_b32_7_0_b141_44_3) (h_nm (Ne.symm n_b32_10_0_b141_44_3) (h_nm (Ne.symm n_b32_13_0_b141_44_3) (h_nm (Ne.symm n_b32_16_0_b141_44_3) (h_nm (Ne.symm n_b32_19_0_b141_44_3) h_n0)))))))))))))) nd36
                have nd34 : ([b141_44_2, b141_44_3, b141_44_4, b141_44_5, a2, a3, a4, a5, a6, a7, b32_4_0, b32_7_0, b32_10_0, b32_13_0, b32_16_0, b32_19_0] : List Nat).Nodup := nd_c (h_nm (h_ne f45_45 f45_46 (fun h => by cases h)) (h_nm (h_ne f45_45 f45_47 (fun h => by cases h)) (h_nm (h_ne f45_45 f45_48 (fun h => by cases h)) (h_nm (Ne.symm n_a2_b141_44_2) (h_nm (Ne.symm n_a3_b141_44_2) (h_nm (Ne.symm n_a4_b141_44_2) (h_nm (Ne.symm n_a5_b141_44_2) (h_nm (Ne.symm n_a6_b141_44_2) (h_nm (Ne.symm n_a7_b141_44_2) (h_nm (Ne.symm n_b32_4_0_b141_44_2) (h_nm (Ne.symm n_b32_7_0_b141_44_2) (h_nm (Ne.symm n_b32_10_0_b141_44_2) (h_nm (Ne.symm n_b32_13_0_b141_44_2) (h_nm (Ne.symm n_b32_16_0_b141_44_2) (h_nm (Ne.symm n_b32_19_0_b141_44_2) h_n0))))))))))))))) nd35
                have nd33 : ([b141_44_1, b141_44_2, b141_44_3, b141_44_4, b141_44_5, a2, a3, a4, a5, a6, a7, b32_4_0, b32_7_0, b32_10_0, b32_13_0, b32_16_0, b32_19_0] : List Nat).Nodup := nd_c (h_nm w141_44_0 (h_nm (h_ne f45_44 f45_46 (fun h => by cases h)) (h_nm (h_ne f45_44 f45_47 (fun h => by cases h)) (h_nm (h_ne f45_44 f45_48 (fun h => by cases h)) (h_nm (Ne.symm n_a2_b141_44_1) (h_nm (Ne.symm n_a3_b141_44_1) (h_nm (Ne.symm n_a4_b141_44_1) (h_nm (Ne.symm n_a5_b141_44_1) (h_nm (Ne.symm n_a6_b141_44_1) (h_nm (Ne.symm n_a7_b141_44_1) (h_nm (Ne.symm n_b32_4_0_b141_44_1) (h_nm (Ne.symm n_b32_7_0_b141_44_1) (h_nm (Ne.symm n_b32_10_0_b141_44_1) (h_nm (Ne.symm n_b32_13_0_b141_44_1) (h_nm (Ne.symm n_b32_16_0_b141_44_1) (h_nm (Ne.symm n_b32_19_0_b141_44_1) h_n0)))))))))))))))) nd34
                have nd32 : ([b141_44_0, b141_44_1, b141_44_2, b141_44_3, b141_44_4, b141_44_5, a2, a3, a4, a5, a6, a7, b32_4_0, b32_7_0, b32_10_0, b32_13_0, b32_16_0, b32_19_0] : List Nat).Nodup := nd_c (h_nm (h_ne f45_43 f45_44 (fun h => by cases h)) (h_nm (h_ne f45_43 f45_45 (fun h => by cases h)) (h_nm (h_ne f45_43 f45_46 (fun h => by simp at h)) (h_nm (h_ne f45_43 f45_47 (fun h => by simp at h)) (h_nm (h_ne f45_43 f45_48 (fun h => by simp at h)) (h_nm (Ne.symm n_a2_b141_44_0) (h_nm (Ne.symm n_a3_b141_44_0) (h_nm (Ne.symm n_a4_b141_44_0) (h_nm (Ne.symm n_a5_b141_44_0) (h_nm (Ne.symm n_a6_b141_44_0) (h_nm (Ne.symm n_a7_b141_44_0) (h_nm (Ne.symm n_b32_4_0_b141_44_0) (h_nm (Ne.symm n_b32_7_0_b141_44_0) (h_nm (Ne.symm n_b32_10_0_b141_44_0) (h_nm (Ne.symm n_b32_13_0_b141_44_0) (h_nm (Ne.symm n_b32_16_0_b141_44_0) (h_nm (Ne.symm n_b32_19_0_b141_44_0) h_n0))))))))))))))))) nd33
                have nd31 : ([a17, b141_44_0, b141_44_1, b141_44_2, b141_44_3, b141_44_4, b141_44_5, a2, a3, a4, a5, a6, a7, b32_4_0, b32_7_0, b32_10_0, b32_13_0, b32_16_0, b32_19_0] : List Nat).Nodup := nd_c (h_nm n_a17_b141_44_0 (h_nm n_a17_b141_44_1 (h_nm n_a17_b141_44_2 (h_nm n_a17_b141_44_3 (h_nm n_a17_b141_44_4 (h_nm n_a17_b141_44_5 (h_nm (Ne.symm n_a2_a17) (h_nm (Ne.symm n_a3_a17) (h_nm (Ne.symm n_a4_a17) (h_nm (Ne.symm n_a5_a17) (h_nm (Ne.symm n_a6_a17) (h_nm (Ne.symm n_a7_a17) (h_nm (Ne.symm n_b32_4_0_a17) (h_nm (Ne.symm n_b32_7_0_a17) (h_nm (Ne.symm n_b32_10_0_a17) (h_nm (Ne.symm n_b32_13_0_a17) (h_nm (Ne.symm n_b32_16_0_a17) (h_nm (Ne.symm n_b32_19_0_a17) h_n0)))))))))))))))))) nd32
                have nd30 : ([b128_41_5, a17, b141_44_0, b141_44_1, b141_44_2, b141_44_3, b141_44_4, b141_44_5, a2, a3, a4, a5, a6, a7, b32_4_0, b32_7_0, b32_10_0, b32_13_0, b32_16_0, b32_19_0] : List Nat).Nodup := nd_c (h_nm n_b128_41_5_a17 (h_nm n_b128_41_5_b141_44_0 (h_nm n_b128_41_5_b141_44_1 (h_nm n_b128_41_5_b141_44_2 (h_nm n_b128_41_5_b141_44_3 (h_nm n_b128_41_5_b141_44_4 (h_nm n_b128_41_5_b141_44_5 (h_nm (Ne.symm n_a2_b128_41_5) (h_nm (Ne.symm n_a3_b128_41_5) (h_nm (Ne.symm n_a4_b128_41_5) (h_nm (Ne.symm n_a5_b128_41_5) (h_nm (Ne.symm n_a6_b128_41_5) (h_nm (Ne.symm n_a7_b128_41_5) (h_nm (Ne.symm n_b32_4_0_b128_41_5) (h_nm (Ne.symm n_b32_7_0_b128_41_5) (h_nm (Ne.symm n_b32_10_0_b128_41_5) (h_nm (Ne.symm n_b32_13_0_b128_41_5) (h_nm (Ne.symm n_b32_16_0_b128_41_5) (h_nm (Ne.symm n_b32_19_0_b128_41_5) h_n0))))))))))))))))))) nd31
                have nd29 : ([b128_41_4, b128_41_5, a17, b141_44_0, b141_44_1, b141_44_2, b141_44_3, b141_44_4, b141_44_5, a2, a3, a4, a5, a6, a7, b32_4_0, b32_7_0, b32_10_0, b32_13_0, b32_16_0, b32_19_0] : List Nat).Nodup := nd_c (h_nm w128_41_3 (h_nm n_b128_41_4_a17 (h_nm n_b128_41_4_b141_44_0 (h_nm n_b128_41_4_b141_44_1 (h_nm n_b128_41_4_b141_44_2 (h_nm n_b128_41_4_b141_44_3 (h_nm n_b128_41_4_b141_44_4 (h_nm n_b128_41_4_b141_44_5 (h_nm (Ne.symm n_a2_b128_41_4) (h_nm (Ne.symm n_a3_b128_41_4) (h_nm (Ne.symm n_a4_b128_41_4) (h_nm (Ne.symm n_a5_b128_41_4) (h_nm (Ne.symm n_a6_b128_41_4) (h_nm (Ne.symm n_a7_b128_41_4) (h_nm (Ne.symm n_b32_4_0_b128_41_4) (h_nm (Ne.symm n_b32_7_0_b128_41_4) (h_nm (Ne.symm n_b32_10_0_b128_41_4) (h_nm (Ne.symm n_b32_13_0_b128_41_4) (h_nm (Ne.symm n_b32_16_0_b128_41_4) (h_nm (Ne.symm n_b32_19_0_b128_41_4) h_n0)))))))))))))))))))) nd30
                have nd28 : ([b128_41_3, b128_41_4, b128_41_5, a17, b141_44_0, b141_44_1, b141_44_2, b141_44_3, b141_44_4, b141_44_5, a2, a3, a4, a5, a6, a7, b32_4_0, b32_7_0, b32_10_0, b32_13_0, b32_16_0, b32_19_0] : List Nat).Nodup := nd_c (h_nm w128_41_1 (h_nm w128_41_2 (h_nm n_b128_41_3_a17 (h_nm n_b128_41_3_b141_44_0 (h_nm n_b128_41_3_b141_44_1 (h_nm n_b128_41_3_b141_44_2 (h_nm n_b128_41_3_b141_44_3 (h_nm n_b128_41_3_b141_44_4 (h_nm n_b128_41_3_b141_44_5 (h_nm (Ne.symm n_a2_b128_41_3) (h_nm (Ne.symm n_a3_b128_41_3) (h_nm (Ne.symm n_a4_b128_41_3) (h_nm (Ne.symm n_a5_b128_41_3) (h_nm (Ne.symm n_a6_b128_41_3) (h_nm (Ne.symm n_a7_b128_41_3) (h_nm (Ne.symm n_b32_4_0_b128_41_3) (h_nm (Ne.symm n_b32_7_0_b128_41_3) (h_nm (Ne.symm n_b32_10_0_b128_41_3) (h_nm (Ne.symm n_b32_13_0_b128_41_3) (h_nm (Ne.symm n_b32_16_0_b128_41_3) (h_nm (Ne.symm n_b32_19_0_b128_41_3) h_n0))))))))))))))))))))) nd29
                have nd27 : ([b128_41_2, b128_41_3, b128_41_4, b128_41_5, a17, b141_44_0, b141_44_1, b141_44_2, b141_44_3, b141_44_4, b141_44_5, a2, a3, a4, a5, a6, a7, b32_4_0, b32_7_0, b32_10_0, b32_13_0, b32_16_0, b32_19_0] : List Nat).Nodup := nd_c (h_nm (h_ne f45_38 f45_39 (fun h => by cases h)) (h_nm (h_ne f45_38 f45_40 (fun h => by cases h)) (h_nm (h_ne f45_38 f45_41 (fun h => by cases h)) (h_nm n_b128_41_2_a17 (h_nm n_b128_41_2_b141_44_0 (h_nm n_b128_41_2_b141_44_1 (h_nm n_b128_41_2_b141_44_2 (h_nm n_b128_41_2_b141_44_3 (h_nm n_b128_41_2_b141_44_4 (h_nm n_b128_41_2_b141_44_5 (h_nm (Ne.symm n_a2_b128_41_2) (h_nm (Ne.symm n_a3_b128_41_2) (h_nm (Ne.symm n_a4_b128_41_2) (h_nm (Ne.symm n_a5_b128_41_2) (h_nm (Ne.symm n_a6_b128_41_2) (h_nm (Ne.symm n_a7_b128_41_2) (h_nm (Ne.symm n_b32_4_0_b128_41_2) (h_nm (Ne.symm n_b32_7_0_b128_41_2) (h_nm (Ne.symm n_b32_10_0_b128_41_2) (h_nm (Ne.symm n_b32_13_0_b128_41_2) (h_nm (Ne.symm n_b32_16_0_b128_41_2) (h_nm (Ne.symm n_b32_19_0_b128_41_2) h_n0)))))))))))))))))))))) nd28
                have nd26 : ([b128_41_1, b128_41_2, b128_41_3, b128_41_4, b128_41_5, a17, b141_44_0, b141_44_1, b141_44_2, b141_44_3, b141_44_4, b141_44_5, a2, a3, a4, a5, a6, a7, b32_4_0, b32_7_0, b32_10_0, b32_13_0, b32_16_0, b32_19_0] : List Nat).Nodup := nd_c (h_nm w128_41_0 (h_nm (h_ne f45_37 f45_39 (fun h => by cases h)) (h_nm (h_ne f45_37 f45_40 (fun h => by cases h)) (h_nm (h_ne f45_37 f45_41 (fun h => by cases h)) (h_nm n_b128_41_1_a17 (h_nm n_b128_41_1_b141_44_0 (h_nm n_b128_41_1_b141_44_1 (h_nm n_b128_41_1_b141_44_2 (h_nm n_b128_41_1_b141_44_3 (h_nm n_b128_41_1_b141_44_4 (h_nm n_b128_41_1_b141_44_5 (h_nm (Ne.symm n_a2_b128_41_1) (h_nm (Ne.symm n_a3_b128_41_1) (h_nm (Ne.symm n_a4_b128_41_1) (h_nm (Ne.symm n_a5_b128_41_1) (h_nm (Ne.symm n_a6_b128_41_1) (h_nm (Ne.symm n_a7_b128_41_1) (h_nm (Ne.symm n_b32_4_0_b128_41_1) (h_nm (Ne.symm n_b32_7_0_b128_41_1) (h_nm (Ne.symm n_b32_10_0_b128_41_1) (h_nm (Ne.symm n_b32_13_0_b128_41_1) (h_nm (Ne.symm n_b32_16_0_b128_41_1) (h_nm (Ne.symm n_b32_19_0_b128_41_1) h_n0))))))))))))))))))))))) nd27
                have nd25 : ([b128_41_0, b128_41_1, b128_41_2, b128_41_3, b128_41_4, b128_41_5, a17, b141_44_0, b141_44_1, b141_44_2, b141_44_3, b141_44_4, b141_44_5, a2, a3, a4, a5, a6, a7, b32_4_0, b32_7_0, b32_10_0, b32_13_0, b32_16_0, b32_19_0] : List Nat).Nodup := nd_c (h_nm (h_ne f45_36 f45_37 (fun h => by cases h)) (h_nm (h_ne f45_36 f45_38 (fun h => by cases h)) (h_nm (h_ne f45_36 f45_39 (fun h => by simp at h)) (h_nm (h_ne f45_36 f45_40 (fun h => by simp at h)) (h_nm (h_ne f45_36 f45_41 (fun h => by simp at h)) (h_nm n_b128_41_0_a17 (h_nm n_b128_41_0_b141_44_0 (h_nm n_b128_41_0_b141_44_1 (h_nm n_b128_41_0_b141_44_2 (h_nm n_b128_41_0_b141_44_3 (h_nm n_b128_41_0_b141_44_4 (h_nm n_b128_41_0_b141_44_5 (h_nm (Ne.symm n_a2_b128_41_0) (h_nm (Ne.symm n_a3_b128_41_0) (h_nm (Ne.symm n_a4_b128_41_0) (h_nm (Ne.symm n_a5_b128_41_0) (h_nm (Ne.symm n_a6_b128_41_0) (h_nm (Ne.symm n_a7_b128_41_0) (h_nm (Ne.symm n_b32_4_0_b128_41_0) (h_nm (Ne.symm n_b32_7_0_b128_41_0) (h_nm (Ne.symm n_b32_10_0_b128_41_0) (h_nm (Ne.symm n_b32_13_0_b128_41_0) (h_nm (Ne.symm n_b32_16_0_b128_41_0) (h_nm (Ne.symm n_b32_19_0_b128_41_0) h_n0)))))))))))))))))))))))) nd26
                have nd24 : ([a16, b128_41_0, b128_41_1, b128_41_2, b128_41_3, b128_41_4, b128_41_5, a17, b141_44_0, b141_44_1, b141_44_2, b141_44_3, b141_44_4, b141_44_5, a2, a3, a4, a5, a6, a7, b32_4_0, b32_7_0, b32_10_0, b32_13_0, b32_16_0, b32_19_0] : List Nat).Nodup := nd_c (h_nm n_a16_b128_41_0 (h_nm n_a16_b128_41_1 (h_nm n_a16_b128_41_2 (h_nm n_a16_b128_41_3 (h_nm n_a16_b128_41_4 (h_nm n_a16_b128_41_5 (h_nm n_a16_a17 (h_nm n_a16_b141_44_0 (h_nm n_a16_b141_44_1 (h_nm n_a16_b141_44_2 (h_nm n_a16_b141_44_3 (h_nm n_a16_b141_44_4 (h_nm n_a16_b141_44_5 (h_nm (Ne.symm n_a2_a16) (h_nm (Ne.symm n_a3_a16) (h_nm (Ne.symm n_a4_a16) (h_nm (Ne.symm n_a5_a16) (h_nm (Ne.symm n_a6_a16) (h_nm (Ne.symm n_a7_a16) (h_nm (Ne.symm n_b32_4_0_a16) (h_nm (Ne.symm n_b32_7_0_a16) (h_nm (Ne.symm n_b32_10_0_a16) (h_nm (Ne.symm n_b32_13_0_a16) (h_nm (Ne.symm n_b32_16_0_a16) (h_nm (Ne.symm n_b32_19_0_a16) h_n0))))))))))))))))))))))))) nd25
                have nd23 : ([b115_38_3, a16, b128_41_0, b128_41_1, b128_41_2, b128_41_3, b128_41_4, b128_41_5, a17, b141_44_0, b141_44_1, b141_44_2, b141_44_3, b141_44_4, b141_44_5, a2, a3, a4, a5, a6, a7, b32_4_0, b32_7_0, b32_10_0, b32_13_0, b32_16_0, b32_19_0] : List Nat).Nodup := nd_c (h_nm n_b115_38_3_a16 (h_nm n_b115_38_3_b128_41_0 (h_nm n_b115_38_3_b128_41_1 (h_nm n_b115_38_3_b128_41_2 (h_nm n_b115_38_3_b128_41_3 (h_nm n_b115_38_3_b128_41_4 (h_nm n_b115_38_3_b128_41_5 (h_nm n_b115_38_3_a17 (h_nm n_b115_38_3_b141_44_0 (h_nm n_b115_38_3_b141_44_1 (h_nm n_b115_38_3_b141_44_2 (h_nm n_b115_38_3_b141_44_3 (h_nm n_b115_38_3_b141_44_4 (h_nm n_b115_38_3_b141_44_5 (h_nm (Ne.symm n_a2_b115_38_3) (h_nm (Ne.symm n_a3_b115_38_3) (h_nm (Ne.symm n_a4_b115_38_3) (h_nm (Ne.symm n_a5_b115_38_3) (h_nm (Ne.symm n_a6_b115_38_3) (h_nm (Ne.symm n_a7_b115_38_3) (h_nm (Ne.symm n_b32_4_0_b115_38_3) (h_nm (Ne.symm n_b32_7_0_b115_38_3) (h_nm (Ne.symm n_b32_10_0_b115_38_3) (h_nm (Ne.symm n_b32_13_0_b115_38_3) (h_nm (Ne.symm n_b32_16_0_b115_38_3) (h_nm (Ne.symm n_b32_19_0_b115_38_3) h_n0)))))))))))))))))))))))))) nd24
                have nd22 : ([b115_38_2, b115_38_3, a16, b128_41_0, b128_41_1, b128_41_2, b128_41_3, b128_41_4, b128_41_5, a17, b141_44_0, b141_44_1, b141_44_2, b141_44_3, b141_44_4, b141_44_5, a2, a3, a4, a5, a6, a7, b32_4_0, b32_7_0, b32_10_0, b32_13_0, b32_16_0, b32_19_0] : List Nat).Nodup := nd_c (h_nm (h_ne f45_33 f45_34 (fun h => by cases h)) (h_nm n_b115_38_2_a16 (h_nm n_b115_38_2_b128_41_0 (h_nm n_b115_38_2_b128_41_1 (h_nm n_b115_38_2_b128_41_2 (h_nm n_b115_38_2_b128_41_3 (h_nm n_b115_38_2_b128_41_4 (h_nm n_b115_38_2_b128_41_5 (h_nm n_b115_38_2_a17 (h_nm n_b115_38_2_b141_44_0 (h_nm n_b115_38_2_b141_44_1 (h_nm n_b115_38_2_b141_44_2 (h_nm n_b115_38_2_b141_44_3 (h_nm n_b115_38_2_b141_44_4 (h_nm n_b115_38_2_b141_44_5 (h_nm (Ne.symm n_a2_b115_38_2) (h_nm (Ne.symm n_a3_b115_38_2) (h_nm (Ne.symm n_a4_b115_38_2) (h_nm (Ne.symm n_a5_b115_38_2) (h_nm (Ne.symm n_a6_b115_38_2) (h_nm (Ne.symm n_a7_b115_38_2) (h_nm (Ne.symm n_b32_4_0_b115_38_2) (h_nm (Ne.symm n_b32_7_0_b115_38_2) (h_nm (Ne.symm n_b32_10_0_b115_38_2) (h_nm (Ne.symm n_b32_13_0_b115_38_2) (h_nm (Ne.symm n_b32_16_0_b115_38_2) (h_nm (Ne.symm n_b32_19_0_b115_38_2) h_n0))))))))))))))))))))))))))) nd23
                have nd21 : ([b115_38_1, b115_38_2, b115_38_3, a16, b128_41_0, b128_41_1, b128_41_2, b128_41_3, b128_41_4, b128_41_5, a17, b141_44_0, b141_44_1, b141_44_2, b141_44_3, b141_44_4, b141_44_5, a2, a3, a4, a5, a6, a7, b32_4_0, b32_7_0, b32_10_0, b32_13_0, b32_16_0, b32_19_0] : List Nat).Nodup := nd_c (h_nm (h_ne f45_32 f45_33 (fun h => by cases h)) (h_nm w115_38_2 (h_nm n_b115_38_1_a16 (h_nm n_b115_38_1_b128_41_0 (h_nm n_b115_38_1_b128_41_1 (h_nm n_b115_38_1_b128_41_2 (h_nm n_b115_38_1_b128_41_3 (h_nm n_b115_38_1_b128_41_4 (h_nm n_b115_38_1_b128_41_5 (h_nm n_b115_38_1_a17 (h_nm n_b115_38_1_b141_44_0 (h_nm n_b115_38_1_b141_44_1 (h_nm n_b115_38_1_b141_44_2 (h_nm n_b115_38_1_b141_44_3 (h_nm n_b115_38_1_b141_44_4 (h_nm n_b115_38_1_b141_44_5 (h_nm (Ne.symm n_a2_b115_38_1) (h_nm (Ne.symm n_a3_b115_38_1) (h_nm (Ne.symm n_a4_b115_38_1) (h_nm (Ne.symm n_a5_b115_38_1) (h_nm (Ne.symm n_a6_b115_38_1) (h_nm (Ne.symm n_a7_b115_38_1) (h_nm (Ne.symm n_b32_4_0_b115_38_1) (h_nm (Ne.symm n_b32_7_0_b115_38_1) (h_nm (Ne.symm n_b32_10_0_b115_38_1) (h_nm (Ne.symm n_b32_13_0_b115_38_1) (h_nm (Ne.symm n_b32_16_0_b115_38_1) (h_nm (Ne.symm n_b32_19_0_b115_38_1) h_n0)))))))))))))))))))))))))))) nd22
                have nd20 : ([b115_38_0, b115_38_1, b115_38_2, b115_38_3, a16, b128_41_0, b128_41_1, b128_41_2, b128_41_3, b128_41_4, b128_41_5, a17, b141_44_0, b141_44_1, b141_44_2, b141_44_3, b141_44_4, b141_44_5, a2, a3, a4, a5, a6, a7, b32_4_0, b32_7_0, b32_10_0, b32_13_0, b32_16_0, b32_19_0] : List Nat).Nodup := nd_c (h_nm w115_38_0 (h_nm (h_ne f45_31 f45_33 (fun h => by cases h)) (h_nm w115_38_1 (h_nm n_b115_38_0_a16 (h_nm n_b115_38_0_b128_41_0 (h_nm n_b115_38_0_b128_41_1 (h_nm n_b115_38_0_b128_41_2 (h_nm n_b115_38_0_b128_41_3 (h_nm n_b115_38_0_b128_41_4 (h_nm n_b115_38_0_b128_41_5 (h_nm n_b115_38_0_a17 (h_nm n_b115_38_0_b141_44_0 (h_nm n_b115_38_0_b141_44_1 (h_nm n_b115_38_0_b141_44_2 (h_nm n_b115_38_0_b141_44_3 (h_nm n_b115_38_0_b141_44_4 (h_nm n_b115_38_0_b141_44_5 (h_nm (Ne.symm n_a2_b115_38_0) (h_nm (Ne.symm n_a3_b115_38_0) (h_nm (Ne.symm n_a4_b115_38_0) (h_nm (Ne.symm n_a5_b115_38_0) (h_nm (Ne.symm n_a6_b115_38_0) (h_nm (Ne.symm n_a7_b115_38_0) (h_nm (Ne.symm n_b32_4_0_b115_38_0) (h_nm (Ne.symm n_b32_7_0_b115_38_0) (h_nm (Ne.symm n_b32_10_0_b115_38_0) (h_nm (Ne.symm n_b32_13_0_b115_38_0) (h_nm (Ne.symm n_b32_16_0_b115_38_0) (h_nm (Ne.symm n_b32_19_0_b115_38_0) h_n0))))))))))))))))))))))))))))) nd21
                have nd19 : ([a15, b115_38_0, b115_38_1, b115_38_2, b115_38_3, a16, b128_41_0, b128_41_1, b128_41_2, b128_41_3, b128_41_4, b128_41_5, a17, b141_44_0, b141_44_1, b141_44_2, b141_44_3, b141_44_4, b141_44_5, a2, a3, a4, a5, a6, a7, b32_4_0, b32_7_0, b32_10_0, b32_13_0, b32_16_0, b32_19_0] : List Nat).Nodup := nd_c (h_nm n_a15_b115_38_0 (h_nm n_a15_b115_38_1 (h_nm n_a15_b115_38_2 (h_nm n_a15_b115_38_3 (h_nm n_a15_a16 (h_nm n_a15_b128_41_0 (h_nm n_a15_b128_41_1 (h_nm n_a15_b128_41_2 (h_nm n_a15_b128_41_3 (h_nm n_a15_b128_41_4 (h_nm n_a15_b128_41_5 (h_nm n_a15_a17 (h_nm n_a15_b141_44_0 (h_nm n_a15_b141_44_1 (h_nm n_a15_b141_44_2 (h_nm n_a15_b141_44_3 (h_nm n_a15_b141_44_4 (h_nm n_a15_b141_44_5 (h_nm (Ne.symm n_a2_a15) (h_nm (Ne.symm n_a3_a15) (h_nm (Ne.symm n_a4_a15) (h_nm (Ne.symm n_a5_a15) (h_nm (Ne.symm n_a6_a15) (h_nm (Ne.symm n_a7_a15) (h_nm (Ne.symm n_b32_4_0_a15) (h_nm (Ne.symm n_b32_7_0_a15) (h_nm (Ne.symm n_b32_10_0_a15) (h_nm (Ne.symm n_b32_13_0_a15) (h_nm (Ne.symm n_b32_16_0_a15) (h_nm (Ne.symm n_b32_19_0_a15) h_n0)))))))))))))))))))))))))))))) nd20
                have nd18 : ([b103_35_1, a15, b115_38_0, b115_38_1, b115_38_2, b115_38_3, a16, b128_41_0, b128_41_1, b128_41_2, b128_41_3, b128_41_4, b128_41_5, a17, b141_44_0, b141_44_1, b141_44_2, b141_44_3, b141_44_4, b141_44_5, a2, a3, a4, a5, a6, a7, b32_4_0, b32_7_0, b32_10_0, b32_13_0, b32_16_0, b32_19_0] : List Nat).Nodup := nd_c (h_nm n_b103_35_1_a15 (h_nm n_b103_35_1_b115_38_0 (h_nm n_b103_35_1_b115_38_1 (h_nm n_b103_35_1_b115_38_2 (h_nm n_b103_35_1_b115_38_3 (h_nm n_b103_35_1_a16 (h_nm n_b103_35_1_b128_41_0 (h_nm n_b103_35_1_b128_41_1 (h_nm n_b103_35_1_b128_41_2 (h_nm n_b103_35_1_b128_41_3 (h_nm n_b103_35_1_b128_41_4 (h_nm n_b103_35_1_b128_41_5 (h_nm n_b103_35_1_a17 (h_nm n_b103_35_1_b141_44_0 (h_nm n_b103_35_1_b141_44_1 (h_nm n_b103_35_1_b141_44_2 (h_nm n_b103_35_1_b141_44_3 (h_nm n_b103_35_1_b141_44_4 (h_nm n_b103_35_1_b141_44_5 (h_nm (Ne.symm n_a2_b103_35_1) (h_nm (Ne.symm n_a3_b103_35_1) (h_nm (Ne.symm n_a4_b103_35_1) (h_nm (Ne.symm n_a5_b103_35_1) (h_nm (Ne.symm n_a6_b103_35_1) (h_nm (Ne.symm n_a7_b103_35_1) (h_nm (Ne.symm n_b32_4_0_b103_35_1) (h_nm (Ne.symm n_b32_7_0_b103_35_1) (h_nm (Ne.symm n_b32_10_0_b103_35_1) (h_nm (Ne.symm n_b32_13_0_b103_35_1) (h_nm (Ne.symm n_b32_16_0_b103_35_1) (h_nm (Ne.symm n_b32_19_0_b103_35_1) h_n0))))))))))))))))))))))))))))))) nd19
                have nd17 : ([b103_35_0, b103_35_1, a15, b115_38_0, b115_38_1, b115_38_2, b115_38_3, a16, b128_41_0, b128_41_1, b128_41_2, b128_41_3, b128_41_4, b128_41_5, a17, b141_44_0, b141_44_1, b141_44_2, b141_44_3, b141_44_4, b141_44_5, a2, a3, a4, a5, a6, a7, b32_4_0, b32_7_0, b32_10_0, b32_13_0, b32_16_0, b32_19_0] : List Nat).Nodup := nd_c (h_nm (h_ne f45_28 f45_29 (fun h => by cases h)) (h_nm n_b103_35_0_a15 (h_nm n_b103_35_0_b115_38_0 (h_nm n_b103_35_0_b115_38_1 (h_nm n_b103_35_0_b115_38_2 (h_nm n_b103_35_0_b115_38_3 (h_nm n_b103_35_0_a16 (h_nm n_b103_35_0_b128_41_0 (h_nm n_b103_35_0_b128_41_1 (h_nm n_b103_35_0_b128_41_2 (h_nm n_b103_35_0_b128_41_3 (h_nm n_b103_35_0_b128_41_4 (h_nm n_b103_35_0_b128_41_5 (h_nm n_b103_35_0_a17 (h_nm n_b103_35_0_b141_44_0 (h_nm n_b103_35_0_b141_44_1 (h_nm n_b103_35_0_b141_44_2 (h_nm n_b103_35_0_b141_44_3 (h_nm n_b103_35_0_b141_44_4 (h_nm n_b103_35_0_b141_44_5 (h_nm (Ne.symm n_a2_b103_35_0) (h_nm (Ne.symm n_a3_b103_35_0) (h_nm (Ne.symm n_a4_b103_35_0) (h_nm (Ne.symm n_a5_b103_35_0) (h_nm (Ne.symm n_a6_b103_35_0) (h_nm (Ne.symm n_a7_b103_35_0) (h_nm (Ne.symm n_b32_4_0_b103_35_0) (h_nm (Ne.symm n_b32_7_0_b103_35_0) (h_nm (Ne.symm n_b32_10_0_b103_35_0) (h_nm (Ne.symm n_b32_13_0_b103_35_0) (h_nm (Ne.symm n_b32_16_0_b103_35_0) (h_nm (Ne.symm n_b32_19_0_b103_35_0) h_n0)))))))))))))))))))))))))))))))) nd18
                have nd16 : ([a13, b103_35_0, b103_35_1, a15, b115_38_0, b115_38_1, b115_38_2, b115_38_3, a16, b128_41_0, b128_41_1, b128_41_2, b128_41_3, b128_41_4, b128_41_5, a17, b141_44_0, b141_44_1, b141_44_2, b141_44_3, b141_44_4, b141_44_5, a2, a3, a4, a5, a6, a7, b32_4_0, b32_7_0, b32_10_0, b32_13_0, b32_16_0, b32_19_0] : List Nat).Nodup := nd_c (h_nm n_a13_b103_35_0 (h_nm n_a13_b103_35_1 (h_nm n_a13_a15 (h_nm n_a13_b115_38_0 (h_nm n_a13_b115_38_1 (h_nm n_a13_b115_38_2 (h_nm n_a13_b115_38_3 (h_nm n_a13_a16 (h_nm n_a13_b128_41_0 (h_nm n_a13_b128_41_1 (h_nm n_a13_b128_41_2 (h_nm n_a13_b128_41_3 (h_nm n_a13_b128_41_4 (h_nm n_a13_b128_41_5 (h_nm n_a13_a17 (h_nm n_a13_b141_44_0 (h_nm n_a13_b141_44_1 (h_nm n_a13_b141_44_2 (h_nm n_a13_b141_44_3 (h_nm n_a13_b141_44_4 (h_nm n_a13_b141_44_5 (h_nm (Ne.symm n_a2_a13) (h_nm (Ne.symm n_a3_a13) (h_nm (Ne.symm n_a4_a13) (h_nm (Ne.symm n_a5_a13) (h_nm (Ne.symm n_a6_a13) (h_nm (Ne.symm n_a7_a13) (h_nm (Ne.symm n_b32_4_0_a13) (h_nm (Ne.symm n_b32_7_0_a13) (h_nm (Ne.symm n_b32_10_0_a13) (h_nm (Ne.symm n_b32_13_0_a13) (h_nm (Ne.symm n_b32_16_0_a13) (h_nm (Ne.symm n_b32_19_0_a13) h_n0))))))))))))))))))))))))))))))))) nd17
                have nd15 : ([b100_34_0, a13, b103_35_0, b103_35_1, a15, b115_38_0, b115_38_1, b115_38_2, b115_38_3, a16, b128_41_0, b128_41_1, b128_41_2, b128_41_3, b128_41_4, b128_41_5, a17, b141_44_0, b141_44_1, b141_44_2, b141_44_3, b141_44_4, b141_44_5, a2, a3, a4, a5, a6, a7, b32_4_0, b32_7_0, b32_10_0, b32_13_0, b32_16_0, b32_19_0] : List Nat).Nodup := nd_c (h_nm (Ne.symm n_a13_b100_34_0) (h_nm n_b100_34_0_b103_35_0 (h_nm n_b100_34_0_b103_35_1 (h_nm n_b100_34_0_a15 (h_nm n_b100_34_0_b115_38_0 (h_nm n_b100_34_0_b115_38_1 (h_nm n_b100_34_0_b115_38_2 (h_nm n_b100_34_0_b115_38_3 (h_nm n_b100_34_0_a16 (h_nm n_b100_34_0_b128_41_0 (h_nm n_b100_34_0_b128_41_1 (h_nm n_b100_34_0_b128_41_2 (h_nm n_b100_34_0_b128_41_3 (h_nm n_b100_34_0_b128_41_4 (h_nm n_b100_34_0_b128_41_5 (h_nm n_b100_34_0_a17 (h_nm n_b100_34_0_b141_44_0 (h_nm n_b100_34_0_b141_44_1 (h_nm n_b100_34_0_b141_44_2 (h_nm n_b100_34_0_b141_44_3 (h_nm n_b100_34_0_b141_44_4 (h_nm n_b100_34_0_b141_44_5 (h_nm (Ne.symm n_a2_b100_34_0) (h_nm (Ne.symm n_a3_b100_34_0) (h_nm (Ne.symm n_a4_b100_34_0) (h_nm (Ne.symm n_a5_b100_34_0) (h_nm (Ne.symm n_a6_b100_34_0) (h_nm (Ne.symm n_a7_b100_34_0) (h_nm (Ne.symm n_b32_4_0_b100_34_0) (h_nm (Ne.symm n_b32_7_0_b100_34_0) (h_nm (Ne.symm n_b32_10_0_b100_34_0) (h_nm (Ne.symm n_b32_13_0_b100_34_0) (h_nm (Ne.symm n_b32_16_0_b100_34_0) (h_nm (Ne.symm n_b32_19_0_b100_34_0) h_n0)))))))))))))))))))))))))))))))))) nd16
                have nd14 : ([a14, b100_34_0, a13, b103_35_0, b103_35_1, a15, b115_38_0, b115_38_1, b115_38_2, b115_38_3, a16, b128_41_0, b128_41_1, b128_41_2, b128_41_3, b128_41_4, b128_41_5, a17, b141_44_0, b141_44_1, b141_44_2, b141_44_3, b141_44_4, b141_44_5, a2, a3, a4, a5, a6, a7, b32_4_0, b32_7_0, b32_10_0, b32_13_0, b32_16_0, b32_19_0] : List Nat).Nodup := nd_c (h_nm n_a14_b100_34_0 (h_nm (Ne.symm n_a13_a14) (h_nm n_a14_b103_35_0 (h_nm n_a14_b103_35_1 (h_nm n_a14_a15 (h_nm n_a14_b115_38_0 (h_nm n_a14_b115_38_1 (h_nm n_a14_b115_38_2 (h_nm n_a14_b115_38_3 (h_nm n_a14_a16 (h_nm n_a14_b128_41_0 (h_nm n_a14_b128_41_1 (h_nm n_a14_b128_41_2 (h_nm n_a14_b128_41_3 (h_nm n_a14_b128_41_4 (h_nm n_a14_b128_41_5 (h_nm n_a14_a17 (h_nm n_a14_b141_44_0 (h_nm n_a14_b141_44_1 (h_nm n_a14_b141_44_2 (h_nm n_a14_b141_44_3 (h_nm n_a14_b141_44_4 (h_nm n_a14_b141_44_5 (h_nm (Ne.symm n_a2_a14) (h_nm (Ne.symm n_a3_a14) (h_nm (Ne.symm n_a4_a14) (h_nm (Ne.symm n_a5_a14) (h_nm (Ne.symm n_a6_a14) (h_nm (Ne.symm n_a7_a14) (h_nm (Ne.symm n_b32_4_0_a14) (h_nm (Ne.symm n_b32_7_0_a14) (h_nm (Ne.symm n_b32_10_0_a14) (h_nm (Ne.symm n_b32_13_0_a14) (h_nm (Ne.symm n_b32_16_0_a14) (h_nm (Ne.symm n_b32_19_0_a14) h_n0))))))))))))))))))))))))))))))))))) nd15
                have nd13 : ([b84_30_0, a14, b100_34_0, a13, b103_35_0, b103_35_1, a15, b115_38_0, b115_38_1, b115_38_2, b115_38_3, a16, b128_41_0, b128_41_1, b128_41_2, b128_41_3, b128_41_4, b128_41_5, a17, b141_44_0, b141_44_1, b141_44_2, b141_44_3, b141_44_4, b141_44_5, a2, a3, a4, a5, a6, a7, b32_4_0, b32_7_0, b32_10_0, b32_13_0, b32_16_0, b32_19_0] : List Nat).Nodup := nd_c (h_nm n_b84_30_0_a14 (h_nm n_b84_30_0_b100_34_0 (h_nm n_b84_30_0_a13 (h_nm n_b84_30_0_b103_35_0 (h_nm n_b84_30_0_b103_35_1 (h_nm n_b84_30_0_a15 (h_nm n_b84_30_0_b115_38_0 (h_nm n_b84_30_0_b115_38_1 (h_nm n_b84_30_0_b115_38_2 (h_nm n_b84_30_0_b115_38_3 (h_nm n_b84_30_0_a16 (h_nm n_b84_30_0_b128_41_0 (h_nm n_b84_30_0_b128_41_1 (h_nm n_b84_30_0_b128_41_2 (h_nm n_b84_30_0_b128_41_3 (h_nm n_b84_30_0_b128_41_4 (h_nm n_b84_30_0_b128_41_5 (h_nm n_b84_30_0_a17 (h_nm n_b84_30_0_b141_44_0 (h_nm n_b84_30_0_b141_44_1 (h_nm n_b84_30_0_b141_44_2 (h_nm n_b84_30_0_b141_44_3 (h_nm n_b84_30_0_b141_44_4 (h_nm n_b84_30_0_b141_44_5 (h_nm (Ne.symm n_a2_b84_30_0) (h_nm (Ne.symm n_a3_b84_30_0) (h_nm (Ne.symm n_a4_b84_30_0) (h_nm (Ne.symm n_a5_b84_30_0) (h_nm (Ne.symm n_a6_b84_30_0) (h_nm (Ne.symm n_a7_b84_30_0) (h_nm (Ne.symm n_b32_4_0_b84_30_0) (h_nm (Ne.symm n_b32_7_0_b84_30_0) (h_nm (Ne.symm n_b32_10_0_b84_30_0) (h_nm (Ne.symm n_b32_13_0_b84_30_0) (h_nm (Ne.symm n_b32_16_0_b84_30_0) (h_nm (Ne.symm n_b32_19_0_b84_30_0) h_n0)))))))))))))))))))))))))))))))))))) nd14
                have nd12 : ([a12, b84_30_0, a14, b100_34_0, a13, b103_35_0, b103_35_1, a15, b115_38_0, b115_38_1, b115_38_2, b115_38_3, a16, b128_41_0, b128_41_1, b128_41_2, b128_41_3, b128_41_4, b128_41_5, a17, b141_44_0, b141_44_1, b141_44_2, b141_44_3, b141_44_4, b141_44_5, a2, a3, a4, a5, a6, a7, b32_4_0, b32_7_0, b32_10_0, b32_13_0, b32_16_0, b32_19_0] : List Nat).Nodup := nd_c (h_nm n_a12_b84_30_0 (h_nm n_a12_a14 (h_nm n_a12_b100_34_0 (h_nm n_a12_a13 (h_nm n_a12_b103_35_0 (h_nm n_a12_b103_35_1 (h_nm n_a12_a15 (h_nm n_a12_b115_38_0 (h_nm n_a12_b115_38_1 (h_nm n_a12_b115_38_2 (h_nm n_a12_b115_38_3 (h_nm n_a12_a16 (h_nm n_a12_b128_41_0 (h_nm n_a12_b128_41_1 (h_nm n_a12_b128_41_2 (h_nm n_a12_b128_41_3 (h_nm n_a12_b128_41_4 (h_nm n_a12_b128_41_5 (h_nm n_a12_a17 (h_nm n_a12_b141_44_0 (h_nm n_a12_b141_44_1 (h_nm n_a12_b141_44_2 (h_nm n_a12_b141_44_3 (h_nm n_a12_b141_44_4 (h_nm n_a12_b141_44_5 (h_nm (Ne.symm n_a2_a12) (h_nm (Ne.symm n_a3_a12) (h_nm (Ne.symm n_a4_a12) (h_nm (Ne.symm n_a5_a12) (h_nm (Ne.symm n_a6_a12) (h_nm (Ne.symm n_a7_a12) (h_nm (Ne.symm n_b32_4_0_a12) (h_nm (Ne.symm n_b32_7_0_a12) (h_nm (Ne.symm n_b32_10_0_a12) (h_nm (Ne.symm n_b32_13_0_a12) (h_nm (Ne.symm n_b32_16_0_a12) (h_nm (Ne.symm n_b32_19_0_a12) h_n0))))))))))))))))))))))))))))))))))))) nd13
                have nd11 : ([b72_27_1, a12, b84_30_0, a14, b100_34_0, a13, b103_35_0, b103_35_1, a15, b115_38_0, b115_38_1, b115_38_2, b115_38_3, a16, b128_41_0, b128_41_1, b128_41_2, b128_41_3, b128_41_4, b128_41_5, a17, b141_44_0, b141_44_1, b141_44_2, b141_44_3, b141_44_4, b141_44_5, a2, a3, a4, a5, a6, a7, b32_4_0, b32_7_0, b32_10_0, b32_13_0, b32_16_0, b32_19_0] : List Nat).Nodup := nd_c (h_nm n_b72_27_1_a12 (h_nm n_b72_27_1_b84_30_0 (h_nm n_b72_27_1_a14 (h_nm n_b72_27_1_b100_34_0 (h_nm n_b72_27_1_a13 (h_nm n_b72_27_1_b103_35_0 (h_nm n_b72_27_1_b103_35_1 (h_nm n_b72_27_1_a15 (h_nm n_b72_27_1_b115_38_0 (h_nm n_b72_27_1_b115_38_1 (h_nm n_b72_27_1_b115_38_2 (h_nm n_b72_27_1_b115_38_3 (h_nm n_b72_27_1_a16 (h_nm n_b72_27_1_b128_41_0 (h_nm n_b72_27_1_b128_41_1 (h_nm n_b72_27_1_b128_41_2 (h_nm n_b72_27_1_b128_41_3 (h_nm n_b72_27_1_b128_41_4 (h_nm n_b72_27_1_b128_41_5 (h_nm n_b72_27_1_a17 (h_nm n_b72_27_1_b141_44_0 (h_nm n_b72_27_1_b141_44_1 (h_nm n_b72_27_1_b141_44_2 (h_nm n_b72_27_1_b141_44_3 (h_nm n_b72_27_1_b141_44_4 (h_nm n_b72_27_1_b141_44_5 (h_nm (Ne.symm n_a2_b72_27_1) (h_nm (Ne.symm n_a3_b72_27_1) (h_nm (Ne.symm n_a4_b72_27_1) (h_nm (Ne.symm n_a5_b72_27_1) (h_nm (Ne.symm n_a6_b72_27_1) (h_nm (Ne.symm n_a7_b72_27_1) (h_nm (Ne.symm n_b32_4_0_b72_27_1) (h_nm (Ne.symm n_b32_7_0_b72_27_1) (h_nm (Ne.symm n_b32_10_0_b72_27_1) (h_nm (Ne.symm n_b32_13_0_b72_27_1) (h_nm (Ne.symm n_b32_16_0_b72_27_1) (h_nm (Ne.symm n_b32_19_0_b72_27_1) h_n0)))))))))))))))))))))))))))))))))))))) nd12
                have nd10 : ([b72_27_0, b72_27_1, a12, b84_30_0, a14, b100_34_0, a13, b103_35_0, b103_35_1, a15, b115_38_0, b115_38_1, b115_38_2, b115_38_3, a16, b128_41_0, b128_41_1, b128_41_2, b128_41_3, b128_41_4, b128_41_5, a17, b141_44_0, b141_44_1, b141_44_2, b141_44_3, b141_44_4, b141_44_5, a2, a3, a4, a5, a6, a7, b32_4_0, b32_7_0, b32_10_0, b32_13_0, b32_16_0, b32_19_0] : List Nat).Nodup := nd_c (h_nm w72_27_0 (h_nm n_b72_27_0_a12 (h_nm n_b72_27_0_b84_30_0 (h_nm n_b72_27_0_a14 (h_nm n_b72_27_0_b100_34_0 (h_nm n_b72_27_0_a13 (h_nm n_b72_27_0_b103_35_0 (h_nm n_b72_27_0_b103_35_1 (h_nm n_b72_27_0_a15 (h_nm n_b72_27_0_b115_38_0 (h_nm n_b72_27_0_b115_38_1 (h_nm n_b72_27_0_b115_38_2 (h_nm n_b72_27_0_b115_38_3 (h_nm n_b72_27_0_a16 (h_nm n_b72_27_0_b128_41_0 (h_nm n_b72_27_0_b128_41_1 (h_nm n_b72_27_0_b128_41_2 (h_nm n_b72_27_0_b128_41_3 (h_nm n_b72_27_0_b128_41_4 (h_nm n_b72_27_0_b128_41_5 (h_nm n_b72_27_0_a17 (h_nm n_b72_27_0_b141_44_0 (h_nm n_b72_27_0_b141_44_1 (h_nm n_b72_27_0_b141_44_2 (h_nm n_b72_27_0_b141_44_3 (h_nm n_b72_27_0_b141_44_4 (h_nm n_b72_27_0_b141_44_5 (h_nm (Ne.symm n_a2_b72_27_0) (h_nm (Ne.symm n_a3_b72_27_0) (h_nm (Ne.symm n_a4_b72_27_0) (h_nm (Ne.symm n_a5_b72_27_0) (h_nm (Ne.symm n_a6_b72_27_0) (h_nm (Ne.symm n_a7_b72_27_0) (h_nm (Ne.symm n_b32_4_0_b72_27_0) (h_nm (Ne.symm n_b32_7_0_b72_27_0) (h_nm (Ne.symm n_b32_10_0_b72_27_0) (h_nm (Ne.symm n_b32_13_0_b72_27_0) (h_nm (Ne.symm n_b32_16_0_b72_27_0) (h_nm (Ne.symm n_b32_19_0_b72_27_0) h_n0))))))))))))))))))))))))))))))))))))))) nd11
                have nd9 : ([a11, b72_27_0, b72_27_1, a12, b84_30_0, a14, b100_34_0, a13, b103_35_0, b103_35_1, a15, b115_38_0, b115_38_1, b115_38_2, b115_38_3, a16, b128_41_0, b128_41_1, b128_41_2, b128_41_3, b128_41_4, b128_41_5, a17, b141_44_0, b141_44_1, b141_44_2, b141_44_3, b141_44_4, b141_44_5, a2, a3, a4, a5, a6, a7, b32_4_0, b32_7_0, b32_10_0, b32_13_0, b32_16_0, b32_19_0] : List Nat).Nodup := nd_c (h_nm n_a11_b72_27_0 (h_nm n_a11_b72_27_1 (h_nm n_a11_a12 (h_nm n_a11_b84_30_0 (h_nm n_a11_a14 (h_nm n_a11_b100_34_0 (h_nm n_a11_a13 (h_nm n_a11_b103_35_0 (h_nm n_a11_b103_35_1 (h_nm n_a11_a15 (h_nm n_a11_b115_38_0 (h_nm n_a11_b115_38_1 (h_nm n_a11_b115_38_2 (h_nm n_a11_b115_38_3 (h_nm n_a11_a16 (h_nm n_a11_b128_41_0 (h_nm n_a11_b128_41_1 (h_nm n_a11_b128_41_2 (h_nm n_a11_b128_41_3 (h_nm n_a11_b128_41_4 (h_nm n_a11_b128_41_5 (h_nm n_a11_a17 (h_nm n_a11_b141_44_0 (h_nm n_a11_b141_44_1 (h_nm n_a11_b141_44_2 (h_nm n_a11_b141_44_3 (h_nm n_a11_b141_44_4 (h_nm n_a11_b141_44_5 (h_nm (Ne.symm n_a2_a11) (h_nm (Ne.symm n_a3_a11) (h_nm (Ne.symm n_a4_a11) (h_nm (Ne.symm n_a5_a11) (h_nm (Ne.symm n_a6_a11) (h_nm (Ne.symm n_a7_a11) (h_nm (Ne.symm n_b32_4_0_a11) (h_nm (Ne.symm n_b32_7_0_a11) (h_nm (Ne.symm n_b32_10_0_a11) (h_nm (Ne.symm n_b32_13_0_a11) (h_nm (Ne.symm n_b32_16_0_a11) (h_nm (Ne.symm n_b32_19_0_a11) h_n0)))))))))))))))))))))))))))))))))))))))) nd10
                have nd8 : ([b62_25_1, a11, b72_27_0, b72_27_1, a12, b84_30_0, a14, b100_34_0, a13, b103_35_0, b103_35_1, a15, b115_38_0, b115_38_1, b115_38_2, b115_38_3, a16, b128_41_0, b128_41_1, b128_41_2, b128_41_3, b128_41_4, b128_41_5, a17, b141_44_0, b141_44_1, b141_44_2, b141_44_3, b141_44_4, b141_44_5, a2, a3, a4, a5, a6, a7, b32_4_0, b32_7_0, b32_10_0, b32_13_0, b32_16_0, b32_19_0] : List Nat).Nodup := nd_c (h_nm n_b62_25_1_a11 (h_nm n_b62_25_1_b72_27_0 (h_nm n_b62_25_1_b72_27_1 (h_nm n_b62_25_1_a12 (h_nm n_b62_25_1_b84_30_0 (h_nm n_b62_25_1_a14 (h_nm n_b62_25_1_b100_34_0 (h_nm n_b62_25_1_a13 (h_nm n_b62_25_1_b103_35_0 (h_nm n_b62_25_1_b103_35_1 (h_nm n_b62_25_1_a15 (h_nm n_b62_25_1_b115_38_0 (h_nm n_b62_25_1_b115_38_1 (h_nm n_b62_25_1_b115_38_2 (h_nm n_b62_25_1_b115_38_3 (h_nm n_b62_25_1_a16 (h_nm n_b62_25_1_b128_41_0 (h_nm n_b62_25_1_b128_41_1 (h_nm n_b62_25_1_b128_41_2 (h_nm n_b62_25_1_b128_41_3 (h_nm n_b62_25_1_b128_41_4 (h_nm n_b62_25_1_b128_41_5 (h_nm n_b62_25_1_a17 (h_nm n_b62_25_1_b141_44_0 (h_nm n_b62_25_1_b141_44_1 (h_nm n_b62_25_1_b141_44_2 (h_nm n_b62_25_1_b141_44_3 (h_nm n_b62_25_1_b141_44_4 (h_nm n_b62_25_1_b141_44_5 (h_nm (Ne.symm n_a2_b62_25_1) (h_nm (Ne.symm n_a3_b62_25_1) (h_nm (Ne.symm n_a4_b62_25_1) (h_nm (Ne.symm n_a5_b62_25_1) (h_nm (Ne.symm n_a6_b62_25_1) (h_nm (Ne.symm n_a7_b62_25_1) (h_nm (Ne.symm n_b32_4_0_b62_25_1) (h_nm (Ne.symm n_b32_7_0_b62_25_1) (h_nm (Ne.symm n_b32_10_0_b62_25_1) (h_nm (Ne.symm n_b32_13_0_b62_25_1) (h_nm (Ne.symm n_b32_16_0_b62_25_1) (h_nm (Ne.symm n_b32_19_0_b62_25_1) h_n0))))))))))))))))))))))))))))))))))))))))) nd9
                have nd7 : ([b62_25_0, b62_25_1, a11, b72_27_0, b72_27_1, a12, b84_30_0, a14, b100_34_0, a13, b103_35_0, b103_35_1, a15, b115_38_0, b115_38_1, b115_38_2, b115_38_3, a16, b128_41_0, b128_41_1, b128_41_2, b128_41_3, b128_41_4, b128_41_5, a17, b141_44_0, b141_44_1, b141_44_2, b141_44_3, b141_44_4, b141_44_5, a2, a3, a4, a5, a6, a7, b32_4_0, b32_7_0, b32_10_0, b32_13_0, b32_16_0, b32_19_0] : List Nat).Nodup := nd_c (h_nm w62_25_0 (h_nm n_b62_25_0_a11 (h_nm n_b62_25_0_b72_27_0 (h_nm n_b62_25_0_b72_27_1 (h_nm n_b62_25_0_a12 (h_nm n_b62_25_0_b84_30_0 (h_nm n_b62_25_0_a14 (h_nm n_b62_25_0_b100_34_0 (h_nm n_b62_25_0_a13 (h_nm n_b62_25_0_b103_35_0 (h_nm n_b62_25_0_b103_35_1 (h_nm n_b62_25_0_a15 (h_nm n_b62_25_0_b115_38_0 (h_nm n_b62_25_0_b115_38_1 (h_nm n_b62_25_0_b115_38_2 (h_nm n_b62_25_0_b115_38_3 (h_nm n_b62_25_0_a16 (h_nm n_b62_25_0_b128_41_0 (h_nm n_b62_25_0_b128_41_1 (h_nm n_b62_25_0_b128_41_2 (h_nm n_b62_25_0_b128_41_3 (h_nm n_b62_25_0_b128_41_4 (h_nm n_b62_25_0_b128_41_5 (h_nm n_b62_25_0_a17 (h_nm n_b62_25_0_b141_44_0 (h_nm n_b62_25_0_b141_44_1 (h_nm n_b62_25_0_b141_44_2 (h_nm n_b62_25_0_b141_44_3 (h_nm n_b62_25_0_b141_44_4 (h_nm n_b62_25_0_b141_44_5 (h_nm (Ne.symm n_a2_b62_25_0) (h_nm (Ne.symm n_a3_b62_25_0) (h_nm (Ne.symm n_a4_b62_25_0) (h_nm (Ne.symm n_a5_b62_25_0) (h_nm (Ne.symm n_a6_b62_25_0) (h_nm (Ne.symm n_a7_b62_25_0) (h_nm (Ne.symm n_b32_4_0_b62_25_0) (h_nm (Ne.symm n_b32_7_0_b62_25_0) (h_nm (Ne.symm n_b32_10_0_b62_25_0) (h_nm (Ne.symm n_b32_13_0_b62_25_0) (h_nm (Ne.symm n_b32_16_0_b62_25_0) (h_nm (Ne.symm n_b32_19_0_b62_25_0) h_n0)))))))))))))))))))))))))))))))))))))))))) nd8
                have nd6 : ([a10, b62_25_0, b62_25_1, a11, b72_27_0, b72_27_1, a12, b84_30_0, a14, b100_34_0, a13, b103_35_0, b103_35_1, a15, b115_38_0, b115_38_1, b115_38_2, b115_38_3, a16, b128_41_0, b128_41_1, b128_41_2, b128_41_3, b128_41_4, b128_41_5, a17, b141_44_0, b141_44_1, b141_44_2, b141_44_3, b141_44_4, b141_44_5, a2, a3, a4, a5, a6, a7, b32_4_0, b32_7_0, b32_10_0, b32_13_0, b32_16_0, b32_19_0] : List Nat).Nodup := nd_c (h_nm n_a10_b62_25_0 (h_nm n_a10_b62_25_1 (h_nm n_a10_a11 (h_nm n_a10_b72_27_0 (h_nm n_a10_b72_27_1 (h_nm n_a10_a12 (h_nm n_a10_b84_30_0 (h_nm n_a10_a14 (h_nm n_a10_b100_34_0 (h_nm n_a10_a13 (h_nm n_a10_b103_35_0 (h_nm n_a10_b103_35_1 (h_nm n_a10_a15 (h_nm n_a10_b115_38_0 (h_nm n_a10_b115_38_1 (h_nm n_a10_b115_38_2 (h_nm n_a10_b115_38_3 (h_nm n_a10_a16 (h_nm n_a10_b128_41_0 (h_nm n_a10_b128_41_1 (h_nm n_a10_b128_41_2 (h_nm n_a10_b128_41_3 (h_nm n_a10_b128_41_4 (h_nm n_a10_b128_41_5 (h_nm n_a10_a17 (h_nm n_a10_b141_44_0 (h_nm n_a10_b141_44_1 (h_nm n_a10_b141_44_2 (h_nm n_a10_b141_44_3 (h_nm n_a10_b141_44_4 (h_nm n_a10_b141_44_5 (h_nm (Ne.symm n_a2_a10) (h_nm (Ne.symm n_a3_a10) (h_nm (Ne.symm n_a4_a10) (h_nm (Ne.symm n_a5_a10) (h_nm (Ne.symm n_a6_a10) (h_nm (Ne.symm n_a7_a10) (h_nm (Ne.symm n_b32_4_0_a10) (h_nm (Ne.symm n_b32_7_0_a10) (h_nm (Ne.symm n_b32_10_0_a10) (h_nm (Ne.symm n_b32_13_0_a10) (h_nm (Ne.symm n_b32_16_0_a10) (h_nm (Ne.symm n_b32_19_0_a10) h_n0))))))))))))))))))))))))))))))))))))))))))) nd7
                have nd5 : ([b53_23_1, a10, b62_25_0, b62_25_1, a11, b72_27_0, b72_27_1, a12, b84_30_0, a14, b100_34_0, a13, b103_35_0, b103_35_1, a15, b115_38_0, b115_38_1, b115_38_2, b115_38_3, a16, b128_41_0, b128_41_1, b128_41_2, b128_41_3, b128_41_4, b128_41_5, a17, b141_44_0, b141_44_1, b141_44_2, b141_44_3, b141_44_4, b141_44_5, a2, a3, a4, a5, a6, a7, b32_4_0, b32_7_0, b32_10_0, b32_13_0, b32_16_0, b32_19_0] : List Nat).Nodup := nd_c (h_nm n_b53_23_1_a10 (h_nm n_b53_23_1_b62_25_0 (h_nm n_b53_23_1_b62_25_1 (h_nm n_b53_23_1_a11 (h_nm n_b53_23_1_b72_27_0 (h_nm n_b53_23_1_b72_27_1 (h_nm n_b53_23_1_a12 (h_nm n_b53_23_1_b84_30_0 (h_nm n_b53_23_1_a14 (h_nm n_b53_23_1_b100_34_0 (h_nm n_b53_23_1_a13 (h_nm n_b53_23_1_b103_35_0 (h_nm n_b53_23_1_b103_35_1 (h_nm n_b53_23_1_a15 (h_nm n_b53_23_1_b115_38_0 (h_nm n_b53_23_1_b115_38_1 (h_nm n_b53_23_1_b115_38_2 (h_nm n_b53_23_1_b115_38_3 (h_nm n_b53_23_1_a16 (h_nm n_b53_23_1_b128_41_0 (h_nm n_b53_23_1_b128_41_1 (h_nm n_b53_23_1_b128_41_2 (h_nm n_b53_23_1_b128_41_3 (h_nm n_b53_23_1_b128_41_4 (h_nm n_b53_23_1_b128_41_5 (h_nm n_b53_23_1_a17 (h_nm n_b53_23_1_b141_44_0 (h_nm n_b53_23_1_b141_44_1 (h_nm n_b53_23_1_b141_44_2 (h_nm n_b53_23_1_b141_44_3 (h_nm n_b53_23_1_b141_44_4 (h_nm n_b53_23_1_b141_44_5 (h_nm (Ne.symm n_a2_b53_23_1) (h_nm (Ne.symm n_a3_b53_23_1) (h_nm (Ne.symm n_a4_b53_23_1) (h_nm (Ne.symm n_a5_b53_23_1) (h_nm (Ne.symm n_a6_b53_23_1) (h_nm (Ne.symm n_a7_b53_23_1) (h_nm (Ne.symm n_b32_4_0_b53_23_1) (h_nm (Ne.symm n_b32_7_0_b53_23_1) (h_nm (Ne.symm n_b32_10_0_b53_23_1) (h_nm (Ne.symm n_b32_13_0_b53_23_1) (h_nm (Ne.symm n_b32_16_0_b53_23_1) (h_nm (Ne.symm n_b32_19_0_b53_23_1) h_n0)))))))))))))))))))))))))))))))))))))))))))) nd6
                have nd4 : ([b53_23_0, b53_23_1, a10, b62_25_0, b62_25_1, a11, b72_27_0, b72_27_1, a12, b84_30_0, a14, b100_34_0, a13, b103_35_0, b103_35_1, a15, b115_38_0, b115_38_1, b115_38_2, b115_38_3, a16, b128_41_0, b128_41_1, b128_41_2, b128_41_3, b128_41_4, b128_41_5, a17, b141_44_0, b141_44_1, b141_44_2, b141_44_3, b141_44_4, b141_44_5, a2, a3, a4, a5, a6, a7, b32_4_0, b32_7_0, b32_10_0, b32_13_0, b32_16_0, b32_19_0] : List Nat).Nodup := nd_c (h_nm w53_23_0 (h_nm n_b53_23_0_a10 (h_nm n_b53_23_0_b62_25_0 (h_nm n_b53_23_0_b62_25_1 (h_nm n_b53_23_0_a11 (h_nm n_b53_23_0_b72_27_0 (h_nm n_b53_23_0_b72_27_1 (h_nm n_b53_23_0_a12 (h_nm n_b53_23_0_b84_30_0 (h_nm n_b53_23_0_a14 (h_nm n_b53_23_0_b100_34_0 (h_nm n_b53_23_0_a13 (h_nm n_b53_23_0_b103_35_0 (h_nm n_b53_23_0_b103_35_1 (h_nm n_b53_23_0_a15 (h_nm n_b53_23_0_b115_38_0 (h_nm n_b53_23_0_b115_38_1 (h_nm n_b53_23_0_b115_38_2 (h_nm n_b53_23_0_b115_38_3 (h_nm n_b53_23_0_a16 (h_nm n_b53_23_0_b128_41_0 (h_nm n_b53_23_0_b128_41_1 (h_nm n_b53_23_0_b128_41_2 (h_nm n_b53_23_0_b128_41_3 (h_nm n_b53_23_0_b128_41_4 (h_nm n_b53_23_0_b128_41_5 (h_nm n_b53_23_0_a17 (h_nm n_b53_23_0_b141_44_0 (h_nm n_b53_23_0_b141_44_1 (h_nm n_b53_23_0_b141_44_2 (h_nm n_b53_23_0_b141_44_3 (h_nm n_b53_23_0_b141_44_4 (h_nm n_b53_23_0_b141_44_5 (h_nm (Ne.symm n_a2_b53_23_0) (h_nm (Ne.symm n_a3_b53_23_0) (h_nm (Ne.symm n_a4_b53_23_0) (h_nm (Ne.symm n_a5_b53_23_0) (h_nm (Ne.symm n_a6_b53_23_0) (h_nm (Ne.symm n_a7_b53_23_0) (h_nm (Ne.symm n_b32_4_0_b53_23_0) (h_nm (Ne.symm n_b32_7_0_b53_23_0) (h_nm (Ne.symm n_b32_10_0_b53_23_0) (h_nm (Ne.symm n_b32_13_0_b53_23_0) (h_nm (Ne.symm n_b32_16_0_b53_23_0) (h_nm (Ne.symm n_b32_19_0_b53_23_0) h_n0))))))))))))))))))))))))))))))))))))))))))))) nd5
                have nd3 : ([a9, b53_23_0, b53_23_1, a10, b62_25_0, b62_25_1, a11, b72_27_0, b72_27_1, a12, b84_30_0, a14, b100_34_0, a13, b103_35_0, b103_35_1, a15, b115_38_0, b115_38_1, b115_38_2, b115_38_3, a16, b128_41_0, b128_41_1, b128_41_2, b128_41_3, b128_41_4, b128_41_5, a17, b141_44_0, b141_44_1, b141_44_2, b141_44_3, b141_44_4, b141_44_5, a2, a3, a4, a5, a6, a7, b32_4_0, b32_7_0, b32_10_0, b32_13_0, b32_16_0, b32_19_0] : List Nat).Nodup := nd_c (h_nm n_a9_b53_23_0 (h_nm n_a9_b53_23_1 (h_nm n_a9_a10 (h_nm n_a9_b62_25_0 (h_nm n_a9_b62_25_1 (h_nm n_a9_a11 (h_nm n_a9_b72_27_0 (h_nm n_a9_b72_27_1 (h_nm n_a9_a12 (h_nm n_a9_b84_30_0 (h_nm n_a9_a14 (h_nm n_a9_b100_34_0 (h_nm n_a9_a13 (h_nm n_a9_b103_35_0 (h_nm n_a9_b103_35_1 (h_nm n_a9_a15 (h_nm n_a9_b115_38_0 (h_nm n_a9_b115_38_1 (h_nm n_a9_b115_38_2 (h_nm n_a9_b115_38_3 (h_nm n_a9_a16 (h_nm n_a9_b128_41_0 (h_nm n_a9_b128_41_1 (h_nm n_a9_b128_41_2 (h_nm n_a9_b128_41_3 (h_nm n_a9_b128_41_4 (h_nm n_a9_b128_41_5 (h_nm n_a9_a17 (h_nm n_a9_b141_44_0 (h_nm n_a9_b141_44_1 (h_nm n_a9_b141_44_2 (h_nm n_a9_b141_44_3 (h_nm n_a9_b141_44_4 (h_nm n_a9_b141_44_5 (h_nm (Ne.symm n_a2_a9) (h_nm (Ne.symm n_a3_a9) (h_nm (Ne.symm n_a4_a9) (h_nm (Ne.symm n_a5_a9) (h_nm (Ne.symm n_a6_a9) (h_nm (Ne.symm n_a7_a9) (h_nm (Ne.symm n_b32_4_0_a9) (h_nm (Ne.symm n_b32_7_0_a9) (h_nm (Ne.symm n_b32_10_0_a9) (h_nm (Ne.symm n_b32_13_0_a9) (h_nm (Ne.symm n_b32_16_0_a9) (h_nm (Ne.symm n_b32_19_0_a9) h_n0)))))))))))))))))))))))))))))))))))))))))))))) nd4
                have nd2 : ([a8, a9, b53_23_0, b53_23_1, a10, b62_25_0, b62_25_1, a11, b72_27_0, b72_27_1, a12, b84_30_0, a14, b100_34_0, a13, b103_35_0, b103_35_1, a15, b115_38_0, b115_38_1, b115_38_2, b115_38_3, a16, b128_41_0, b128_41_1, b128_41_2, b128_41_3, b128_41_4, b128_41_5, a17, b141_44_0, b141_44_1, b141_44_2, b141_44_3, b141_44_4, b141_44_5, a2, a3, a4, a5, a6, a7, b32_4_0, b32_7_0, b32_10_0, b32_13_0, b32_16_0, b32_19_0] : List Nat).Nodup := nd_c (h_nm n_a8_a9 (h_nm n_a8_b53_23_0 (h_nm n_a8_b53_23_1 (h_nm n_a8_a10 (h_nm n_a8_b62_25_0 (h_nm n_a8_b62_25_1 (h_nm n_a8_a11 (h_nm n_a8_b72_27_0 (h_nm n_a8_b72_27_1 (h_nm n_a8_a12 (h_nm n_a8_b84_30_0 (h_nm n_a8_a14 (h_nm n_a8_b100_34_0 (h_nm n_a8_a13 (h_nm n_a8_b103_35_0 (h_nm n_a8_b103_35_1 (h_nm n_a8_a15 (h_nm n_a8_b115_38_0 (h_nm n_a8_b115_38_1 (h_nm n_a8_b115_38_2 (h_nm n_a8_b115_38_3 (h_nm n_a8_a16 (h_nm n_a8_b128_41_0 (h_nm n_a8_b128_41_1 (h_nm n_a8_b128_41_2 (h_nm n_a8_b128_41_3 (h_nm n_a8_b128_41_4 (h_nm n_a8_b128_41_5 (h_nm n_a8_a17 (h_nm n_a8_b141_44_0 (h_nm n_a8_b141_44_1 (h_nm n_a8_b141_44_2 (h_nm n_a8_b141_44_3 (h_nm n_a8_b141_44_4 (h_nm n_a8_b141_44_5 (h_nm (Ne.symm n_a2_a8) (h_nm (Ne.symm n_a3_a8) (h_nm (Ne.symm n_a4_a8) (h_nm (Ne.symm n_a5_a8) (h_nm (Ne.symm n_a6_a8) (h_nm (Ne.symm n_a7_a8) (h_nm (Ne.symm n_b32_4_0_a8) (h_nm (Ne.symm n_b32_7_0_a8) (h_nm (Ne.symm n_b32_10_0_a8) (h_nm (Ne.symm n_b32_13_0_a8) (h_nm (Ne.symm n_b32_16_0_a8) (h_nm (Ne.symm n_b32_19_0_a8) h_n0))))))))))))))))))))))))))))))))))))))))))))))) nd3
                have nd1 : ([a1, a8, a9, b53_23_0, b53_23_1, a10, b62_25_0, b62_25_1, a11, b72_27_0, b72_27_1, a12, b84_30_0, a14, b100_34_0, a13, b103_35_0, b103_35_1, a15, b115_38_0, b115_38_1, b115_38_2, b115_38_3, a16, b128_41_0, b128_41_1, b128_41_2, b128_41_3, b128_41_4, b128_41_5, a17, b141_44_0, b141_44_1, b141_44_2, b141_44_3, b141_44_4, b141_44_5, a2, a3, a4, a5, a6, a7, b32_4_0, b32_7_0, b32_10_0, b32_13_0, b32_16_0, b32_19_0] : List Nat).Nodup := nd_c (h_nm n_a1_a8 (h_nm n_a1_a9 (h_nm n_a1_b53_23_0 (h_nm n_a1_b53_23_1 (h_nm n_a1_a10 (h_nm n_a1_b62_25_0 (h_nm n_a1_b62_25_1 (h_nm n_a1_a11 (h_nm n_a1_b72_27_0 (h_nm n_a1_b72_27_1 (h_nm n_a1_a12 (h_nm n_a1_b84_30_0 (h_nm n_a1_a14 (h_nm n_a1_b100_34_0 (h_nm n_a1_a13 (h_nm n_a1_b103_35_0 (h_nm n_a1_b103_35_1 (h_nm n_a1_a15 (h_nm n_a1_b115_38_0 (h_nm n_a1_b115_38_1 (h_nm n_a1_b115_38_2 (h_nm n_a1_b115_38_3 (h_nm n_a1_a16 (h_nm n_a1_b128_41_0 (h_nm n_a1_b128_41_1 (h_nm n_a1_b128_41_2 (h_nm n_a1_b128_41_3 (h_nm n_a1_b128_41_4 (h_nm n_a1_b128_41_5 (h_nm n_a1_a17 (h_nm n_a1_b141_44_0 (h_nm n_a1_b141_44_1 (h_nm n_a1_b141_44_2 (h_nm n_a1_b141_44_3 (h_nm n_a1_b141_44_4 (h_nm n_a1_b141_44_5 (h_nm n_a1_a2 (h_nm n_a1_a3 (h_nm n_a1_a4 (h_nm n_a1_a5 (h_nm n_a1_a6 (h_nm n_a1_a7 (h_nm n_a1_b32_4_0 (h_nm n_a1_b32_7_0 (h_nm n_a1_b32_10_0 (h_nm n_a1_b32_13_0 (h_nm n_a1_b32_16_0 (h_nm n_a1_b32_19_0 h_n0)))))))))))))))))))))))))))))))))))))))))))))))) nd2
                have nd0 : ([mo, a1, a8, a9, b53_23_0, b53_23_1, a10, b62_25_0, b62_25_1, a11, b72_27_0, b72_27_1, a12, b84_30_0, a14, b100_34_0, a13, b103_35_0, b103_35_1, a15, b115_38_0, b115_38_1, b115_38_2, b115_38_3, a16, b128_41_0, b128_41_1, b128_41_2, b128_41_3, b128_41_4, b128_41_5, a17, b141_44_0, b141_44_1, b141_44_2, b141_44_3, b141_44_4, b141_44_5, a2, a3, a4, a5, a6, a7, b32_4_0, b32_7_0, b32_10_0, b32_13_0, b32_16_0, b32_19_0] : List Nat).Nodup := nd_c (h_nm n_mo_a1 (h_nm n_mo_a8 (h_nm n_mo_a9 (h_nm n_mo_b53_23_0 (h_nm n_mo_b53_23_1 (h_nm n_mo_a10 (h_nm n_mo_b62_25_0 (h_nm n_mo_b62_25_1 (h_nm n_mo_a11 (h_nm n_mo_b72_27_0 (h_nm n_mo_b72_27_1 (h_nm n_mo_a12 (h_nm n_mo_b84_30_0 (h_nm n_mo_a14 (h_nm n_mo_b100_34_0 (h_nm n_mo_a13 (h_nm n_mo_b103_35_0 (h_nm n_mo_b103_35_1 (h_nm n_mo_a15 (h_nm n_mo_b115_38_0 (h_nm n_mo_b115_38_1 (h_nm n_mo_b115_38_2 (h_nm n_mo_b115_38_3 (h_nm n_mo_a16 (h_nm n_mo_b128_41_0 (h_nm n_mo_b128_41_1 (h_nm n_mo_b128_41_2 (h_nm n_mo_b128_41_3 (h_nm n_mo_b128_41_4 (h_nm n_mo_b128_41_5 (h_nm n_mo_a17 (h_nm n_mo_b141_44_0 (h_nm n_mo_b141_44_1 (h_nm n_mo_b141_44_2 (h_nm n_mo_b141_44_3 (h_nm n_mo_b141_44_4 (h_nm n_mo_b141_44_5 (h_nm n_mo_a2 (h_nm n_mo_a3 (h_nm n_mo_a4 (h_nm n_mo_a5 (h_nm n_mo_a6 (h_nm n_mo_a7 (h_nm n_mo_b32_4_0 (h_nm n_mo_b32_7_0 (h_nm n_mo_b32_10_0 (h_nm n_mo_b32_13_0 (h_nm n_mo_b32_16_0 (h_nm n_mo_b32_19_0 h_n0))))))))))))))))))))))))))))))))))))))))))))))))) nd1
                obtain ⟨x, ex⟩ : ∃ x : Nat → Nat, x = fun i => ([mo, a1, a8, a9, b53_23_0, b53_23_1, a10, b62_25_0, b62_25_1, a11, b72_27_0, b72_27_1, a12, b84_30_0, a14, b100_34_0, a13, b103_35_0, b103_35_1, a15, b115_38_0, b115_38_1, b115_38_2, b115_38_3, a16, b128_41_0, b128_41_1, b128_41_2, b128_41_3, b128_41_4, b128_41_5, a17, b141_44_0, b141_44_1, b141_44_2, b141_44_3, b141_44_4, b141_44_5, a2, a3, a4, a5, a6, a7, b32_4_0, b32_7_0, b32_10_0, b32_13_0, b32_16_0, b32_19_0] : List Nat).getD i 0 := ⟨_, rfl⟩
                have x_0 : x 0 = mo := by rw [ex]; rfl
                have x_1 : x 1 = a1 := by rw [ex]; rfl
                have x_2 : x 2 = a8 := by rw [ex]; rfl
                have x_3 : x 3 = a9 := by rw [ex]; rfl
                have x_4 : x 4 = b53_23_0 := by rw [ex]; rfl
                have x_5 : x 5 = b53_23_1 := by rw [ex]; rfl
                have x_6 : x 6 = a10 := by rw [ex]; rfl
                have x_7 : x 7 = b62_25_0 := by rw [ex]; rfl
                have x_8 : x 8 = b62_25_1 := by rw [ex]; rfl
                have x_9 : x 9 = a11 := by rw [ex]; rfl
                have x_10 : x 10 = b72_27_0 := by rw [ex]; rfl
                have x_11 : x 11 = b72_27_1 := by rw [ex]; rfl
                have x_12 : x 12 = a12 := by rw [ex]; rfl
                have x_13 : x 13 = b84_30_0 := by rw [ex]; rfl
                have x_14 : x 14 = a14 := by rw [ex]; rfl
                have x_15 : x 15 = b100_34_0 := by rw [ex]; rfl
                have x_16 : x 16 = a13 := by rw [ex]; rfl
                have x_17 : x 17 = b103_35_0 := by rw [ex]; rfl
                have x_18 : x 18 = b103_35_1 := by rw [ex]; rfl
                have x_19 : x 19 = a15 := by rw [ex]; rfl
                have x_20 : x 20 = b115_38_0 := by rw [ex]; rfl
                have x_21 : x 21 = b115_38_1 := by rw [ex]; rfl
                have x_22 : x 22 = b115_38_2 := by rw [ex]; rfl
                have x_23 : x 23 = b115_38_3 := by rw [ex]; rfl
                have x_24 : x 24 = a16 := by rw [ex]; rfl
                have x_25 : x 25 = b128_41_0 := by rw [ex]; rfl
                have x_26 : x 26 = b128_41_1 := by rw [ex]; rfl
                have x_27 : x 27 = b128_41_2 := by rw [ex]; rfl
                have x_28 : x 28 = b128_41_3 := by rw [ex]; rfl
                have x_29 : x 29 = b128_41_4 := by rw [ex]; rfl
                have x_30 : x 30 = b128_41_5 := by rw [ex]; rfl
                have x_31 : x 31 = a17 := by rw [ex]; rfl
                have x_32 : x 32 = b141_44_0 := by rw [ex]; rfl
                have x_33 : x 33 = b141_44_1 := by rw [ex]; rfl
                have x_34 : x 34 = b141_44_2 := by rw [ex]; rfl
                have x_35 : x 35 = b141_44_3 := by rw [ex]; rfl
                have x_36 : x 36 = b141_44_4 := by rw [ex]; rfl
                have x_37 : x 37 = b141_44_5 := by rw [ex]; rfl
                have x_38 : x 38 = a2 := by rw [ex]; rfl
                have x_39 : x 39 = a3 := by rw [ex]; rfl
                have x_40 : x 40 = a4 := by rw [ex]; rfl
                have x_41 : x 41 = a5 := by rw [ex]; rfl
                have x_42 : x 42 = a6 := by rw [ex]; rfl
                have x_43 : x 43 = a7 := by rw [ex]; rfl
                have x_44 : x 44 = b32_4_0 := by rw [ex]; rfl
                have x_45 : x 45 = b32_7_0 := by rw [ex]; rfl
                have x_46 : x 46 = b32_10_0 := by rw [ex]; rfl
                have x_47 : x 47 = b32_13_0 := by rw [ex]; rfl
                have x_48 : x 48 = b32_16_0 := by rw [ex]; rfl
                have x_49 : x 49 = b32_19_0 := by rw [ex]; rfl
                have hxi : xinj x := by rw [ex]; exact fun i j hi hj e => nd_inj nd0 hi hj e
                have hzz : ∀ i, 0 < i → i < 50 → g (x i) = none := by
                  intro i h0 hi
                  match i, h0, hi with
                  | 1, _, _ => rw [x_1]; exact z_a1
                  | 2, _, _ => rw [x_2]; exact z_a8
                  | 3, _, _ => rw [x_3]; exact z_a9
                  | 4, _, _ => rw [x_4]; exact z_b53_23_0
                  | 5, _, _ => rw [x_5]; exact z_b53_23_1
                  | 6, _, _ => rw [x_6]; exact z_a10
                  | 7, _, _ => rw [x_7]; exact z_b62_25_0
                  | 8, _, _ => rw [x_8]; exact z_b62_25_1
                  | 9, _, _ => rw [x_9]; exact z_a11
                  | 10, _, _ => rw [x_10]; exact z_b72_27_0
                  | 11, _, _ => rw [x_11]; exact z_b72_27_1
                  | 12, _, _ => rw [x_12]; exact z_a12
                  | 13, _, _ => rw [x_13]; exact z_b84_30_0
                  | 14, _, _ => rw [x_14]; exact z_a14
                  | 15, _, _ => rw [x_15]; exact z_b100_34_0
                  | 16, _, _ => rw [x_16]; exact z_a13
                  | 17, _, _ => rw [x_17]; exact z_b103_35_0
                  | 18, _, _ => rw [x_18]; exact z_b103_35_1
                  | 19, _, _ => rw [x_19]; exact z_a15
                  | 20, _, _ => rw [x_20]; exact z_b115_38_0
                  | 21, _, _ => rw [x_21]; exact z_b115_38_1
                  | 22, _, _ => rw [x_22]; exact z_b115_38_2
                  | 23, _, _ => rw [x_23]; exact z_b115_38_3
                  | 24, _, _ => rw [x_24]; exact z_a16
                  | 25, _, _ => rw [x_25]; exact z_b128_41_0
                  | 26, _, _ => rw [x_26]; exact z_b128_41_1
                  | 27, _, _ => rw [x_27]; exact z_b128_41_2
                  | 28, _, _ => rw [x_28]; exact z_b128_41_3
                  | 29, _, _ => rw [x_29]; exact z_b128_41_4
                  | 30, _, _ => rw [x_30]; exact z_b128_41_5
                  | 31, _, _ => rw [x_31]; exact z_a17
                  | 32, _, _ => rw [x_32]; exact z_b141_44_0
                  | 33, _, _ => rw [x_33]; exact z_b141_44_1
                  | 34, _, _ => rw [x_34]; exact z_b141_44_2
                  | 35, _, _ => rw [x_35]; exact z_b141_44_3
                  | 36, _, _ => rw [x_36]; exact z_b141_44_4
                  | 37, _, _ => rw [x_37]; exact z_b141_44_5
                  | 38, _, _ => rw [x_38]; exact z_a2
                  | 39, _, _ => rw [x_39]; exact z_a3
                  | 40, _, _ => rw [x_40]; exact z_a4
                  | 41, _, _ => rw [x_41]; exact z_a5
                  | 42, _, _ => rw [x_42]; exact z_a6
                  | 43, _, _ => rw [x_43]; exact z_a7
                  | 44, _, _ => rw [x_44]; exact z_b32_4_0
                  | 45, _, _ => rw [x_45]; exact z_b32_7_0
                  | 46, _, _ => rw [x_46]; exact z_b32_10_0
                  | 47, _, _ => rw [x_47]; exact z_b32_13_0
                  | 48, _, _ => rw [x_48]; exact z_b32_16_0
                  | 49, _, _ => rw [x_49]; exact z_b32_19_0
                  | i + 50, _, h => omega
                have hO : ∀ i, i < 38 → g_45 (x i) = some (xcl cI cR x 0 (fun _ _ => 0) (fun _ => nI 0) (fun _ => nI 0) (fun i => match i with | 28 => u128_41_0 | 29 => u128_41_1 | 30 => u128_41_2 | 35 => u141_44_0 | 36 => u141_44_1 | 37 => u141_44_2 | _ => 0) (va_up (va_up (va_up (va_up (va_up (va_up (fun _ => none) 0 (some a2)) 1 (some a3)) 2 (some a4)) 3 (some a5)) 4 (some a6)) 5 (some a7)) i) := by
                  intro i hi
                  match i, hi with
                  | 0, _ => show g_45 (x 0) = some (.inr (7, [.ref (x 1), .ref (x 9), .ref (x 12), .ref (x 16), .ref (x 19), .ref (x 24), .ref (x 31)])); rw [x_0, x_1, x_9, x_12, x_16, x_19, x_24, x_31]; exact f45_49
                  | 1, _ => show g_45 (x 1) = some (.inl (cR, 6, .inr (.inr (.inr (.inr (va_up (va_up (va_up (va_up (va_up (va_up (fun _ => none) 0 (some a2)) 1 (some a3)) 2 (some a4)) 3 (some a5)) 4 (some a6)) 5 (some a7))))))); rw [x_1]; exact f45_12
                  | 2, _ => show g_45 (x 2) = some (.inl (cI, 3721, .inl (fun _ => 0))); rw [x_2]; exact f45_13
                  | 3, _ => show g_45 (x 3) = some (.inr (0, [.ref (x 4), .ref (x 5), .int (nI 0), .ref (x 2)])); rw [x_3, x_4, x_5, x_2]; exact f45_14
                  | 4, _ => show g_45 (x 4) = some (.inl (cI, 60, .inl (fun _ => 0))); rw [x_4]; exact f45_15
                  | 5, _ => show g_45 (x 5) = some (.inl (cI, 60, .inl (fun _ => 0))); rw [x_5]; exact f45_16
                  | 6, _ => show g_45 (x 6) = some (.inr (0, [.ref (x 7), .ref (x 8), .int (nI 0), .ref (x 2)])); rw [x_6, x_7, x_8, x_2]; exact f45_17
                  | 7, _ => show g_45 (x 7) = some (.inl (cI, 60, .inl (fun _ => 0))); rw [x_7]; exact f45_18
                  | 8, _ => show g_45 (x 8) = some (.inl (cI, 60, .inl (fun _ => 0))); rw [x_8]; exact f45_19
                  | 9, _ => show g_45 (x 9) = some (.inr (0, [.ref (x 10), .ref (x 11), .int (nI 0), .ref (x 2)])); rw [x_9, x_10, x_11, x_2]; exact f45_20
                  | 10, _ => show g_45 (x 10) = some (.inl (cI, 60, .inl (fun _ => 0))); rw [x_10]; exact f45_21
                  | 11, _ => show g_45 (x 11) = some (.inl (cI, 60, .inl (fun _ => 0))); rw [x_11]; exact f45_22
                  | 12, _ => show g_45 (x 12) = some (.inr (1, [.ref (x 13), .int (nI 0), .ref (x 3)])); rw [x_12, x_13, x_3]; exact f45_23
                  | 13, _ => show g_45 (x 13) = some (.inl (cI, 244, .inl (fun _ => 0))); rw [x_13]; exact f45_24
                  | 14, _ => show g_45 (x 14) = some (.inr (1, [.ref (x 15), .int (nI 0), .ref (x 3)])); rw [x_14, x_15, x_3]; exact f45_25
                  | 15, _ => show g_45 (x 15) = some (.inl (cI, 244, .inl (fun _ => 0))); rw [x_15]; exact f45_26
                  | 16, _ => show g_45 (x 16) = some (.inr (4, [.ref (x 17), .int (nI 0), .ref (x 14)])); rw [x_16, x_17, x_14]; exact f45_27
                  | 17, _ => show g_45 (x 17) = some (.inr (5, [.ref (x 18), .int (nI 0)])); rw [x_17, x_18]; exact f45_28
                  | 18, _ => show g_45 (x 18) = some (.inl (cI, 120, .inl (fun _ => 0))); rw [x_18]; exact f45_29
                  | 19, _ => show g_45 (x 19) = some (.inr (6, [.ref (x 20), .ref (x 21), .int (nI 0), .ref (x 22), .ref (x 3)])); rw [x_19, x_20, x_21, x_22, x_3]; exact f45_30
                  | 20, _ => show g_45 (x 20) = some (.inl (cI, 30, .inl (fun _ => 0))); rw [x_20]; exact f45_31
                  | 21, _ => show g_45 (x 21) = some (.inl (cI, 1800, .inl (fun _ => 0))); rw [x_21]; exact f45_32
                  | 22, _ => show g_45 (x 22) = some (.inr (5, [.ref (x 23), .int (nI 0)])); rw [x_22, x_23]; exact f45_33
                  | 23, _ => show g_45 (x 23) = some (.inl (cI, 60, .inl (fun _ => 0))); rw [x_23]; exact f45_34
                  | 24, _ => show g_45 (x 24) = some (.inr (2, [.ref (x 25), .ref (x 27), .int (nI 0), .ref (x 3), .ref (x 6), .ref (x 28), .ref (x 29), .ref (x 30)])); rw [x_24, x_25, x_27, x_3, x_6, x_28, x_29, x_30]; exact f45_35
                  | 25, _ => show g_45 (x 25) = some (.inr (5, [.ref (x 26), .int (nI 0)])); rw [x_25, x_26]; exact f45_36
                  | 26, _ => show g_45 (x 26) = some (.inl (cI, 120, .inl (fun _ => 0))); rw [x_26]; exact f45_37
                  | 27, _ => show g_45 (x 27) = some (.inl (cI, 183, .inl (fun _ => 0))); rw [x_27]; exact f45_38
                  | 28, _ => show g_45 (x 28) = some (.inr (3, [.ref u128_41_0, .int (nI 0), .int (nI 0)])); rw [x_28]; exact f45_39
                  | 29, _ => show g_45 (x 29) = some (.inr (3, [.ref u128_41_1, .int (nI 0), .int (nI 0)])); rw [x_29]; exact f45_40
                  | 30, _ => show g_45 (x 30) = some (.inr (3, [.ref u128_41_2, .int (nI 0), .int (nI 0)])); rw [x_30]; exact f45_41
                  | 31, _ => show g_45 (x 31) = some (.inr (2, [.ref (x 32), .ref (x 34), .int (nI 0), .ref (x 3), .ref (x 6), .ref (x 35), .ref (x 36), .ref (x 37)])); rw [x_31, x_32, x_34, x_3, x_6, x_35, x_36, x_37]; exact f45_42
                  | 32, _ => show g_45 (x 32) = some (.inr (5, [.ref (x 33), .int (nI 0)])); rw [x_32, x_33]; exact f45_43
                  | 33, _ => show g_45 (x 33) = some (.inl (cI, 120, .inl (fun _ => 0))); rw [x_33]; exact f45_44
                  | 34, _ => show g_45 (x 34) = some (.inl (cI, 183, .inl (fun _ => 0))); rw [x_34]; exact f45_45
                  | 35, _ => show g_45 (x 35) = some (.inr (3, [.ref u141_44_0, .int (nI 0), .int (nI 0)])); rw [x_35]; exact f45_46
                  | 36, _ => show g_45 (x 36) = some (.inr (3, [.ref u141_44_1, .int (nI 0), .int (nI 0)])); rw [x_36]; exact f45_47
                  | 37, _ => show g_45 (x 37) = some (.inr (3, [.ref u141_44_2, .int (nI 0), .int (nI 0)])); rw [x_37]; exact f45_48
                  | i + 38, h => omega
                have hfq : ∀ i, i < 6 → (va_up (va_up (va_up (va_up (va_up (va_up (fun _ => none) 0 (some a2)) 1 (some a3)) 2 (some a4)) 3 (some a5)) 4 (some a6)) 5 (some a7)) i = some (x (38 + i)) := by
                  intro i hi
                  match i, hi with
                  | 0, _ => show (va_up (va_up (va_up (va_up (va_up (va_up (fun _ => none) 0 (some a2)) 1 (some a3)) 2 (some a4)) 3 (some a5)) 4 (some a6)) 5 (some a7)) 0 = some (x 38); rw [x_38]; rfl
                  | 1, _ => show (va_up (va_up (va_up (va_up (va_up (va_up (fun _ => none) 0 (some a2)) 1 (some a3)) 2 (some a4)) 3 (some a5)) 4 (some a6)) 5 (some a7)) 1 = some (x 39); rw [x_39]; rfl
                  | 2, _ => show (va_up (va_up (va_up (va_up (va_up (va_up (fun _ => none) 0 (some a2)) 1 (some a3)) 2 (some a4)) 3 (some a5)) 4 (some a6)) 5 (some a7)) 2 = some (x 40); rw [x_40]; rfl
                  | 3, _ => show (va_up (va_up (va_up (va_up (va_up (va_up (fun _ => none) 0 (some a2)) 1 (some a3)) 2 (some a4)) 3 (some a5)) 4 (some a6)) 5 (some a7)) 3 = some (x 41); rw [x_41]; rfl
                  | 4, _ => show (va_up (va_up (va_up (va_up (va_up (va_up (fun _ => none) 0 (some a2)) 1 (some a3)) 2 (some a4)) 3 (some a5)) 4 (some a6)) 5 (some a7)) 4 = some (x 42); rw [x_42]; rfl
                  | 5, _ => show (va_up (va_up (va_up (va_up (va_up (va_up (fun _ => none) 0 (some a2)) 1 (some a3)) 2 (some a4)) 3 (some a5)) 4 (some a6)) 5 (some a7)) 5 = some (x 43); rw [x_43]; rfl
                  | i + 6, h => omega
                have hrow : ∀ i, i < 6 → g_45 (x (38 + i)) = some (.inr (5, [.ref (x (44 + i)), .int (nI (S00.1 i).length)])) ∧ g_45 (x (44 + i)) = some (.inl (cI, 60, .inl ((fun _ _ => 0 : Nat → Nat → Int32) i))) ∧ rp ((fun _ _ => 0 : Nat → Nat → Int32) i) (S00.1 i) := by
                  intro i hi
                  match i, hi with
                  | 0, _ => refine ⟨?_, ?_, rp_nil _⟩; show g_45 (x 38) = some (.inr (5, [.ref (x 44), .int (nI 0)])); rw [x_38, x_44]; exact f45_0; show g_45 (x 44) = some (.inl (cI, 60, .inl (fun _ => 0))); rw [x_44]; exact f45_1
                  | 1, _ => refine ⟨?_, ?_, rp_nil _⟩; show g_45 (x 39) = some (.inr (5, [.ref (x 45), .int (nI 0)])); rw [x_39, x_45]; exact f45_2; show g_45 (x 45) = some (.inl (cI, 60, .inl (fun _ => 0))); rw [x_45]; exact f45_3
                  | 2, _ => refine ⟨?_, ?_, rp_nil _⟩; show g_45 (x 40) = some (.inr (5, [.ref (x 46), .int (nI 0)])); rw [x_40, x_46]; exact f45_4; show g_45 (x 46) = some (.inl (cI, 60, .inl (fun _ => 0))); rw [x_46]; exact f45_5
                  | 3, _ => refine ⟨?_, ?_, rp_nil _⟩; show g_45 (x 41) = some (.inr (5, [.ref (x 47), .int (nI 0)])); rw [x_41, x_47]; exact f45_6; show g_45 (x 47) = some (.inl (cI, 60, .inl (fun _ => 0))); rw [x_47]; exact f45_7
                  | 4, _ => refine ⟨?_, ?_, rp_nil _⟩; show g_45 (x 42) = some (.inr (5, [.ref (x 48), .int (nI 0)])); rw [x_42, x_48]; exact f45_8; show g_45 (x 48) = some (.inl (cI, 60, .inl (fun _ => 0))); rw [x_48]; exact f45_9
                  | 5, _ => refine ⟨?_, ?_, rp_nil _⟩; show g_45 (x 43) = some (.inr (5, [.ref (x 49), .int (nI 0)])); rw [x_43, x_49]; exact f45_10; show g_45 (x 49) = some (.inl (cI, 60, .inl (fun _ => 0))); rw [x_49]; exact f45_11
                  | i + 6, h => omega
                have hrep : repX cI cR g_45 x S00 := ⟨hxi, stok0, 0, (fun _ _ => 0), (fun _ => nI 0), (fun _ => nI 0), (fun i => match i with | 28 => u128_41_0 | 29 => u128_41_1 | 30 => u128_41_2 | 35 => u141_44_0 | 36 => u141_44_1 | 37 => u141_44_2 | _ => 0), (va_up (va_up (va_up (va_up (va_up (va_up (fun _ => none) 0 (some a2)) 1 (some a3)) 2 (some a4)) 3 (some a5)) 4 (some a6)) 5 (some a7)), (fun _ _ => 0), by decide, hO, hfq, hrow, rfl, rpN_nil _, rpN_nil _, rfl, rpN_nil _, rfl, (fun v h => absurd h (Nat.not_lt_zero v)), (fun v k h => absurd h (Nat.not_lt_zero v)), rfl, rp_nil _, rfl, rpN_nil _⟩
                exact hend _ _ _ _ _ _ _ (by decide) (by decide) (⟨x, x_0, hzz, fr, hrep⟩) hg hS dMR_init_147
              · skip
                have c_18 : ¬ (6 ≤ 6) := fun h => c_18 ((nI_leI (by omega) (by omega)).mpr h)
                exact absurd c_18 (by decide)
