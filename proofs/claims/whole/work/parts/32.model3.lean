/-! THE REFERENCE, on: joinParts, become, fits -/
set_option maxRecDepth 100000 in
set_option maxHeartbeats 4000000 in
theorem c_MM_joinParts (l : Launch) (D : va_G) (cI cR cJ : ClassId) (g : Nat → Option va_E) (sz : Nat) (mm : Nat) (q : Nat → Nat) (hq : qinj q) (v0 v3 v4 v9 v12 v14 v21 v25 : Int32) (b0 a i l0 la lj r0 ra rj : Nat) (bs lf rt : List Int32) (s : List Int32 × List N3) (flines ffresh fnewConflict : Nat → Int32) (h0 : g mm = some (mmC q v0 v3 v4 v9 v12 v14 (nI (min s.1.length 60)) (nI (tlN s.1)) v21 (nI s.2.length) v25)) (hlines : g (q 1) = some (.inl (cI, 360, .inl flines))) (hfresh : g (q 10) = some (.inl (cI, 60, .inl ffresh))) (hnewConflict : g (q 14) = some (.inl (cI, 400, .inl fnewConflict))) (hf : frL ffresh s.1) (hc : rpN fnewConflict (fl3 (cfm s.2))) (hzB : ∀ k, k < bs.length → flines (60 * b0 + k) = bs.getD k 0) (hnB : bs.length ≤ 60) (hrB : b0 < 6) (hzL : ∀ k, k < lf.length → flines (60 * l0 + k) = lf.getD k 0) (hnL : lf.length ≤ 60) (hrL : l0 < 6) (hzR : ∀ k, k < rt.length → flines (60 * r0 + k) = rt.getD k 0) (hnR : rt.length ≤ 60) (hrR : r0 < 6) (hai : a ≤ i) (hi : i ≤ bs.length) (hal : la ≤ lj) (hlj : lj ≤ lf.length) (har : ra ≤ rj) (hrj : rj ≤ rt.length) (hcf : s.2.length < 62) : hMv l yMM_joinParts cMM_joinParts 11 (hRm 2 45 0 0) D (hT cI cR cJ) g sz [.ref mm, .int (nI b0), .int (nI a), .int (nI i), .int (nI l0), .int (nI la), .int (nI lj), .int (nI r0), .int (nI ra), .int (nI rj)] (fun g1 => hfr g g1 [mm, q 10, q 14] ∧ ∃ f1 f2 : Nat → Int32, g1 mm = some (mmC q v0 v3 v4 v9 v12 v14 (nI (min (joinP bs lf rt a i la lj ra rj s).1.length 60)) (nI (tlN (joinP bs lf rt a i la lj ra rj s).1)) v21 (nI ((joinP bs lf rt a i la lj ra rj s).2.length)) v25) ∧ g1 (q 10) = some (.inl (cI, 60, .inl f1)) ∧ g1 (q 14) = some (.inl (cI, 400, .inl f2)) ∧ frL f1 (joinP bs lf rt a i la lj ra rj s).1 ∧ rpN f2 (fl3 (cfm (joinP bs lf rt a i la lj ra rj s).2))) := by
  refine hMv_of (by decide +kernel) (Nat.le_of_ble_eq_true rfl) ?_
  intro pX eX RX sX mX argsX belowX methX cX QX AX hR S0 hnm hsz hg hK hS hA0 hend ls hl
  have hl : lv_has ls 11 [(0, .ref mm), (1, .int (nI b0)), (2, .int (nI a)), (3, .int (nI i)), (4, .int (nI l0)), (5, .int (nI la)), (6, .int (nI lj)), (7, .int (nI r0)), (8, .int (nI ra)), (9, .int (nI rj))] := hl
  have fr : hfr g g [mm, q 10, q 14] := hfr.rf
  have hcl : (cfm s.2).length = s.2.length := by rw [cfm, List.length_map]
  refine lv_aload_n S0.1 S0.2.1 dMM_joinParts_0 rfl (lv_at hl 0 rfl) ?_
  refine lv_iload S0.1 S0.2.1 dMM_joinParts_1 (lv_at hl 4 rfl) ?_
  refine lv_iload S0.1 S0.2.1 dMM_joinParts_3 (lv_at hl 5 rfl) ?_
  refine lv_iload S0.1 S0.2.1 dMM_joinParts_5 (lv_at hl 6 rfl) ?_
  refine lv_iload S0.1 S0.2.1 dMM_joinParts_7 (lv_at hl 7 rfl) ?_
  refine lv_iload S0.1 S0.2.1 dMM_joinParts_9 (lv_at hl 8 rfl) ?_
  refine lv_iload S0.1 S0.2.1 dMM_joinParts_11 (lv_at hl 9 rfl) ?_
  refine hw_Vi (As := [.int (nI l0), .int (nI la), .int (nI lj), .int (nI r0), .int (nI ra), .int (nI rj)]) (rest := []) S0 hK hg hS hA0 h0 rfl (c_MM_alike l D cI cR cJ g _ mm q hq v0 v3 v4 v9 v12 v14 (nI (min s.1.length 60)) (nI (tlN s.1)) v21 (nI s.2.length) v25 l0 la lj r0 ra rj lf rt flines h0 hlines hrL hrR hzL hnL hzR hnR hal hlj har hrj) kMM_alike lm_MM_123 (hR.call rfl) rfl hl.1 rfl (Nat.le_of_ble_eq_true rfl) dMM_joinParts_13 (hR.new (by decide) (by decide)) (fun r_13 g_1 H locs hp_13 hg hS => ?_)
  rw [hp_13.1] at hg
  replace hp_13 := hp_13.2
  rcases hp_13 with ⟨ho, klr⟩ | ⟨ho, klr⟩
  · skip
    subst ho
    refine lv_if_ne (tgt := 35) S0.1 S0.2.1 dMM_joinParts_16 (by decide) (fun c_16 => ?_) (fun c_16 => ?_)
    · skip
      rw [← nI_0] at c_16
      have c_16 : ¬ (1 = 0) := fun h => c_16 ((nI_eq (by omega) (by omega)).mpr h)
      refine lv_iconst (v := nI 1) S0.1 S0.2.1 dMM_joinParts_35 (by decide) ?_
      refine lv_goto (tgt := 40) S0.1 S0.2.1 dMM_joinParts_36 (by decide) ?_
      refine lv_istore (lv' := [(10, .int (nI 1)), (0, .ref mm), (1, .int (nI b0)), (2, .int (nI a)), (3, .int (nI i)), (4, .int (nI l0)), (5, .int (nI la)), (6, .int (nI lj)), (7, .int (nI r0)), (8, .int (nI ra)), (9, .int (nI rj))]) S0.1 S0.2.1 dMM_joinParts_40 hl (by decide) rfl (fun ls hl => ?_)
      refine lv_iload S0.1 S0.2.1 dMM_joinParts_42 (lv_at hl 0 rfl) ?_
      refine lv_if_eq (tgt := 60) S0.1 S0.2.1 dMM_joinParts_44 (by decide) (fun c_44 => ?_) (fun c_44 => ?_)
      · skip
        rw [← nI_0] at c_44
        have c_44 : 1 = 0 := (nI_eq (by omega) (by omega)).mp c_44
        exact absurd c_44 (by decide)
      · skip
        rw [← nI_0] at c_44
        have c_44 : ¬ (1 = 0) := fun h => c_44 ((nI_eq (by omega) (by omega)).mpr h)
        refine lv_aload_n S0.1 S0.2.1 dMM_joinParts_47 rfl (lv_at hl 1 rfl) ?_
        refine lv_iload S0.1 S0.2.1 dMM_joinParts_48 (lv_at hl 5 rfl) ?_
        refine lv_iload S0.1 S0.2.1 dMM_joinParts_50 (lv_at hl 6 rfl) ?_
        refine lv_iload S0.1 S0.2.1 dMM_joinParts_52 (lv_at hl 7 rfl) ?_
        refine hw_Vv (As := [.int (nI l0), .int (nI la), .int (nI lj)]) (rest := []) S0 hK hg hS hA0 h0 rfl (c_MM_writePart l D cI cR cJ g _ mm q hq v0 v3 v4 v9 v12 v14 v21 (nI s.2.length) v25 l0 la lj s.1 lf flines ffresh h0 hlines hfresh hf hrL hzL hnL hal hlj) kMM_writePart lm_MM_127 (hR.call rfl) rfl hl.1 rfl (Nat.le_of_ble_eq_true rfl) dMM_joinParts_54 (hR.new (by decide) (by decide)) (fun g_2 H locs hp_54 hg hS => ?_)
        obtain ⟨frw54, fw54, w054, w154, w254⟩ := hp_54
        have k2_0 := frw54.at (h_nm (h_ne hlines h0 (fun h => by cases h)) (h_nm (qne hq (by decide) (by decide) (by decide)) h_n0)) hlines
        have k2_1 := frw54.at (h_nm (h_ne hnewConflict h0 (fun h => by cases h)) (h_nm (qne hq (by decide) (by decide) (by decide)) h_n0)) hnewConflict
        have fr := fr.call frw54 (by simp)
        refine lv_goto (tgt := 170) S0.1 S0.2.1 dMM_joinParts_57 (by decide) ?_
        have ej : joinP bs lf rt a i la lj ra rj s = (s.1 ++ pt lf la lj, s.2) := if_pos (Or.inl klr)
        exact hend _ _ _ _ _ _ _ (by decide) (by decide) (by rw [ej]; exact ⟨fr, _, _, w054, w154, k2_1, w254, hc⟩) hg hS dMM_joinParts_170
    · skip
      rw [← nI_0] at c_16
      have c_16 : 1 = 0 := (nI_eq (by omega) (by omega)).mp c_16
      exact absurd c_16 (by decide)
  · skip
    subst ho
    refine lv_if_ne (tgt := 35) S0.1 S0.2.1 dMM_joinParts_16 (by decide) (fun c_16 => ?_) (fun c_16 => ?_)
    · skip
      rw [← nI_0] at c_16
      have c_16 : ¬ (0 = 0) := fun h => c_16 ((nI_eq (by omega) (by omega)).mpr h)
      exact absurd c_16 (by decide)
    · skip
      rw [← nI_0] at c_16
      have c_16 : 0 = 0 := (nI_eq (by omega) (by omega)).mp c_16
      refine lv_aload_n S0.1 S0.2.1 dMM_joinParts_19 rfl (lv_at hl 0 rfl) ?_
      refine lv_iload S0.1 S0.2.1 dMM_joinParts_20 (lv_at hl 7 rfl) ?_
      refine lv_iload S0.1 S0.2.1 dMM_joinParts_22 (lv_at hl 8 rfl) ?_
      refine lv_iload S0.1 S0.2.1 dMM_joinParts_24 (lv_at hl 9 rfl) ?_
      refine lv_iload_n S0.1 S0.2.1 dMM_joinParts_26 rfl (lv_at hl 1 rfl) ?_
      refine lv_iload_n S0.1 S0.2.1 dMM_joinParts_27 rfl (lv_at hl 2 rfl) ?_
      refine lv_iload_n S0.1 S0.2.1 dMM_joinParts_28 rfl (lv_at hl 3 rfl) ?_
      refine hw_Vi (As := [.int (nI r0), .int (nI ra), .int (nI rj), .int (nI b0), .int (nI a), .int (nI i)]) (rest := []) S0 hK hg hS hA0 h0 rfl (c_MM_alike l D cI cR cJ g _ mm q hq v0 v3 v4 v9 v12 v14 (nI (min s.1.length 60)) (nI (tlN s.1)) v21 (nI s.2.length) v25 r0 ra rj b0 a i rt bs flines h0 hlines hrR hrB hzR hnR hzB hnB har hrj hai hi) kMM_alike lm_MM_123 (hR.call rfl) rfl hl.1 rfl (Nat.le_of_ble_eq_true rfl) dMM_joinParts_29 (hR.new (by decide) (by decide)) (fun r_29 g_3 H locs hp_29 hg hS => ?_)
      rw [hp_29.1] at hg
      replace hp_29 := hp_29.2
      rcases hp_29 with ⟨ho, krb⟩ | ⟨ho, krb⟩
      · skip
        subst ho
        refine lv_if_eq (tgt := 39) S0.1 S0.2.1 dMM_joinParts_32 (by decide) (fun c_32 => ?_) (fun c_32 => ?_)
        · skip
          rw [← nI_0] at c_32
          have c_32 : 1 = 0 := (nI_eq (by omega) (by omega)).mp c_32
          exact absurd c_32 (by decide)
        · skip
          rw [← nI_0] at c_32
          have c_32 : ¬ (1 = 0) := fun h => c_32 ((nI_eq (by omega) (by omega)).mpr h)
          refine lv_iconst (v := nI 1) S0.1 S0.2.1 dMM_joinParts_35 (by decide) ?_
          refine lv_goto (tgt := 40) S0.1 S0.2.1 dMM_joinParts_36 (by decide) ?_
          refine lv_istore (lv' := [(10, .int (nI 1)), (0, .ref mm), (1, .int (nI b0)), (2, .int (nI a)), (3, .int (nI i)), (4, .int (nI l0)), (5, .int (nI la)), (6, .int (nI lj)), (7, .int (nI r0)), (8, .int (nI ra)), (9, .int (nI rj))]) S0.1 S0.2.1 dMM_joinParts_40 hl (by decide) rfl (fun ls hl => ?_)
          refine lv_iload S0.1 S0.2.1 dMM_joinParts_42 (lv_at hl 0 rfl) ?_
          refine lv_if_eq (tgt := 60) S0.1 S0.2.1 dMM_joinParts_44 (by decide) (fun c_44 => ?_) (fun c_44 => ?_)
          · skip
            rw [← nI_0] at c_44
            have c_44 : 1 = 0 := (nI_eq (by omega) (by omega)).mp c_44
            exact absurd c_44 (by decide)
          · skip
            rw [← nI_0] at c_44
            have c_44 : ¬ (1 = 0) := fun h => c_44 ((nI_eq (by omega) (by omega)).mpr h)
            refine lv_aload_n S0.1 S0.2.1 dMM_joinParts_47 rfl (lv_at hl 1 rfl) ?_
            refine lv_iload S0.1 S0.2.1 dMM_joinParts_48 (lv_at hl 5 rfl) ?_
            refine lv_iload S0.1 S0.2.1 dMM_joinParts_50 (lv_at hl 6 rfl) ?_
            refine lv_iload S0.1 S0.2.1 dMM_joinParts_52 (lv_at hl 7 rfl) ?_
            refine hw_Vv (As := [.int (nI l0), .int (nI la), .int (nI lj)]) (rest := []) S0 hK hg hS hA0 h0 rfl (c_MM_writePart l D cI cR cJ g _ mm q hq v0 v3 v4 v9 v12 v14 v21 (nI s.2.length) v25 l0 la lj s.1 lf flines ffresh h0 hlines hfresh hf hrL hzL hnL hal hlj) kMM_writePart lm_MM_127 (hR.call rfl) rfl hl.1 rfl (Nat.le_of_ble_eq_true rfl) dMM_joinParts_54 (hR.new (by decide) (by decide)) (fun g_4 H locs hp_54 hg hS => ?_)
            obtain ⟨frw54, fw54, w054, w154, w254⟩ := hp_54
            have k4_0 := frw54.at (h_nm (h_ne hlines h0 (fun h => by cases h)) (h_nm (qne hq (by decide) (by decide) (by decide)) h_n0)) hlines
            have k4_1 := frw54.at (h_nm (h_ne hnewConflict h0 (fun h => by cases h)) (h_nm (qne hq (by decide) (by decide) (by decide)) h_n0)) hnewConflict
            have fr := fr.call frw54 (by simp)
            refine lv_goto (tgt := 170) S0.1 S0.2.1 dMM_joinParts_57 (by decide) ?_
            have ej : joinP bs lf rt a i la lj ra rj s = (s.1 ++ pt lf la lj, s.2) := if_pos (Or.inr krb)
            exact hend _ _ _ _ _ _ _ (by decide) (by decide) (by rw [ej]; exact ⟨fr, _, _, w054, w154, k4_1, w254, hc⟩) hg hS dMM_joinParts_170
      · skip
        subst ho
        refine lv_if_eq (tgt := 39) S0.1 S0.2.1 dMM_joinParts_32 (by decide) (fun c_32 => ?_) (fun c_32 => ?_)
        · skip
          rw [← nI_0] at c_32
          have c_32 : 0 = 0 := (nI_eq (by omega) (by omega)).mp c_32
          refine lv_iconst (v := nI 0) S0.1 S0.2.1 dMM_joinParts_39 (by decide) ?_
          refine lv_istore (lv' := [(10, .int (nI 0)), (0, .ref mm), (1, .int (nI b0)), (2, .int (nI a)), (3, .int (nI i)), (4, .int (nI l0)), (5, .int (nI la)), (6, .int (nI lj)), (7, .int (nI r0)), (8, .int (nI ra)), (9, .int (nI rj))]) S0.1 S0.2.1 dMM_joinParts_40 hl (by decide) rfl (fun ls hl => ?_)
          refine lv_iload S0.1 S0.2.1 dMM_joinParts_42 (lv_at hl 0 rfl) ?_
          refine lv_if_eq (tgt := 60) S0.1 S0.2.1 dMM_joinParts_44 (by decide) (fun c_44 => ?_) (fun c_44 => ?_)
          · skip
            rw [← nI_0] at c_44
            have c_44 : 0 = 0 := (nI_eq (by omega) (by omega)).mp c_44
            refine lv_aload_n S0.1 S0.2.1 dMM_joinParts_60 rfl (lv_at hl 1 rfl) ?_
            refine lv_iload S0.1 S0.2.1 dMM_joinParts_61 (lv_at hl 5 rfl) ?_
            refine lv_iload S0.1 S0.2.1 dMM_joinParts_63 (lv_at hl 6 rfl) ?_
            refine lv_iload S0.1 S0.2.1 dMM_joinParts_65 (lv_at hl 7 rfl) ?_
            refine lv_iload_n S0.1 S0.2.1 dMM_joinParts_67 rfl (lv_at hl 2 rfl) ?_
            refine lv_iload_n S0.1 S0.2.1 dMM_joinParts_68 rfl (lv_at hl 3 rfl) ?_
            refine lv_iload_n S0.1 S0.2.1 dMM_joinParts_69 rfl (lv_at hl 4 rfl) ?_
            refine hw_Vi (As := [.int (nI l0), .int (nI la), .int (nI lj), .int (nI b0), .int (nI a), .int (nI i)]) (rest := []) S0 hK hg hS hA0 h0 rfl (c_MM_alike l D cI cR cJ g _ mm q hq v0 v3 v4 v9 v12 v14 (nI (min s.1.length 60)) (nI (tlN s.1)) v21 (nI s.2.length) v25 l0 la lj b0 a i lf bs flines h0 hlines hrL hrB hzL hnL hzB hnB hal hlj hai hi) kMM_alike lm_MM_123 (hR.call rfl) rfl hl.1 rfl (Nat.le_of_ble_eq_true rfl) dMM_joinParts_70 (hR.new (by decide) (by decide)) (fun r_70 g_5 H locs hp_70 hg hS => ?_)
            rw [hp_70.1] at hg
            replace hp_70 := hp_70.2
            rcases hp_70 with ⟨ho, klb⟩ | ⟨ho, klb⟩
            · skip
              subst ho
              refine lv_if_eq (tgt := 89) S0.1 S0.2.1 dMM_joinParts_73 (by decide) (fun c_73 => ?_) (fun c_73 => ?_)
              · skip
                rw [← nI_0] at c_73
                have c_73 : 1 = 0 := (nI_eq (by omega) (by omega)).mp c_73
                exact absurd c_73 (by decide)
              · skip
                rw [← nI_0] at c_73
                have c_73 : ¬ (1 = 0) := fun h => c_73 ((nI_eq (by omega) (by omega)).mpr h)
                refine lv_aload_n S0.1 S0.2.1 dMM_joinParts_76 rfl (lv_at hl 1 rfl) ?_
                refine lv_iload S0.1 S0.2.1 dMM_joinParts_77 (lv_at hl 8 rfl) ?_
                refine lv_iload S0.1 S0.2.1 dMM_joinParts_79 (lv_at hl 9 rfl) ?_
                refine lv_iload S0.1 S0.2.1 dMM_joinParts_81 (lv_at hl 10 rfl) ?_
                refine hw_Vv (As := [.int (nI r0), .int (nI ra), .int (nI rj)]) (rest := []) S0 hK hg hS hA0 h0 rfl (c_MM_writePart l D cI cR cJ g _ mm q hq v0 v3 v4 v9 v12 v14 v21 (nI s.2.length) v25 r0 ra rj s.1 rt flines ffresh h0 hlines hfresh hf hrR hzR hnR har hrj) kMM_writePart lm_MM_127 (hR.call rfl) rfl hl.1 rfl (Nat.le_of_ble_eq_true rfl) dMM_joinParts_83 (hR.new (by decide) (by decide)) (fun g_6 H locs hp_83 hg hS => ?_)
                obtain ⟨frw83, fw83, w083, w183, w283⟩ := hp_83
                have k6_0 := frw83.at (h_nm (h_ne hlines h0 (fun h => by cases h)) (h_nm (qne hq (by decide) (by decide) (by decide)) h_n0)) hlines
                have k6_1 := frw83.at (h_nm (h_ne hnewConflict h0 (fun h => by cases h)) (h_nm (qne hq (by decide) (by decide) (by decide)) h_n0)) hnewConflict
                have fr := fr.call frw83 (by simp)
                refine lv_goto (tgt := 170) S0.1 S0.2.1 dMM_joinParts_86 (by decide) ?_
                have ej : joinP bs lf rt a i la lj ra rj s = (s.1 ++ pt rt ra rj, s.2) := (if_neg (fun h => h.elim klr krb)).trans (if_pos klb)
                exact hend _ _ _ _ _ _ _ (by decide) (by decide) (by rw [ej]; exact ⟨fr, _, _, w083, w183, k6_1, w283, hc⟩) hg hS dMM_joinParts_170
            · skip
              subst ho
              refine lv_if_eq (tgt := 89) S0.1 S0.2.1 dMM_joinParts_73 (by decide) (fun c_73 => ?_) (fun c_73 => ?_)
              · skip
                rw [← nI_0] at c_73
                have c_73 : 0 = 0 := (nI_eq (by omega) (by omega)).mp c_73
                refine lv_aload_n S0.1 S0.2.1 dMM_joinParts_89 rfl (lv_at hl 1 rfl) ?_
                refine hw_get S0 hK hg h0 rfl inMM 24 (by decide) lf_MM_52 rfl rfl dMM_joinParts_90 ?_
                refine lv_iconst (v := nI 3) S0.1 S0.2.1 dMM_joinParts_93 (by decide) ?_
                refine lv_aload_n S0.1 S0.2.1 dMM_joinParts_94 rfl (lv_at hl 1 rfl) ?_
                refine hw_get S0 hK hg h0 rfl inMM 23 (by decide) lf_MM_131 rfl rfl dMM_joinParts_95 ?_
                refine lv_imul S0.1 S0.2.1 dMM_joinParts_98 ?_
                refine hw_top (nI (3 * s.2.length)) (pk_mul _ _) ?_
                refine lv_aload_n S0.1 S0.2.1 dMM_joinParts_99 rfl (lv_at hl 1 rfl) ?_
                refine hw_get S0 hK hg h0 rfl inMM 16 (by decide) lf_MM_112 rfl rfl dMM_joinParts_100 ?_
                refine hw_iast S0 hK hg hS hnewConflict 0 rfl (by omega) (by omega) dMM_joinParts_103 (fun H locs hg hS => ?_)
                obtain ⟨g_7, eg_7⟩ : ∃ z, z = hs g (q 14) (.inl (cI, 400, .inl (upd fnewConflict (3 * s.2.length) (nI (min s.1.length 60))))) := ⟨_, rfl⟩
                have hg : hw D hC AX g_7 H := by rw [eg_7]; exact hg
                have f7_0 : g_7 mm = some (mmC q v0 v3 v4 v9 v12 v14 (nI (min s.1.length 60)) (nI (tlN s.1)) v21 (nI s.2.length) v25) := by rw [eg_7, hs_n _ _ (h_ne h0 hnewConflict (fun h => by cases h))]; exact h0
                have f7_1 : g_7 (q 1) = some (.inl (cI, 360, .inl flines)) := by rw [eg_7, hs_n _ _ (qne hq (by decide) (by decide) (by decide))]; exact hlines
                have f7_2 : g_7 (q 10) = some (.inl (cI, 60, .inl ffresh)) := by rw [eg_7, hs_n _ _ (qne hq (by decide) (by decide) (by decide))]; exact hfresh
                have f7_3 : g_7 (q 14) = some (.inl (cI, 400, .inl (upd fnewConflict (3 * s.2.length) (nI (min s.1.length 60))))) := by rw [eg_7]; exact hs_s _ _ _
                have fr := fr.put eg_7 (by simp)
                refine lv_aload_n S0.1 S0.2.1 dMM_joinParts_104 rfl (lv_at hl 1 rfl) ?_
                refine hw_get S0 hK hg f7_0 rfl inMM 24 (by decide) lf_MM_52 rfl rfl dMM_joinParts_105 ?_
                refine lv_iconst (v := nI 3) S0.1 S0.2.1 dMM_joinParts_108 (by decide) ?_
                refine lv_aload_n S0.1 S0.2.1 dMM_joinParts_109 rfl (lv_at hl 1 rfl) ?_
                refine hw_get S0 hK hg f7_0 rfl inMM 23 (by decide) lf_MM_131 rfl rfl dMM_joinParts_110 ?_
                refine lv_imul S0.1 S0.2.1 dMM_joinParts_113 ?_
                refine hw_top (nI (3 * s.2.length)) (pk_mul _ _) ?_
                refine lv_iconst (v := nI 1) S0.1 S0.2.1 dMM_joinParts_114 (by decide) ?_
                refine lv_iadd S0.1 S0.2.1 dMM_joinParts_115 ?_
                refine hw_top (nI ((3 * s.2.length) + 1)) (nI_add _ _) ?_
                refine lv_iload S0.1 S0.2.1 dMM_joinParts_116 (lv_at hl 7 rfl) ?_
                refine lv_iload S0.1 S0.2.1 dMM_joinParts_118 (lv_at hl 6 rfl) ?_
                refine lv_isub S0.1 S0.2.1 dMM_joinParts_120 ?_
                refine hw_top (nI (lj - la)) (pk_sub (by omega)) ?_
                refine hw_iast S0 hK hg hS f7_3 0 rfl (by omega) (by omega) dMM_joinParts_121 (fun H locs hg hS => ?_)
                obtain ⟨g_8, eg_8⟩ : ∃ z, z = hs g_7 (q 14) (.inl (cI, 400, .inl (upd (upd fnewConflict (3 * s.2.length) (nI (min s.1.length 60))) ((3 * s.2.length) + 1) (nI (lj - la))))) := ⟨_, rfl⟩
                have hg : hw D hC AX g_8 H := by rw [eg_8]; exact hg
                have f8_0 : g_8 mm = some (mmC q v0 v3 v4 v9 v12 v14 (nI (min s.1.length 60)) (nI (tlN s.1)) v21 (nI s.2.length) v25) := by rw [eg_8, hs_n _ _ (h_ne f7_0 f7_3 (fun h => by cases h))]; exact f7_0
                have f8_1 : g_8 (q 1) = some (.inl (cI, 360, .inl flines)) := by rw [eg_8, hs_n _ _ (qne hq (by decide) (by decide) (by decide))]; exact f7_1
                have f8_2 : g_8 (q 10) = some (.inl (cI, 60, .inl ffresh)) := by rw [eg_8, hs_n _ _ (qne hq (by decide) (by decide) (by decide))]; exact f7_2
                have f8_3 : g_8 (q 14) = some (.inl (cI, 400, .inl (upd (upd fnewConflict (3 * s.2.length) (nI (min s.1.length 60))) ((3 * s.2.length) + 1) (nI (lj - la))))) := by rw [eg_8]; exact hs_s _ _ _
                have fr := fr.put eg_8 (by simp)
                refine lv_aload_n S0.1 S0.2.1 dMM_joinParts_122 rfl (lv_at hl 1 rfl) ?_
                refine hw_get S0 hK hg f8_0 rfl inMM 24 (by decide) lf_MM_52 rfl rfl dMM_joinParts_123 ?_
                refine lv_iconst (v := nI 3) S0.1 S0.2.1 dMM_joinParts_126 (by decide) ?_
                refine lv_aload_n S0.1 S0.2.1 dMM_joinParts_127 rfl (lv_at hl 1 rfl) ?_
                refine hw_get S0 hK hg f8_0 rfl inMM 23 (by decide) lf_MM_131 rfl rfl dMM_joinParts_128 ?_
                refine lv_imul S0.1 S0.2.1 dMM_joinParts_131 ?_
                refine hw_top (nI (3 * s.2.length)) (pk_mul _ _) ?_
                refine lv_iconst (v := nI 2) S0.1 S0.2.1 dMM_joinParts_132 (by decide) ?_
                refine lv_iadd S0.1 S0.2.1 dMM_joinParts_133 ?_
                refine hw_top (nI ((3 * s.2.length) + 2)) (nI_add _ _) ?_
                refine lv_iload S0.1 S0.2.1 dMM_joinParts_134 (lv_at hl 10 rfl) ?_
                refine lv_iload S0.1 S0.2.1 dMM_joinParts_136 (lv_at hl 9 rfl) ?_
                refine lv_isub S0.1 S0.2.1 dMM_joinParts_138 ?_
                refine hw_top (nI (rj - ra)) (pk_sub (by omega)) ?_
                refine hw_iast S0 hK hg hS f8_3 0 rfl (by omega) (by omega) dMM_joinParts_139 (fun H locs hg hS => ?_)
                obtain ⟨g_9, eg_9⟩ : ∃ z, z = hs g_8 (q 14) (.inl (cI, 400, .inl (upd (upd (upd fnewConflict (3 * s.2.length) (nI (min s.1.length 60))) ((3 * s.2.length) + 1) (nI (lj - la))) ((3 * s.2.length) + 2) (nI (rj - ra))))) := ⟨_, rfl⟩
                have hg : hw D hC AX g_9 H := by rw [eg_9]; exact hg
                have f9_0 : g_9 mm = some (mmC q v0 v3 v4 v9 v12 v14 (nI (min s.1.length 60)) (nI (tlN s.1)) v21 (nI s.2.length) v25) := by rw [eg_9, hs_n _ _ (h_ne f8_0 f8_3 (fun h => by cases h))]; exact f8_0
                have f9_1 : g_9 (q 1) = some (.inl (cI, 360, .inl flines)) := by rw [eg_9, hs_n _ _ (qne hq (by decide) (by decide) (by decide))]; exact f8_1
                have f9_2 : g_9 (q 10) = some (.inl (cI, 60, .inl ffresh)) := by rw [eg_9, hs_n _ _ (qne hq (by decide) (by decide) (by decide))]; exact f8_2
                have f9_3 : g_9 (q 14) = some (.inl (cI, 400, .inl (upd (upd (upd fnewConflict (3 * s.2.length) (nI (min s.1.length 60))) ((3 * s.2.length) + 1) (nI (lj - la))) ((3 * s.2.length) + 2) (nI (rj - ra))))) := by rw [eg_9]; exact hs_s _ _ _
                have fr := fr.put eg_9 (by simp)
                refine lv_aload_n S0.1 S0.2.1 dMM_joinParts_140 rfl (lv_at hl 1 rfl) ?_
                refine lv_dup S0.1 S0.2.1 dMM_joinParts_141 rfl ?_
                refine hw_get S0 hK hg f9_0 rfl inMM 23 (by decide) lf_MM_131 rfl rfl dMM_joinParts_142 ?_
                refine lv_iconst (v := nI 1) S0.1 S0.2.1 dMM_joinParts_145 (by decide) ?_
                refine lv_iadd S0.1 S0.2.1 dMM_joinParts_146 ?_
                refine hw_top (nI (s.2.length + 1)) (nI_add _ _) ?_
                refine hw_put S0 hK hg hS f9_0 rfl inMM tyMM tokMM nmMM 23 (by decide) lf_MM_131 rfl rfl rfl rfl (Nat.le_of_ble_eq_true rfl) dMM_joinParts_147 (fun H locs hg hS => ?_)
                obtain ⟨g_10, eg_10⟩ : ∃ z, z = hs g_9 mm (mmC q v0 v3 v4 v9 v12 v14 (nI (min s.1.length 60)) (nI (tlN s.1)) v21 (nI (s.2.length + 1)) v25) := ⟨_, rfl⟩
                have hg : hw D hC AX g_10 H := by rw [eg_10]; exact hg
                have f10_0 : g_10 (q 1) = some (.inl (cI, 360, .inl flines)) := by rw [eg_10, hs_n _ _ (h_ne f9_1 f9_0 (fun h => by cases h))]; exact f9_1
                have f10_1 : g_10 (q 10) = some (.inl (cI, 60, .inl ffresh)) := by rw [eg_10, hs_n _ _ (h_ne f9_2 f9_0 (fun h => by cases h))]; exact f9_2
                have f10_2 : g_10 (q 14) = some (.inl (cI, 400, .inl (upd (upd (upd fnewConflict (3 * s.2.length) (nI (min s.1.length 60))) ((3 * s.2.length) + 1) (nI (lj - la))) ((3 * s.2.length) + 2) (nI (rj - ra))))) := by rw [eg_10, hs_n _ _ (h_ne f9_3 f9_0 (fun h => by cases h))]; exact f9_3
                have f10_3 : g_10 mm = some (mmC q v0 v3 v4 v9 v12 v14 (nI (min s.1.length 60)) (nI (tlN s.1)) v21 (nI (s.2.length + 1)) v25) := by rw [eg_10]; exact hs_s _ _ _
                have fr := fr.put eg_10 (by simp)
                refine lv_aload_n S0.1 S0.2.1 dMM_joinParts_150 rfl (lv_at hl 1 rfl) ?_
                refine lv_iload S0.1 S0.2.1 dMM_joinParts_151 (lv_at hl 5 rfl) ?_
                refine lv_iload S0.1 S0.2.1 dMM_joinParts_153 (lv_at hl 6 rfl) ?_
                refine lv_iload S0.1 S0.2.1 dMM_joinParts_155 (lv_at hl 7 rfl) ?_
                refine hw_Vv (As := [.int (nI l0), .int (nI la), .int (nI lj)]) (rest := []) S0 hK hg hS hA0 f10_3 rfl (c_MM_writePart l D cI cR cJ g_10 _ mm q hq v0 v3 v4 v9 v12 v14 v21 (nI (s.2.length + 1)) v25 l0 la lj s.1 lf flines ffresh f10_3 f10_0 f10_1 hf hrL hzL hnL hal hlj) kMM_writePart lm_MM_127 (hR.call rfl) rfl hl.1 rfl (Nat.le_of_ble_eq_true rfl) dMM_joinParts_157 (hR.new (by decide) (by decide)) (fun g_11 H locs hp_157 hg hS => ?_)
                obtain ⟨frw157, fw157, w0157, w1157, w2157⟩ := hp_157
                have k11_0 := frw157.at (h_nm (h_ne f10_0 f10_3 (fun h => by cases h)) (h_nm (qne hq (by decide) (by decide) (by decide)) h_n0)) f10_0
                have k11_1 := frw157.at (h_nm (h_ne f10_2 f10_3 (fun h => by cases h)) (h_nm (qne hq (by decide) (by decide) (by decide)) h_n0)) f10_2
                have fr := fr.call frw157 (by simp)
                refine lv_aload_n S0.1 S0.2.1 dMM_joinParts_160 rfl (lv_at hl 1 rfl) ?_
                refine lv_iload S0.1 S0.2.1 dMM_joinParts_161 (lv_at hl 8 rfl) ?_
                refine lv_iload S0.1 S0.2.1 dMM_joinParts_163 (lv_at hl 9 rfl) ?_
                refine lv_iload S0.1 S0.2.1 dMM_joinParts_165 (lv_at hl 10 rfl) ?_
                refine hw_Vv (As := [.int (nI r0), .int (nI ra), .int (nI rj)]) (rest := []) S0 hK hg hS hA0 w0157 rfl (c_MM_writePart l D cI cR cJ g_11 _ mm q hq v0 v3 v4 v9 v12 v14 v21 (nI (s.2.length + 1)) v25 r0 ra rj (s.1 ++ pt lf la lj) rt flines fw157 w0157 k11_0 w1157 w2157 hrR hzR hnR har hrj) kMM_writePart lm_MM_127 (hR.call rfl) rfl hl.1 rfl (Nat.le_of_ble_eq_true rfl) dMM_joinParts_167 (hR.new (by decide) (by decide)) (fun g_12 H locs hp_167 hg hS => ?_)
                obtain ⟨frw167, fw167, w0167, w1167, w2167⟩ := hp_167
                have k12_0 := frw167.at (h_nm (h_ne k11_0 w0157 (fun h => by cases h)) (h_nm (qne hq (by decide) (by decide) (by decide)) h_n0)) k11_0
                have k12_1 := frw167.at (h_nm (h_ne k11_1 w0157 (fun h => by cases h)) (h_nm (qne hq (by decide) (by decide) (by decide)) h_n0)) k11_1
                have fr := fr.call frw167 (by simp)
                have ej : joinP bs lf rt a i la lj ra rj s = (s.1 ++ pt lf la lj ++ pt rt ra rj, s.2 ++ [(s.1.length, lj - la, rj - ra)]) := (if_neg (fun h => h.elim klr krb)).trans (if_neg klb)
                have hc2 : rpN (upd (upd (upd fnewConflict (3 * s.2.length) (nI (min s.1.length 60))) ((3 * s.2.length) + 1) (nI (lj - la))) ((3 * s.2.length) + 2) (nI (rj - ra))) (fl3 (cfm (s.2 ++ [(s.1.length, lj - la, rj - ra)]))) := by have := rp3_snocM hc hcl.symm (min s.1.length 60) (lj - la) (rj - ra); rw [show cfm (s.2 ++ [(s.1.length, lj - la, rj - ra)]) = cfm s.2 ++ [(min s.1.length 60, lj - la, rj - ra)] by simp [cfm]]; exact this
                have e9 : (s.2 ++ [(s.1.length, lj - la, rj - ra)]).length = s.2.length + 1 := by rw [List.length_append]; rfl
                exact hend _ _ _ _ _ _ _ (by decide) (by decide) (by rw [ej]; exact ⟨fr, _, _, (by dsimp only; rw [e9]; exact w0167), w1167, k12_1, w2167, hc2⟩) hg hS dMM_joinParts_170
              · skip
                rw [← nI_0] at c_73
                have c_73 : ¬ (0 = 0) := fun h => c_73 ((nI_eq (by omega) (by omega)).mpr h)
                exact absurd c_73 (by decide)
          · skip
            rw [← nI_0] at c_44
            have c_44 : ¬ (0 = 0) := fun h => c_44 ((nI_eq (by omega) (by omega)).mpr h)
            exact absurd c_44 (by decide)
        · skip
          rw [← nI_0] at c_32
          have c_32 : ¬ (0 = 0) := fun h => c_32 ((nI_eq (by omega) (by omega)).mpr h)
          exact absurd c_32 (by decide)
set_option maxRecDepth 100000 in
set_option maxHeartbeats 4000000 in
theorem c_MM_become (l : Launch) (D : va_G) (cI cR cJ : ClassId) (g : Nat → Option va_E) (sz : Nat) (mm : Nat) (q : Nat → Nat) (hq : qinj q) (v0 v3 v4 v9 v12 v14 v21 v23 v25 : Int32) (r : Nat) (ot : List Int32) (rw_ : Nat → List Int32) (fsizes flines ffresh : Nat → Int32) (h0 : g mm = some (mmC q v0 v3 v4 v9 v12 v14 (nI (min ot.length 60)) (nI (tlN ot)) v21 v23 v25)) (hsizes : g (q 0) = some (.inl (cI, 6, .inl fsizes))) (hlines : g (q 1) = some (.inl (cI, 360, .inl flines))) (hfresh : g (q 10) = some (.inl (cI, 60, .inl ffresh))) (hf : frL ffresh ot) (hol : ot.length ≤ 60) (hr : r < 6) (hR_ : rpR fsizes flines rw_) : hMv l yMM_become cMM_become 3 (hRm 0 0 0 0) D (hT cI cR cJ) g sz [.ref mm, .int (nI r)] (fun g1 => hfr g g1 [q 0, q 1] ∧ ∃ f1 f2 : Nat → Int32, g1 (q 0) = some (.inl (cI, 6, .inl f1)) ∧ g1 (q 1) = some (.inl (cI, 360, .inl f2)) ∧ rpR f1 f2 (setR rw_ r ot)) := by
  refine hMv_of (by decide +kernel) (Nat.le_of_ble_eq_true rfl) ?_
  intro pX eX RX sX mX argsX belowX methX cX QX AX hR S0 hnm hsz hg hK hS hA0 hend ls hl
  have hl : lv_has ls 3 [(0, .ref mm), (1, .int (nI r))] := hl
  have fr : hfr g g [q 0, q 1] := hfr.rf
  refine lv_aload_n S0.1 S0.2.1 dMM_become_0 rfl (lv_at hl 0 rfl) ?_
  refine hw_get S0 hK hg h0 rfl inMM 1 (by decide) lf_MM_7 rfl rfl dMM_become_1 ?_
  refine lv_iload_n S0.1 S0.2.1 dMM_become_4 rfl (lv_at hl 1 rfl) ?_
  refine lv_aload_n S0.1 S0.2.1 dMM_become_5 rfl (lv_at hl 0 rfl) ?_
  refine hw_get S0 hK hg h0 rfl inMM 16 (by decide) lf_MM_112 rfl rfl dMM_become_6 ?_
  refine hw_iast S0 hK hg hS hsizes 0 rfl (by omega) (by omega) dMM_become_9 (fun H locs hg hS => ?_)
  obtain ⟨g_1, eg_1⟩ : ∃ z, z = hs g (q 0) (.inl (cI, 6, .inl (upd fsizes r (nI (min ot.length 60))))) := ⟨_, rfl⟩
  have hg : hw D hC AX g_1 H := by rw [eg_1]; exact hg
  have f1_0 : g_1 mm = some (mmC q v0 v3 v4 v9 v12 v14 (nI (min ot.length 60)) (nI (tlN ot)) v21 v23 v25) := by rw [eg_1, hs_n _ _ (h_ne h0 hsizes (fun h => by cases h))]; exact h0
  have f1_1 : g_1 (q 1) = some (.inl (cI, 360, .inl flines)) := by rw [eg_1, hs_n _ _ (qne hq (by decide) (by decide) (by decide))]; exact hlines
  have f1_2 : g_1 (q 10) = some (.inl (cI, 60, .inl ffresh)) := by rw [eg_1, hs_n _ _ (qne hq (by decide) (by decide) (by decide))]; exact hfresh
  have f1_3 : g_1 (q 0) = some (.inl (cI, 6, .inl (upd fsizes r (nI (min ot.length 60))))) := by rw [eg_1]; exact hs_s _ _ _
  have fr := fr.put eg_1 (by simp)
  refine lv_iconst (v := nI 0) S0.1 S0.2.1 dMM_become_10 (by decide) ?_
  refine lv_istore_n (lv' := [(2, .int (nI 0)), (0, .ref mm), (1, .int (nI r))]) S0.1 S0.2.1 dMM_become_11 rfl hl (by decide) rfl (fun ls hl => ?_)
  have loop_12 : ∀ (n_12 : Nat) (k : Nat) (fk : Nat → Int32) (gl : Nat → Option va_E) (H : Heap) (locs : List Loc) (ls : Array Slot), ot.length - k < n_12 → (k ≤ ot.length) → (∀ x, x < k → fk (60 * r + x) = ot.getD x 0) → (∀ x, ¬ (60 * r ≤ x ∧ x < 60 * r + 60) → fk x = flines x) → (hfr g gl [q 0, q 1]) → (gl (q 0) = some (.inl (cI, 6, .inl (upd fsizes r (nI (min ot.length 60)))))) → (gl (q 1) = some (.inl (cI, 360, .inl fk))) → hw D hC AX gl H → va_S AX sX.heap H locs → lv_has ls 3 [(0, .ref mm), (1, .int (nI r)), (2, .int (nI k))] → W pX l eX RX sX mX argsX belowX methX cX H locs 0 0 QX (F0 mX 12 ls []) := by
    intro n_12
    induction n_12 with
    | zero => intros; omega
    | succ n_12 ih_12 =>
      intro k fk gl H locs ls hm_12 hk hk1 hk2 fr e0 e1 hg hS hl
      have q12_mm := fr.at (h_nm (h_ne f1_0 f1_3 (fun h => by cases h)) (h_nm (h_ne f1_0 f1_1 (fun h => by cases h)) h_n0)) h0
      have q12_q10 := fr.at (h_nm (qne hq (by decide) (by decide) (by decide)) (h_nm (qne hq (by decide) (by decide) (by decide)) h_n0)) hfresh
      refine lv_iload_n S0.1 S0.2.1 dMM_become_12 rfl (lv_at hl 2 rfl) ?_
      refine lv_aload_n S0.1 S0.2.1 dMM_become_13 rfl (lv_at hl 0 rfl) ?_
      refine hw_get S0 hK hg q12_mm rfl inMM 16 (by decide) lf_MM_112 rfl rfl dMM_become_14 ?_
      refine lv_icmp_ge (tgt := 43) S0.1 S0.2.1 dMM_become_17 (by decide) (fun c_17 => ?_) (fun c_17 => ?_)
      · skip
        have c_17 : (min ot.length 60) ≤ k := (nI_leI (by omega) (by omega)).mp c_17
        have hfin : rpR (upd fsizes r (nI (min ot.length 60))) fk (setR rw_ r ot) := by
          intro x hx
          by_cases e : x = r
          · subst e; rw [setR_s, pk_us]; exact ⟨by congr 1; omega, hol, fun y hy => hk1 y (by omega)⟩
          · rw [setR_n _ _ e, pk_un e]; obtain ⟨t1, t2, t3⟩ := hR_ x hx; exact ⟨t1, t2, fun y hy => by rw [hk2 _ (by omega)]; exact t3 y hy⟩
        exact hend _ _ _ _ _ _ _ (by decide) (by decide) (⟨fr, _, fk, e0, e1, hfin⟩) hg hS dMM_become_43
      · skip
        have c_17 : ¬ ((min ot.length 60) ≤ k) := fun h => c_17 ((nI_leI (by omega) (by omega)).mpr h)
        refine lv_aload_n S0.1 S0.2.1 dMM_become_20 rfl (lv_at hl 0 rfl) ?_
        refine hw_get S0 hK hg q12_mm rfl inMM 2 (by decide) lf_MM_13 rfl rfl dMM_become_21 ?_
        refine lv_bipush (v := nI 60) S0.1 S0.2.1 dMM_become_24 (by decide) ?_
        refine lv_iload_n S0.1 S0.2.1 dMM_become_26 rfl (lv_at hl 1 rfl) ?_
        refine lv_imul S0.1 S0.2.1 dMM_become_27 ?_
        refine hw_top (nI (60 * r)) (pk_mul _ _) ?_
        refine lv_iload_n S0.1 S0.2.1 dMM_become_28 rfl (lv_at hl 2 rfl) ?_
        refine lv_iadd S0.1 S0.2.1 dMM_become_29 ?_
        refine hw_top (nI ((60 * r) + k)) (nI_add _ _) ?_
        refine lv_aload_n S0.1 S0.2.1 dMM_become_30 rfl (lv_at hl 0 rfl) ?_
        refine hw_get S0 hK hg q12_mm rfl inMM 18 (by decide) lf_MM_40 rfl rfl dMM_become_31 ?_
        refine lv_iload_n S0.1 S0.2.1 dMM_become_34 rfl (lv_at hl 2 rfl) ?_
        refine hw_iald S0 hK hg q12_q10 0 rfl (by omega) (by omega) dMM_become_35 ?_
        refine hw_iast S0 hK hg hS e1 0 rfl (by omega) (by omega) dMM_become_36 (fun H locs hg hS => ?_)
        obtain ⟨g_2, eg_2⟩ : ∃ z, z = hs gl (q 1) (.inl (cI, 360, .inl (upd fk ((60 * r) + k) (ffresh k)))) := ⟨_, rfl⟩
        have hg : hw D hC AX g_2 H := by rw [eg_2]; exact hg
        have f2_0 : g_2 mm = some (mmC q v0 v3 v4 v9 v12 v14 (nI (min ot.length 60)) (nI (tlN ot)) v21 v23 v25) := by rw [eg_2, hs_n _ _ (h_ne q12_mm e1 (fun h => by cases h))]; exact q12_mm
        have f2_1 : g_2 (q 10) = some (.inl (cI, 60, .inl ffresh)) := by rw [eg_2, hs_n _ _ (qne hq (by decide) (by decide) (by decide))]; exact q12_q10
        have f2_2 : g_2 (q 0) = some (.inl (cI, 6, .inl (upd fsizes r (nI (min ot.length 60))))) := by rw [eg_2, hs_n _ _ (qne hq (by decide) (by decide) (by decide))]; exact e0
        have f2_3 : g_2 (q 1) = some (.inl (cI, 360, .inl (upd fk ((60 * r) + k) (ffresh k)))) := by rw [eg_2]; exact hs_s _ _ _
        have fr := fr.put eg_2 (by simp)
        refine lv_iinc (v := nI (k + 1)) (lv' := [(2, .int (nI (k + 1))), (0, .ref mm), (1, .int (nI r))]) S0.1 S0.2.1 dMM_become_37 hl (k := 2) rfl (by exact nI_add _ 1) (by decide) rfl (fun ls hl => ?_)
        refine lv_goto (tgt := 12) S0.1 S0.2.1 dMM_become_40 (by decide) ?_
        exact ih_12 (k + 1) (upd fk ((60 * r) + k) (ffresh k)) g_2 _ _ _ (by omega) (by omega) (fun x h => by rcases Nat.lt_or_ge x k with h9 | h9; rw [pk_un (by omega)]; exact hk1 x h9; rw [show x = k by omega, pk_us]; exact hf k (by omega)) (fun x h => by rw [pk_un (by omega)]; exact hk2 x h) fr f2_2 f2_3 hg hS (lv_sub hl [1, 2, 0] rfl)
  exact loop_12 _ 0 flines g_1 _ _ _ (Nat.lt_succ_self _) (Nat.zero_le _) (fun x h => absurd h (Nat.not_lt_zero x)) (fun x h => rfl) fr f1_3 f1_1 hg hS (lv_sub hl [1, 2, 0] rfl)
set_option maxRecDepth 100000 in
set_option maxHeartbeats 4000000 in
theorem c_MM_fits (l : Launch) (D : va_G) (cI cR cJ : ClassId) (g : Nat → Option va_E) (sz : Nat) (mm : Nat) (q : Nat → Nat) (hq : qinj q) (v0 v4 v9 v12 v14 v16 v17 v21 v23 v25 : Int32) (h r p : Nat) (a c : List Int32) (u : N4) (fsizes flines fx fpart : Nat → Int32) (h0 : g mm = some (mmC q v0 (nI a.length) v4 v9 v12 v14 v16 v17 v21 v23 v25)) (hsizes : g (q 0) = some (.inl (cI, 6, .inl fsizes))) (hlines : g (q 1) = some (.inl (cI, 360, .inl flines))) (hx : g (q 2) = some (.inl (cI, 60, .inl fx))) (hpart : g (q 9) = some (.inl (cI, 250, .inl fpart))) (hb : fpart (4 * h) = nI u.1) (hl_ : fpart (4 * h + 1) = nI u.2.1) (hsz : fsizes r = nI c.length) (hz : ∀ k, k < c.length → flines (60 * r + k) = c.getD k 0) (hr : r < 6) (ea : rp fx a) (hna : a.length ≤ 60) (hnc : c.length ≤ 60) (hu : u.1 + u.2.1 ≤ a.length) (hp : p ≤ c.length) (hh : h < 62) : hMi l yMM_fits cMM_fits 8 .boolean (hRm 0 0 0 0) D (hT cI cR cJ) g sz [.ref mm, .int (nI h), .int (nI r), .int (nI p)] (fun o g1 => g1 = g ∧ ((o = nI 1 ∧ fitB a u.1 u.2.1 c p = true) ∨ (o = nI 0 ∧ ¬ fitB a u.1 u.2.1 c p = true))) := by
  refine hMi_of (by decide +kernel) (Nat.le_of_ble_eq_true rfl) ?_
  intro pX eX RX sX mX argsX belowX methX cX QX AX hR S0 hnm hsz_ hg hK hS hA0 hend ls hl
  have hl : lv_has ls 8 [(0, .ref mm), (1, .int (nI h)), (2, .int (nI r)), (3, .int (nI p))] := hl
  refine lv_aload_n S0.1 S0.2.1 dMM_fits_0 rfl (lv_at hl 0 rfl) ?_
  refine hw_get S0 hK hg h0 rfl inMM 15 (by decide) lf_MM_37 rfl rfl dMM_fits_1 ?_
  refine lv_iconst (v := nI 4) S0.1 S0.2.1 dMM_fits_4 (by decide) ?_
  refine lv_iload_n S0.1 S0.2.1 dMM_fits_5 rfl (lv_at hl 1 rfl) ?_
  refine lv_imul S0.1 S0.2.1 dMM_fits_6 ?_
  refine hw_top (nI (4 * h)) (pk_mul _ _) ?_
  refine hw_iald S0 hK hg hpart 0 rfl (by omega) (by omega) dMM_fits_7 ?_
  refine hw_top (nI u.1) hb ?_
  refine lv_istore (lv' := [(4, .int (nI u.1)), (0, .ref mm), (1, .int (nI h)), (2, .int (nI r)), (3, .int (nI p))]) S0.1 S0.2.1 dMM_fits_8 hl (by decide) rfl (fun ls hl => ?_)
  refine lv_aload_n S0.1 S0.2.1 dMM_fits_10 rfl (lv_at hl 1 rfl) ?_
  refine hw_get S0 hK hg h0 rfl inMM 15 (by decide) lf_MM_37 rfl rfl dMM_fits_11 ?_
  refine lv_iconst (v := nI 4) S0.1 S0.2.1 dMM_fits_14 (by decide) ?_
  refine lv_iload_n S0.1 S0.2.1 dMM_fits_15 rfl (lv_at hl 2 rfl) ?_
  refine lv_imul S0.1 S0.2.1 dMM_fits_16 ?_
  refine hw_top (nI (4 * h)) (pk_mul _ _) ?_
  refine lv_iconst (v := nI 1) S0.1 S0.2.1 dMM_fits_17 (by decide) ?_
  refine lv_iadd S0.1 S0.2.1 dMM_fits_18 ?_
  refine hw_top (nI ((4 * h) + 1)) (nI_add _ _) ?_
  refine hw_iald S0 hK hg hpart 0 rfl (by omega) (by omega) dMM_fits_19 ?_
  refine hw_top (nI u.2.1) hl_ ?_
  refine lv_istore (lv' := [(5, .int (nI u.2.1)), (4, .int (nI u.1)), (0, .ref mm), (1, .int (nI h)), (2, .int (nI r)), (3, .int (nI p))]) S0.1 S0.2.1 dMM_fits_20 hl (by decide) rfl (fun ls hl => ?_)
  refine lv_iload_n S0.1 S0.2.1 dMM_fits_22 rfl (lv_at hl 5 rfl) ?_
  refine lv_if_lt (tgt := 43) S0.1 S0.2.1 dMM_fits_23 (by decide) (fun c_23 => ?_) (fun c_23 => ?_)
  · skip
    rw [← nI_0] at c_23
    have c_23 : p < 0 := (nI_ltI (by omega) (by omega)).mp c_23
    omega
  · skip
    rw [← nI_0] at c_23
    have c_23 : ¬ (p < 0) := fun h => c_23 ((nI_ltI (by omega) (by omega)).mpr h)
    refine lv_iload_n S0.1 S0.2.1 dMM_fits_26 rfl (lv_at hl 5 rfl) ?_
    refine lv_iload S0.1 S0.2.1 dMM_fits_27 (lv_at hl 0 rfl) ?_
    refine lv_iadd S0.1 S0.2.1 dMM_fits_29 ?_
    refine hw_top (nI (p + u.2.1)) (nI_add _ _) ?_
    refine lv_aload_n S0.1 S0.2.1 dMM_fits_30 rfl (lv_at hl 2 rfl) ?_
    refine hw_get S0 hK hg h0 rfl inMM 1 (by decide) lf_MM_7 rfl rfl dMM_fits_31 ?_
    refine lv_iload_n S0.1 S0.2.1 dMM_fits_34 rfl (lv_at hl 4 rfl) ?_
    refine hw_iald S0 hK hg hsizes 0 rfl (by omega) (by omega) dMM_fits_35 ?_
    refine hw_top (nI c.length) hsz ?_
    refine lv_icmp_gt (tgt := 43) S0.1 S0.2.1 dMM_fits_36 (by decide) (fun c_36 => ?_) (fun c_36 => ?_)
    · skip
      have c_36 : c.length < (p + u.2.1) := (nI_ltI (by omega) (by omega)).mp c_36
      refine lv_iconst (v := nI 0) S0.1 S0.2.1 dMM_fits_43 (by decide) ?_
      refine lv_istore (lv' := [(6, .int (nI 0)), (5, .int (nI u.2.1)), (4, .int (nI u.1)), (0, .ref mm), (1, .int (nI h)), (2, .int (nI r)), (3, .int (nI p))]) S0.1 S0.2.1 dMM_fits_44 hl (by decide) rfl (fun ls hl => ?_)
      refine lv_iconst (v := nI 0) S0.1 S0.2.1 dMM_fits_46 (by decide) ?_
      refine lv_istore (lv' := [(7, .int (nI 0)), (6, .int (nI 0)), (5, .int (nI u.2.1)), (4, .int (nI u.1)), (0, .ref mm), (1, .int (nI h)), (2, .int (nI r)), (3, .int (nI p))]) S0.1 S0.2.1 dMM_fits_47 hl (by decide) rfl (fun ls hl => ?_)
      have loop_49 : ∀ (n_49 : Nat) (k : Nat) (w : Nat) (H : Heap) (locs : List Loc) (ls : Array Slot), u.2.1 - k < n_49 → (k ≤ u.2.1) → (w < 2) → (w = 1 → p + u.2.1 ≤ c.length ∧ ∀ x, x < k → c.getD (p + x) 0 = a.getD (u.1 + x) 0) → (w = 0 → ¬ fitB a u.1 u.2.1 c p = true) → hw D hC AX g H → va_S AX sX.heap H locs → lv_has ls 8 [(0, .ref mm), (1, .int (nI h)), (2, .int (nI r)), (3, .int (nI p)), (4, .int (nI u.1)), (5, .int (nI u.2.1)), (6, .int (nI w)), (7, .int (nI k))] → W pX l eX RX sX mX argsX belowX methX cX H locs 0 0 QX (F0 mX 49 ls []) := by
        intro n_49
        induction n_49 with
        | zero => intros; omega
        | succ n_49 ih_49 =>
          intro k w H locs ls hm_49 hk hw1 hw2 hw3 hg hS hl
          refine lv_iload S0.1 S0.2.1 dMM_fits_49 (lv_at hl 7 rfl) ?_
          refine lv_iload S0.1 S0.2.1 dMM_fits_51 (lv_at hl 5 rfl) ?_
          refine lv_icmp_ge (tgt := 101) S0.1 S0.2.1 dMM_fits_53 (by decide) (fun c_53 => ?_) (fun c_53 => ?_)
          · skip
            have c_53 : u.2.1 ≤ k := (nI_leI (by omega) (by omega)).mp c_53
            refine lv_iload S0.1 S0.2.1 dMM_fits_101 (lv_at hl 6 rfl) ?_
            refine lv_if_eq (tgt := 152) S0.1 S0.2.1 dMM_fits_103 (by decide) (fun c_103 => ?_) (fun c_103 => ?_)
            · skip
              rw [← nI_0] at c_103
              have c_103 : w = 0 := (nI_eq (by omega) (by omega)).mp c_103
              refine lv_iconst (v := nI 0) S0.1 S0.2.1 dMM_fits_152 (by decide) ?_
              refine lv_istore (lv' := [(6, .int (nI 0)), (0, .ref mm), (1, .int (nI h)), (2, .int (nI r)), (3, .int (nI p)), (4, .int (nI u.1)), (5, .int (nI u.2.1)), (7, .int (nI k))]) S0.1 S0.2.1 dMM_fits_153 hl (by decide) rfl (fun ls hl => ?_)
              refine lv_iload S0.1 S0.2.1 dMM_fits_155 (lv_at hl 0 rfl) ?_
              refine lv_if_eq (tgt := 216) S0.1 S0.2.1 dMM_fits_157 (by decide) (fun c_157 => ?_) (fun c_157 => ?_)
              · skip
                rw [← nI_0] at c_157
                have c_157 : 0 = 0 := (nI_eq (by omega) (by omega)).mp c_157
                refine lv_iconst (v := nI 0) S0.1 S0.2.1 dMM_fits_216 (by decide) ?_
                exact hend _ _ _ _ _ _ _ _ (by decide) (by decide) rfl (⟨rfl, Or.inr ⟨rfl, hw3 (by omega)⟩⟩) hg hS dMM_fits_217
              · skip
                rw [← nI_0] at c_157
                have c_157 : ¬ (0 = 0) := fun h => c_157 ((nI_eq (by omega) (by omega)).mpr h)
                exact absurd c_157 (by decide)
            · skip
              rw [← nI_0] at c_103
              have c_103 : ¬ (w = 0) := fun h => c_103 ((nI_eq (by omega) (by omega)).mpr h)
              obtain ⟨hple, hall⟩ := hw2 (by omega)
              have hall : ∀ x, x < u.2.1 → c.getD (p + x) 0 = a.getD (u.1 + x) 0 := fun x h9 => hall x (by omega)
              refine lv_iload S0.1 S0.2.1 dMM_fits_106 (lv_at hl 4 rfl) ?_
              refine lv_if_eq (tgt := 148) S0.1 S0.2.1 dMM_fits_108 (by decide) (fun c_108 => ?_) (fun c_108 => ?_)
              · skip
                rw [← nI_0] at c_108
                have c_108 : u.1 = 0 := (nI_eq (by omega) (by omega)).mp c_108
                have hah : u.1 = 0 ∨ (0 < p ∧ c.getD (p - 1) 0 = a.getD (u.1 - 1) 0) := Or.inl c_108
                refine lv_iconst (v := nI 1) S0.1 S0.2.1 dMM_fits_148 (by decide) ?_
                refine lv_goto (tgt := 153) S0.1 S0.2.1 dMM_fits_149 (by decide) ?_
                refine lv_istore (lv' := [(6, .int (nI 1)), (0, .ref mm), (1, .int (nI h)), (2, .int (nI r)), (3, .int (nI p)), (4, .int (nI u.1)), (5, .int (nI u.2.1)), (7, .int (nI k))]) S0.1 S0.2.1 dMM_fits_153 hl (by decide) rfl (fun ls hl => ?_)
                refine lv_iload S0.1 S0.2.1 dMM_fits_155 (lv_at hl 0 rfl) ?_
                refine lv_if_eq (tgt := 216) S0.1 S0.2.1 dMM_fits_157 (by decide) (fun c_157 => ?_) (fun c_157 => ?_)
                · skip
                  rw [← nI_0] at c_157
                  have c_157 : 1 = 0 := (nI_eq (by omega) (by omega)).mp c_157
                  exact absurd c_157 (by decide)
                · skip
                  rw [← nI_0] at c_157
                  have c_157 : ¬ (1 = 0) := fun h => c_157 ((nI_eq (by omega) (by omega)).mpr h)
                  refine lv_iload S0.1 S0.2.1 dMM_fits_160 (lv_at hl 5 rfl) ?_
                  refine lv_iload S0.1 S0.2.1 dMM_fits_162 (lv_at hl 6 rfl) ?_
                  refine lv_iadd S0.1 S0.2.1 dMM_fits_164 ?_
                  refine hw_top (nI (u.1 + u.2.1)) (nI_add _ _) ?_
                  refine lv_aload_n S0.1 S0.2.1 dMM_fits_165 rfl (lv_at hl 1 rfl) ?_
                  refine hw_get S0 hK hg h0 rfl inMM 3 (by decide) lf_MM_76 rfl rfl dMM_fits_166 ?_
                  refine lv_icmp_eq (tgt := 212) S0.1 S0.2.1 dMM_fits_169 (by decide) (fun c_169 => ?_) (fun c_169 => ?_)
                  · skip
                    have c_169 : (u.1 + u.2.1) = a.length := (nI_eq (by omega) (by omega)).mp c_169
                    refine lv_iconst (v := nI 1) S0.1 S0.2.1 dMM_fits_212 (by decide) ?_
                    refine lv_goto (tgt := 217) S0.1 S0.2.1 dMM_fits_213 (by decide) ?_
                    exact hend _ _ _ _ _ _ _ _ (by decide) (by decide) rfl (⟨rfl, Or.inl ⟨rfl, fitB_iff.mpr ⟨hple, hall, hah, Or.inl c_169⟩⟩⟩) hg hS dMM_fits_217
                  · skip
                    have c_169 : ¬ ((u.1 + u.2.1) = a.length) := fun h => c_169 ((nI_eq (by omega) (by omega)).mpr h)
                    refine lv_iload_n S0.1 S0.2.1 dMM_fits_172 rfl (lv_at hl 4 rfl) ?_
                    refine lv_iload S0.1 S0.2.1 dMM_fits_173 (lv_at hl 6 rfl) ?_
                    refine lv_iadd S0.1 S0.2.1 dMM_fits_175 ?_
                    refine hw_top (nI (p + u.2.1)) (nI_add _ _) ?_
                    refine lv_aload_n S0.1 S0.2.1 dMM_fits_176 rfl (lv_at hl 1 rfl) ?_
                    refine hw_get S0 hK hg h0 rfl inMM 1 (by decide) lf_MM_7 rfl rfl dMM_fits_177 ?_
                    refine lv_iload_n S0.1 S0.2.1 dMM_fits_180 rfl (lv_at hl 3 rfl) ?_
                    refine hw_iald S0 hK hg hsizes 0 rfl (by omega) (by omega) dMM_fits_181 ?_
                    refine hw_top (nI c.length) hsz ?_
                    refine lv_icmp_ge (tgt := 216) S0.1 S0.2.1 dMM_fits_182 (by decide) (fun c_182 => ?_) (fun c_182 => ?_)
                    · skip
                      have c_182 : c.length ≤ (p + u.2.1) := (nI_leI (by omega) (by omega)).mp c_182
                      refine lv_iconst (v := nI 0) S0.1 S0.2.1 dMM_fits_216 (by decide) ?_
                      exact hend _ _ _ _ _ _ _ _ (by decide) (by decide) rfl (⟨rfl, Or.inr ⟨rfl, fun hf => by rcases (fitB_iff.mp hf).2.2.2 with h9 | h9 <;> omega⟩⟩) hg hS dMM_fits_217
                    · skip
                      have c_182 : ¬ (c.length ≤ (p + u.2.1)) := fun h => c_182 ((nI_leI (by omega) (by omega)).mpr h)
                      refine lv_aload_n S0.1 S0.2.1 dMM_fits_185 rfl (lv_at hl 1 rfl) ?_
                      refine hw_get S0 hK hg h0 rfl inMM 2 (by decide) lf_MM_13 rfl rfl dMM_fits_186 ?_
                      refine lv_bipush (v := nI 60) S0.1 S0.2.1 dMM_fits_189 (by decide) ?_
                      refine lv_iload_n S0.1 S0.2.1 dMM_fits_191 rfl (lv_at hl 3 rfl) ?_
                      refine lv_imul S0.1 S0.2.1 dMM_fits_192 ?_
                      refine hw_top (nI (60 * r)) (pk_mul _ _) ?_
                      refine lv_iload_n S0.1 S0.2.1 dMM_fits_193 rfl (lv_at hl 4 rfl) ?_
                      refine lv_iadd S0.1 S0.2.1 dMM_fits_194 ?_
                      refine hw_top (nI ((60 * r) + p)) (nI_add _ _) ?_
                      refine lv_iload S0.1 S0.2.1 dMM_fits_195 (lv_at hl 6 rfl) ?_
                      refine lv_iadd S0.1 S0.2.1 dMM_fits_197 ?_
                      refine hw_top (nI (((60 * r) + p) + u.2.1)) (nI_add _ _) ?_
                      refine hw_iald S0 hK hg hlines 0 rfl (by omega) (by omega) dMM_fits_198 ?_
                      refine lv_aload_n S0.1 S0.2.1 dMM_fits_199 rfl (lv_at hl 1 rfl) ?_
                      refine hw_get S0 hK hg h0 rfl inMM 5 (by decide) lf_MM_16 rfl rfl dMM_fits_200 ?_
                      refine lv_iload S0.1 S0.2.1 dMM_fits_203 (lv_at hl 5 rfl) ?_
                      refine lv_iload S0.1 S0.2.1 dMM_fits_205 (lv_at hl 6 rfl) ?_
                      refine lv_iadd S0.1 S0.2.1 dMM_fits_207 ?_
                      refine hw_top (nI (u.1 + u.2.1)) (nI_add _ _) ?_
                      refine hw_iald S0 hK hg hx 0 rfl (by omega) (by omega) dMM_fits_208 ?_
                      refine lv_icmp_ne (tgt := 216) S0.1 S0.2.1 dMM_fits_209 (by decide) (fun c_209 => ?_) (fun c_209 => ?_)
                      · skip
                        rw [show (60 * r) + p + u.2.1 = 60 * r + (p + u.2.1) by omega, hz (p + u.2.1) (by omega), ea (u.1 + u.2.1) (by omega)] at c_209
                        refine lv_iconst (v := nI 0) S0.1 S0.2.1 dMM_fits_216 (by decide) ?_
                        exact hend _ _ _ _ _ _ _ _ (by decide) (by decide) rfl (⟨rfl, Or.inr ⟨rfl, fun hf => by rcases (fitB_iff.mp hf).2.2.2 with h9 | h9; exact c_169 h9; exact c_209 h9.2⟩⟩) hg hS dMM_fits_217
                      · skip
                        rw [show (60 * r) + p + u.2.1 = 60 * r + (p + u.2.1) by omega, hz (p + u.2.1) (by omega), ea (u.1 + u.2.1) (by omega)] at c_209
                        refine lv_iconst (v := nI 1) S0.1 S0.2.1 dMM_fits_212 (by decide) ?_
                        refine lv_goto (tgt := 217) S0.1 S0.2.1 dMM_fits_213 (by decide) ?_
                        exact hend _ _ _ _ _ _ _ _ (by decide) (by decide) rfl (⟨rfl, Or.inl ⟨rfl, fitB_iff.mpr ⟨hple, hall, hah, Or.inr ⟨by omega, c_209⟩⟩⟩⟩) hg hS dMM_fits_217
              · skip
                rw [← nI_0] at c_108
                have c_108 : ¬ (u.1 = 0) := fun h => c_108 ((nI_eq (by omega) (by omega)).mpr h)
                refine lv_iload_n S0.1 S0.2.1 dMM_fits_111 rfl (lv_at hl 3 rfl) ?_
                refine lv_if_le (tgt := 152) S0.1 S0.2.1 dMM_fits_112 (by decide) (fun c_112 => ?_) (fun c_112 => ?_)
                · skip
                  rw [← nI_0] at c_112
                  have c_112 : p ≤ 0 := (nI_leI (by omega) (by omega)).mp c_112
                  refine lv_iconst (v := nI 0) S0.1 S0.2.1 dMM_fits_152 (by decide) ?_
                  refine lv_istore (lv' := [(6, .int (nI 0)), (0, .ref mm), (1, .int (nI h)), (2, .int (nI r)), (3, .int (nI p)), (4, .int (nI u.1)), (5, .int (nI u.2.1)), (7, .int (nI k))]) S0.1 S0.2.1 dMM_fits_153 hl (by decide) rfl (fun ls hl => ?_)
                  refine lv_iload S0.1 S0.2.1 dMM_fits_155 (lv_at hl 0 rfl) ?_
                  refine lv_if_eq (tgt := 216) S0.1 S0.2.1 dMM_fits_157 (by decide) (fun c_157 => ?_) (fun c_157 => ?_)
                  · skip
                    rw [← nI_0] at c_157
                    have c_157 : 0 = 0 := (nI_eq (by omega) (by omega)).mp c_157
                    refine lv_iconst (v := nI 0) S0.1 S0.2.1 dMM_fits_216 (by decide) ?_
                    exact hend _ _ _ _ _ _ _ _ (by decide) (by decide) rfl (⟨rfl, Or.inr ⟨rfl, fun hf => by rcases (fitB_iff.mp hf).2.2.1 with h9 | h9 <;> omega⟩⟩) hg hS dMM_fits_217
                  · skip
                    rw [← nI_0] at c_157
                    have c_157 : ¬ (0 = 0) := fun h => c_157 ((nI_eq (by omega) (by omega)).mpr h)
                    exact absurd c_157 (by decide)
                · skip
                  rw [← nI_0] at c_112
                  have c_112 : ¬ (p ≤ 0) := fun h => c_112 ((nI_leI (by omega) (by omega)).mpr h)
                  refine lv_aload_n S0.1 S0.2.1 dMM_fits_115 rfl (lv_at hl 0 rfl) ?_
                  refine hw_get S0 hK hg h0 rfl inMM 2 (by decide) lf_MM_13 rfl rfl dMM_fits_116 ?_
                  refine lv_bipush (v := nI 60) S0.1 S0.2.1 dMM_fits_119 (by decide) ?_
                  refine lv_iload_n S0.1 S0.2.1 dMM_fits_121 rfl (lv_at hl 2 rfl) ?_
                  refine lv_imul S0.1 S0.2.1 dMM_fits_122 ?_
                  refine hw_top (nI (60 * r)) (pk_mul _ _) ?_
                  refine lv_iload_n S0.1 S0.2.1 dMM_fits_123 rfl (lv_at hl 3 rfl) ?_
                  refine lv_if_le (tgt := 131) S0.1 S0.2.1 dMM_fits_124 (by decide) (fun c_124 => ?_) (fun c_124 => ?_)
                  · skip
                    rw [← nI_0] at c_124
                    have c_124 : p ≤ 0 := (nI_leI (by omega) (by omega)).mp c_124
                    omega
                  · skip
                    rw [← nI_0] at c_124
                    have c_124 : ¬ (p ≤ 0) := fun h => c_124 ((nI_leI (by omega) (by omega)).mpr h)
                    refine lv_iload_n S0.1 S0.2.1 dMM_fits_127 rfl (lv_at hl 3 rfl) ?_
                    refine lv_goto (tgt := 132) S0.1 S0.2.1 dMM_fits_128 (by decide) ?_
                    refine lv_iadd S0.1 S0.2.1 dMM_fits_132 ?_
                    refine hw_top (nI ((60 * r) + p)) (nI_add _ _) ?_
                    refine lv_iconst (v := nI 1) S0.1 S0.2.1 dMM_fits_133 (by decide) ?_
                    refine lv_isub S0.1 S0.2.1 dMM_fits_134 ?_
                    refine hw_top (nI (((60 * r) + p) - 1)) (pk_sub (by omega)) ?_
                    refine hw_iald S0 hK hg hlines 0 rfl (by omega) (by omega) dMM_fits_135 ?_
                    refine lv_aload_n S0.1 S0.2.1 dMM_fits_136 rfl (lv_at hl 0 rfl) ?_
                    refine hw_get S0 hK hg h0 rfl inMM 5 (by decide) lf_MM_16 rfl rfl dMM_fits_137 ?_
                    refine lv_iload S0.1 S0.2.1 dMM_fits_140 (lv_at hl 4 rfl) ?_
                    refine lv_iconst (v := nI 1) S0.1 S0.2.1 dMM_fits_142 (by decide) ?_
                    refine lv_isub S0.1 S0.2.1 dMM_fits_143 ?_
                    refine hw_top (nI (u.1 - 1)) (pk_sub (by omega)) ?_
                    refine hw_iald S0 hK hg hx 0 rfl (by omega) (by omega) dMM_fits_144 ?_
                    refine lv_icmp_ne (tgt := 152) S0.1 S0.2.1 dMM_fits_145 (by decide) (fun c_145 => ?_) (fun c_145 => ?_)
                    · skip
                      rw [show (60 * r) + p - 1 = 60 * r + (p - 1) by omega, hz (p - 1) (by omega), ea (u.1 - 1) (by omega)] at c_145
                      refine lv_iconst (v := nI 0) S0.1 S0.2.1 dMM_fits_152 (by decide) ?_
                      refine lv_istore (lv' := [(6, .int (nI 0)), (0, .ref mm), (1, .int (nI h)), (2, .int (nI r)), (3, .int (nI p)), (4, .int (nI u.1)), (5, .int (nI u.2.1)), (7, .int (nI k))]) S0.1 S0.2.1 dMM_fits_153 hl (by decide) rfl (fun ls hl => ?_)
                      refine lv_iload S0.1 S0.2.1 dMM_fits_155 (lv_at hl 0 rfl) ?_
                      refine lv_if_eq (tgt := 216) S0.1 S0.2.1 dMM_fits_157 (by decide) (fun c_157 => ?_) (fun c_157 => ?_)
                      · skip
                        rw [← nI_0] at c_157
                        have c_157 : 0 = 0 := (nI_eq (by omega) (by omega)).mp c_157
                        refine lv_iconst (v := nI 0) S0.1 S0.2.1 dMM_fits_216 (by decide) ?_
                        exact hend _ _ _ _ _ _ _ _ (by decide) (by decide) rfl (⟨rfl, Or.inr ⟨rfl, fun hf => by rcases (fitB_iff.mp hf).2.2.1 with h9 | h9; omega; exact c_145 h9.2⟩⟩) hg hS dMM_fits_217
                      · skip
                        rw [← nI_0] at c_157
                        have c_157 : ¬ (0 = 0) := fun h => c_157 ((nI_eq (by omega) (by omega)).mpr h)
                        exact absurd c_157 (by decide)
                    · skip
                      rw [show (60 * r) + p - 1 = 60 * r + (p - 1) by omega, hz (p - 1) (by omega), ea (u.1 - 1) (by omega)] at c_145
                      have hah : u.1 = 0 ∨ (0 < p ∧ c.getD (p - 1) 0 = a.getD (u.1 - 1) 0) := Or.inr ⟨by omega, c_145⟩
                      refine lv_iconst (v := nI 1) S0.1 S0.2.1 dMM_fits_148 (by decide) ?_
                      refine lv_goto (tgt := 153) S0.1 S0.2.1 dMM_fits_149 (by decide) ?_
                      refine lv_istore (lv' := [(6, .int (nI 1)), (0, .ref mm), (1, .int (nI h)), (2, .int (nI r)), (3, .int (nI p)), (4, .int (nI u.1)), (5, .int (nI u.2.1)), (7, .int (nI k))]) S0.1 S0.2.1 dMM_fits_153 hl (by decide) rfl (fun ls hl => ?_)
                      refine lv_iload S0.1 S0.2.1 dMM_fits_155 (lv_at hl 0 rfl) ?_
                      refine lv_if_eq (tgt := 216) S0.1 S0.2.1 dMM_fits_157 (by decide) (fun c_157 => ?_) (fun c_157 => ?_)
                      · skip
                        rw [← nI_0] at c_157
                        have c_157 : 1 = 0 := (nI_eq (by omega) (by omega)).mp c_157
                        exact absurd c_157 (by decide)
                      · skip
                        rw [← nI_0] at c_157
                        have c_157 : ¬ (1 = 0) := fun h => c_157 ((nI_eq (by omega) (by omega)).mpr h)
                        refine lv_iload S0.1 S0.2.1 dMM_fits_160 (lv_at hl 5 rfl) ?_
                        refine lv_iload S0.1 S0.2.1 dMM_fits_162 (lv_at hl 6 rfl) ?_
                        refine lv_iadd S0.1 S0.2.1 dMM_fits_164 ?_
                        refine hw_top (nI (u.1 + u.2.1)) (nI_add _ _) ?_
                        refine lv_aload_n S0.1 S0.2.1 dMM_fits_165 rfl (lv_at hl 1 rfl) ?_
                        refine hw_get S0 hK hg h0 rfl inMM 3 (by decide) lf_MM_76 rfl rfl dMM_fits_166 ?_
                        refine lv_icmp_eq (tgt := 212) S0.1 S0.2.1 dMM_fits_169 (by decide) (fun c_169 => ?_) (fun c_169 => ?_)
                        · skip
                          have c_169 : (u.1 + u.2.1) = a.length := (nI_eq (by omega) (by omega)).mp c_169
                          refine lv_iconst (v := nI 1) S0.1 S0.2.1 dMM_fits_212 (by decide) ?_
                          refine lv_goto (tgt := 217) S0.1 S0.2.1 dMM_fits_213 (by decide) ?_
                          exact hend _ _ _ _ _ _ _ _ (by decide) (by decide) rfl (⟨rfl, Or.inl ⟨rfl, fitB_iff.mpr ⟨hple, hall, hah, Or.inl c_169⟩⟩⟩) hg hS dMM_fits_217
                        · skip
                          have c_169 : ¬ ((u.1 + u.2.1) = a.length) := fun h => c_169 ((nI_eq (by omega) (by omega)).mpr h)
                          refine lv_iload_n S0.1 S0.2.1 dMM_fits_172 rfl (lv_at hl 4 rfl) ?_
                          refine lv_iload S0.1 S0.2.1 dMM_fits_173 (lv_at hl 6 rfl) ?_
                          refine lv_iadd S0.1 S0.2.1 dMM_fits_175 ?_
                          refine hw_top (nI (p + u.2.1)) (nI_add _ _) ?_
                          refine lv_aload_n S0.1 S0.2.1 dMM_fits_176 rfl (lv_at hl 1 rfl) ?_
                          refine hw_get S0 hK hg h0 rfl inMM 1 (by decide) lf_MM_7 rfl rfl dMM_fits_177 ?_
                          refine lv_iload_n S0.1 S0.2.1 dMM_fits_180 rfl (lv_at hl 3 rfl) ?_
                          refine hw_iald S0 hK hg hsizes 0 rfl (by omega) (by omega) dMM_fits_181 ?_
                          refine hw_top (nI c.length) hsz ?_
                          refine lv_icmp_ge (tgt := 216) S0.1 S0.2.1 dMM_fits_182 (by decide) (fun c_182 => ?_) (fun c_182 => ?_)
                          · skip
                            have c_182 : c.length ≤ (p + u.2.1) := (nI_leI (by omega) (by omega)).mp c_182
                            refine lv_iconst (v := nI 0) S0.1 S0.2.1 dMM_fits_216 (by decide) ?_
                            exact hend _ _ _ _ _ _ _ _ (by decide) (by decide) rfl (⟨rfl, Or.inr ⟨rfl, fun hf => by rcases (fitB_iff.mp hf).2.2.2 with h9 | h9 <;> omega⟩⟩) hg hS dMM_fits_217
                          · skip
                            have c_182 : ¬ (c.length ≤ (p + u.2.1)) := fun h => c_182 ((nI_leI (by omega) (by omega)).mpr h)
                            refine lv_aload_n S0.1 S0.2.1 dMM_fits_185 rfl (lv_at hl 1 rfl) ?_
                            refine hw_get S0 hK hg h0 rfl inMM 2 (by decide) lf_MM_13 rfl rfl dMM_fits_186 ?_
                            refine lv_bipush (v := nI 60) S0.1 S0.2.1 dMM_fits_189 (by decide) ?_
                            refine lv_iload_n S0.1 S0.2.1 dMM_fits_191 rfl (lv_at hl 3 rfl) ?_
                            refine lv_imul S0.1 S0.2.1 dMM_fits_192 ?_
                            refine hw_top (nI (60 * r)) (pk_mul _ _) ?_
                            refine lv_iload_n S0.1 S0.2.1 dMM_fits_193 rfl (lv_at hl 4 rfl) ?_
                            refine lv_iadd S0.1 S0.2.1 dMM_fits_194 ?_
                            refine hw_top (nI ((60 * r) + p)) (nI_add _ _) ?_
                            refine lv_iload S0.1 S0.2.1 dMM_fits_195 (lv_at hl 6 rfl) ?_
                            refine lv_iadd S0.1 S0.2.1 dMM_fits_197 ?_
                            refine hw_top (nI (((60 * r) + p) + u.2.1)) (nI_add _ _) ?_
                            refine hw_iald S0 hK hg hlines 0 rfl (by omega) (by omega) dMM_fits_198 ?_
                            refine lv_aload_n S0.1 S0.2.1 dMM_fits_199 rfl (lv_at hl 1 rfl) ?_
                            refine hw_get S0 hK hg h0 rfl inMM 5 (by decide) lf_MM_16 rfl rfl dMM_fits_200 ?_
                            refine lv_iload S0.1 S0.2.1 dMM_fits_203 (lv_at hl 5 rfl) ?_
                            refine lv_iload S0.1 S0.2.1 dMM_fits_205 (lv_at hl 6 rfl) ?_
                            refine lv_iadd S0.1 S0.2.1 dMM_fits_207 ?_
                            refine hw_top (nI (u.1 + u.2.1)) (nI_add _ _) ?_
                            refine hw_iald S0 hK hg hx 0 rfl (by omega) (by omega) dMM_fits_208 ?_
                            refine lv_icmp_ne (tgt := 216) S0.1 S0.2.1 dMM_fits_209 (by decide) (fun c_209 => ?_) (fun c_209 => ?_)
                            · skip
                              rw [show (60 * r) + p + u.2.1 = 60 * r + (p + u.2.1) by omega, hz (p + u.2.1) (by omega), ea (u.1 + u.2.1) (by omega)] at c_209
                              refine lv_iconst (v := nI 0) S0.1 S0.2.1 dMM_fits_216 (by decide) ?_
                              exact hend _ _ _ _ _ _ _ _ (by decide) (by decide) rfl (⟨rfl, Or.inr ⟨rfl, fun hf => by rcases (fitB_iff.mp hf).2.2.2 with h9 | h9; exact c_169 h9; exact c_209 h9.2⟩⟩) hg hS dMM_fits_217
                            · skip
                              rw [show (60 * r) + p + u.2.1 = 60 * r + (p + u.2.1) by omega, hz (p + u.2.1) (by omega), ea (u.1 + u.2.1) (by omega)] at c_209
                              refine lv_iconst (v := nI 1) S0.1 S0.2.1 dMM_fits_212 (by decide) ?_
                              refine lv_goto (tgt := 217) S0.1 S0.2.1 dMM_fits_213 (by decide) ?_
                              exact hend _ _ _ _ _ _ _ _ (by decide) (by decide) rfl (⟨rfl, Or.inl ⟨rfl, fitB_iff.mpr ⟨hple, hall, hah, Or.inr ⟨by omega, c_209⟩⟩⟩⟩) hg hS dMM_fits_217
          · skip
            have c_53 : ¬ (u.2.1 ≤ k) := fun h => c_53 ((nI_leI (by omega) (by omega)).mpr h)
            refine lv_iload S0.1 S0.2.1 dMM_fits_56 (lv_at hl 6 rfl) ?_
            refine lv_if_eq (tgt := 101) S0.1 S0.2.1 dMM_fits_58 (by decide) (fun c_58 => ?_) (fun c_58 => ?_)
            · skip
              rw [← nI_0] at c_58
              have c_58 : w = 0 := (nI_eq (by omega) (by omega)).mp c_58
              refine lv_iload S0.1 S0.2.1 dMM_fits_101 (lv_at hl 6 rfl) ?_
              refine lv_if_eq (tgt := 152) S0.1 S0.2.1 dMM_fits_103 (by decide) (fun c_103 => ?_) (fun c_103 => ?_)
              · skip
                rw [← nI_0] at c_103
                have c_103 : w = 0 := (nI_eq (by omega) (by omega)).mp c_103
                refine lv_iconst (v := nI 0) S0.1 S0.2.1 dMM_fits_152 (by decide) ?_
                refine lv_istore (lv' := [(6, .int (nI 0)), (0, .ref mm), (1, .int (nI h)), (2, .int (nI r)), (3, .int (nI p)), (4, .int (nI u.1)), (5, .int (nI u.2.1)), (7, .int (nI k))]) S0.1 S0.2.1 dMM_fits_153 hl (by decide) rfl (fun ls hl => ?_)
                refine lv_iload S0.1 S0.2.1 dMM_fits_155 (lv_at hl 0 rfl) ?_
                refine lv_if_eq (tgt := 216) S0.1 S0.2.1 dMM_fits_157 (by decide) (fun c_157 => ?_) (fun c_157 => ?_)
                · skip
                  rw [← nI_0] at c_157
                  have c_157 : 0 = 0 := (nI_eq (by omega) (by omega)).mp c_157
                  refine lv_iconst (v := nI 0) S0.1 S0.2.1 dMM_fits_216 (by decide) ?_
                  exact hend _ _ _ _ _ _ _ _ (by decide) (by decide) rfl (⟨rfl, Or.inr ⟨rfl, hw3 (by omega)⟩⟩) hg hS dMM_fits_217
                · skip
                  rw [← nI_0] at c_157
                  have c_157 : ¬ (0 = 0) := fun h => c_157 ((nI_eq (by omega) (by omega)).mpr h)
                  exact absurd c_157 (by decide)
              · skip
                rw [← nI_0] at c_103
                have c_103 : ¬ (w = 0) := fun h => c_103 ((nI_eq (by omega) (by omega)).mpr h)
                obtain ⟨hple, hall⟩ := hw2 (by omega)
                have hall : ∀ x, x < u.2.1 → c.getD (p + x) 0 = a.getD (u.1 + x) 0 := fun x h9 => hall x (by omega)
                refine lv_iload S0.1 S0.2.1 dMM_fits_106 (lv_at hl 4 rfl) ?_
                refine lv_if_eq (tgt := 148) S0.1 S0.2.1 dMM_fits_108 (by decide) (fun c_108 => ?_) (fun c_108 => ?_)
                · skip
                  rw [← nI_0] at c_108
                  have c_108 : u.1 = 0 := (nI_eq (by omega) (by omega)).mp c_108
                  have hah : u.1 = 0 ∨ (0 < p ∧ c.getD (p - 1) 0 = a.getD (u.1 - 1) 0) := Or.inl c_108
                  refine lv_iconst (v := nI 1) S0.1 S0.2.1 dMM_fits_148 (by decide) ?_
                  refine lv_goto (tgt := 153) S0.1 S0.2.1 dMM_fits_149 (by decide) ?_
                  refine lv_istore (lv' := [(6, .int (nI 1)), (0, .ref mm), (1, .int (nI h)), (2, .int (nI r)), (3, .int (nI p)), (4, .int (nI u.1)), (5, .int (nI u.2.1)), (7, .int (nI k))]) S0.1 S0.2.1 dMM_fits_153 hl (by decide) rfl (fun ls hl => ?_)
                  refine lv_iload S0.1 S0.2.1 dMM_fits_155 (lv_at hl 0 rfl) ?_
                  refine lv_if_eq (tgt := 216) S0.1 S0.2.1 dMM_fits_157 (by decide) (fun c_157 => ?_) (fun c_157 => ?_)
                  · skip
                    rw [← nI_0] at c_157
                    have c_157 : 1 = 0 := (nI_eq (by omega) (by omega)).mp c_157
                    exact absurd c_157 (by decide)
                  · skip
                    rw [← nI_0] at c_157
                    have c_157 : ¬ (1 = 0) := fun h => c_157 ((nI_eq (by omega) (by omega)).mpr h)
                    refine lv_iload S0.1 S0.2.1 dMM_fits_160 (lv_at hl 5 rfl) ?_
                    refine lv_iload S0.1 S0.2.1 dMM_fits_162 (lv_at hl 6 rfl) ?_
                    refine lv_iadd S0.1 S0.2.1 dMM_fits_164 ?_
                    refine hw_top (nI (u.1 + u.2.1)) (nI_add _ _) ?_
                    refine lv_aload_n S0.1 S0.2.1 dMM_fits_165 rfl (lv_at hl 1 rfl) ?_
                    refine hw_get S0 hK hg h0 rfl inMM 3 (by decide) lf_MM_76 rfl rfl dMM_fits_166 ?_
                    refine lv_icmp_eq (tgt := 212) S0.1 S0.2.1 dMM_fits_169 (by decide) (fun c_169 => ?_) (fun c_169 => ?_)
                    · skip
                      have c_169 : (u.1 + u.2.1) = a.length := (nI_eq (by omega) (by omega)).mp c_169
                      refine lv_iconst (v := nI 1) S0.1 S0.2.1 dMM_fits_212 (by decide) ?_
                      refine lv_goto (tgt := 217) S0.1 S0.2.1 dMM_fits_213 (by decide) ?_
                      exact hend _ _ _ _ _ _ _ _ (by decide) (by decide) rfl (⟨rfl, Or.inl ⟨rfl, fitB_iff.mpr ⟨hple, hall, hah, Or.inl c_169⟩⟩⟩) hg hS dMM_fits_217
                    · skip
                      have c_169 : ¬ ((u.1 + u.2.1) = a.length) := fun h => c_169 ((nI_eq (by omega) (by omega)).mpr h)
                      refine lv_iload_n S0.1 S0.2.1 dMM_fits_172 rfl (lv_at hl 4 rfl) ?_
                      refine lv_iload S0.1 S0.2.1 dMM_fits_173 (lv_at hl 6 rfl) ?_
                      refine lv_iadd S0.1 S0.2.1 dMM_fits_175 ?_
                      refine hw_top (nI (p + u.2.1)) (nI_add _ _) ?_
                      refine lv_aload_n S0.1 S0.2.1 dMM_fits_176 rfl (lv_at hl 1 rfl) ?_
                      refine hw_get S0 hK hg h0 rfl inMM 1 (by decide) lf_MM_7 rfl rfl dMM_fits_177 ?_
                      refine lv_iload_n S0.1 S0.2.1 dMM_fits_180 rfl (lv_at hl 3 rfl) ?_
                      refine hw_iald S0 hK hg hsizes 0 rfl (by omega) (by omega) dMM_fits_181 ?_
                      refine hw_top (nI c.length) hsz ?_
                      refine lv_icmp_ge (tgt := 216) S0.1 S0.2.1 dMM_fits_182 (by decide) (fun c_182 => ?_) (fun c_182 => ?_)
                      · skip
                        have c_182 : c.length ≤ (p + u.2.1) := (nI_leI (by omega) (by omega)).mp c_182
                        refine lv_iconst (v := nI 0) S0.1 S0.2.1 dMM_fits_216 (by decide) ?_
                        exact hend _ _ _ _ _ _ _ _ (by decide) (by decide) rfl (⟨rfl, Or.inr ⟨rfl, fun hf => by rcases (fitB_iff.mp hf).2.2.2 with h9 | h9 <;> omega⟩⟩) hg hS dMM_fits_217
                      · skip
                        have c_182 : ¬ (c.length ≤ (p + u.2.1)) := fun h => c_182 ((nI_leI (by omega) (by omega)).mpr h)
                        refine lv_aload_n S0.1 S0.2.1 dMM_fits_185 rfl (lv_at hl 1 rfl) ?_
                        refine hw_get S0 hK hg h0 rfl inMM 2 (by decide) lf_MM_13 rfl rfl dMM_fits_186 ?_
                        refine lv_bipush (v := nI 60) S0.1 S0.2.1 dMM_fits_189 (by decide) ?_
                        refine lv_iload_n S0.1 S0.2.1 dMM_fits_191 rfl (lv_at hl 3 rfl) ?_
                        refine lv_imul S0.1 S0.2.1 dMM_fits_192 ?_
                        refine hw_top (nI (60 * r)) (pk_mul _ _) ?_
                        refine lv_iload_n S0.1 S0.2.1 dMM_fits_193 rfl (lv_at hl 4 rfl) ?_
                        refine lv_iadd S0.1 S0.2.1 dMM_fits_194 ?_
                        refine hw_top (nI ((60 * r) + p)) (nI_add _ _) ?_
                        refine lv_iload S0.1 S0.2.1 dMM_fits_195 (lv_at hl 6 rfl) ?_
                        refine lv_iadd S0.1 S0.2.1 dMM_fits_197 ?_
                        refine hw_top (nI (((60 * r) + p) + u.2.1)) (nI_add _ _) ?_
                        refine hw_iald S0 hK hg hlines 0 rfl (by omega) (by omega) dMM_fits_198 ?_
                        refine lv_aload_n S0.1 S0.2.1 dMM_fits_199 rfl (lv_at hl 1 rfl) ?_
                        refine hw_get S0 hK hg h0 rfl inMM 5 (by decide) lf_MM_16 rfl rfl dMM_fits_200 ?_
                        refine lv_iload S0.1 S0.2.1 dMM_fits_203 (lv_at hl 5 rfl) ?_
                        refine lv_iload S0.1 S0.2.1 dMM_fits_205 (lv_at hl 6 rfl) ?_
                        refine lv_iadd S0.1 S0.2.1 dMM_fits_207 ?_
                        refine hw_top (nI (u.1 + u.2.1)) (nI_add _ _) ?_
                        refine hw_iald S0 hK hg hx 0 rfl (by omega) (by omega) dMM_fits_208 ?_
                        refine lv_icmp_ne (tgt := 216) S0.1 S0.2.1 dMM_fits_209 (by decide) (fun c_209 => ?_) (fun c_209 => ?_)
                        · skip
                          rw [show (60 * r) + p + u.2.1 = 60 * r + (p + u.2.1) by omega, hz (p + u.2.1) (by omega), ea (u.1 + u.2.1) (by omega)] at c_209
                          refine lv_iconst (v := nI 0) S0.1 S0.2.1 dMM_fits_216 (by decide) ?_
                          exact hend _ _ _ _ _ _ _ _ (by decide) (by decide) rfl (⟨rfl, Or.inr ⟨rfl, fun hf => by rcases (fitB_iff.mp hf).2.2.2 with h9 | h9; exact c_169 h9; exact c_209 h9.2⟩⟩) hg hS dMM_fits_217
                        · skip
                          rw [show (60 * r) + p + u.2.1 = 60 * r + (p + u.2.1) by omega, hz (p + u.2.1) (by omega), ea (u.1 + u.2.1) (by omega)] at c_209
                          refine lv_iconst (v := nI 1) S0.1 S0.2.1 dMM_fits_212 (by decide) ?_
                          refine lv_goto (tgt := 217) S0.1 S0.2.1 dMM_fits_213 (by decide) ?_
                          exact hend _ _ _ _ _ _ _ _ (by decide) (by decide) rfl (⟨rfl, Or.inl ⟨rfl, fitB_iff.mpr ⟨hple, hall, hah, Or.inr ⟨by omega, c_209⟩⟩⟩⟩) hg hS dMM_fits_217
                · skip
                  rw [← nI_0] at c_108
                  have c_108 : ¬ (u.1 = 0) := fun h => c_108 ((nI_eq (by omega) (by omega)).mpr h)
                  refine lv_iload_n S0.1 S0.2.1 dMM_fits_111 rfl (lv_at hl 3 rfl) ?_
                  refine lv_if_le (tgt := 152) S0.1 S0.2.1 dMM_fits_112 (by decide) (fun c_112 => ?_) (fun c_112 => ?_)
                  · skip
                    rw [← nI_0] at c_112
                    have c_112 : p ≤ 0 := (nI_leI (by omega) (by omega)).mp c_112
                    refine lv_iconst (v := nI 0) S0.1 S0.2.1 dMM_fits_152 (by decide) ?_
                    refine lv_istore (lv' := [(6, .int (nI 0)), (0, .ref mm), (1, .int (nI h)), (2, .int (nI r)), (3, .int (nI p)), (4, .int (nI u.1)), (5, .int (nI u.2.1)), (7, .int (nI k))]) S0.1 S0.2.1 dMM_fits_153 hl (by decide) rfl (fun ls hl => ?_)
                    refine lv_iload S0.1 S0.2.1 dMM_fits_155 (lv_at hl 0 rfl) ?_
                    refine lv_if_eq (tgt := 216) S0.1 S0.2.1 dMM_fits_157 (by decide) (fun c_157 => ?_) (fun c_157 => ?_)
                    · skip
                      rw [← nI_0] at c_157
                      have c_157 : 0 = 0 := (nI_eq (by omega) (by omega)).mp c_157
                      refine lv_iconst (v := nI 0) S0.1 S0.2.1 dMM_fits_216 (by decide) ?_
                      exact hend _ _ _ _ _ _ _ _ (by decide) (by decide) rfl (⟨rfl, Or.inr ⟨rfl, fun hf => by rcases (fitB_iff.mp hf).2.2.1 with h9 | h9 <;> omega⟩⟩) hg hS dMM_fits_217
                    · skip
                      rw [← nI_0] at c_157
                      have c_157 : ¬ (0 = 0) := fun h => c_157 ((nI_eq (by omega) (by omega)).mpr h)
                      exact absurd c_157 (by decide)
                  · skip
                    rw [← nI_0] at c_112
                    have c_112 : ¬ (p ≤ 0) := fun h => c_112 ((nI_leI (by omega) (by omega)).mpr h)
                    refine lv_aload_n S0.1 S0.2.1 dMM_fits_115 rfl (lv_at hl 0 rfl) ?_
                    refine hw_get S0 hK hg h0 rfl inMM 2 (by decide) lf_MM_13 rfl rfl dMM_fits_116 ?_
                    refine lv_bipush (v := nI 60) S0.1 S0.2.1 dMM_fits_119 (by decide) ?_
                    refine lv_iload_n S0.1 S0.2.1 dMM_fits_121 rfl (lv_at hl 2 rfl) ?_
                    refine lv_imul S0.1 S0.2.1 dMM_fits_122 ?_
                    refine hw_top (nI (60 * r)) (pk_mul _ _) ?_
                    refine lv_iload_n S0.1 S0.2.1 dMM_fits_123 rfl (lv_at hl 3 rfl) ?_
                    refine lv_if_le (tgt := 131) S0.1 S0.2.1 dMM_fits_124 (by decide) (fun c_124 => ?_) (fun c_124 => ?_)
                    · skip
                      rw [← nI_0] at c_124
                      have c_124 : p ≤ 0 := (nI_leI (by omega) (by omega)).mp c_124
                      omega
                    · skip
                      rw [← nI_0] at c_124
                      have c_124 : ¬ (p ≤ 0) := fun h => c_124 ((nI_leI (by omega) (by omega)).mpr h)
                      refine lv_iload_n S0.1 S0.2.1 dMM_fits_127 rfl (lv_at hl 3 rfl) ?_
                      refine lv_goto (tgt := 132) S0.1 S0.2.1 dMM_fits_128 (by decide) ?_
                      refine lv_iadd S0.1 S0.2.1 dMM_fits_132 ?_
                      refine hw_top (nI ((60 * r) + p)) (nI_add _ _) ?_
                      refine lv_iconst (v := nI 1) S0.1 S0.2.1 dMM_fits_133 (by decide) ?_
                      refine lv_isub S0.1 S0.2.1 dMM_fits_134 ?_
                      refine hw_top (nI (((60 * r) + p) - 1)) (pk_sub (by omega)) ?_
                      refine hw_iald S0 hK hg hlines 0 rfl (by omega) (by omega) dMM_fits_135 ?_
                      refine lv_aload_n S0.1 S0.2.1 dMM_fits_136 rfl (lv_at hl 0 rfl) ?_
                      refine hw_get S0 hK hg h0 rfl inMM 5 (by decide) lf_MM_16 rfl rfl dMM_fits_137 ?_
                      refine lv_iload S0.1 S0.2.1 dMM_fits_140 (lv_at hl 4 rfl) ?_
                      refine lv_iconst (v := nI 1) S0.1 S0.2.1 dMM_fits_142 (by decide) ?_
                      refine lv_isub S0.1 S0.2.1 dMM_fits_143 ?_
                      refine hw_top (nI (u.1 - 1)) (pk_sub (by omega)) ?_
                      refine hw_iald S0 hK hg hx 0 rfl (by omega) (by omega) dMM_fits_144 ?_
                      refine lv_icmp_ne (tgt := 152) S0.1 S0.2.1 dMM_fits_145 (by decide) (fun c_145 => ?_) (fun c_145 => ?_)
                      · skip
                        rw [show (60 * r) + p - 1 = 60 * r + (p - 1) by omega, hz (p - 1) (by omega), ea (u.1 - 1) (by omega)] at c_145
                        refine lv_iconst (v := nI 0) S0.1 S0.2.1 dMM_fits_152 (by decide) ?_
                        refine lv_istore (lv' := [(6, .int (nI 0)), (0, .ref mm), (1, .int (nI h)), (2, .int (nI r)), (3, .int (nI p)), (4, .int (nI u.1)), (5, .int (nI u.2.1)), (7, .int (nI k))]) S0.1 S0.2.1 dMM_fits_153 hl (by decide) rfl (fun ls hl => ?_)
                        refine lv_iload S0.1 S0.2.1 dMM_fits_155 (lv_at hl 0 rfl) ?_
                        refine lv_if_eq (tgt := 216) S0.1 S0.2.1 dMM_fits_157 (by decide) (fun c_157 => ?_) (fun c_157 => ?_)
                        · skip
                          rw [← nI_0] at c_157
                          have c_157 : 0 = 0 := (nI_eq (by omega) (by omega)).mp c_157
                          refine lv_iconst (v := nI 0) S0.1 S0.2.1 dMM_fits_216 (by decide) ?_
                          exact hend _ _ _ _ _ _ _ _ (by decide) (by decide) rfl (⟨rfl, Or.inr ⟨rfl, fun hf => by rcases (fitB_iff.mp hf).2.2.1 with h9 | h9; omega; exact c_145 h9.2⟩⟩) hg hS dMM_fits_217
                        · skip
                          rw [← nI_0] at c_157
                          have c_157 : ¬ (0 = 0) := fun h => c_157 ((nI_eq (by omega) (by omega)).mpr h)
                          exact absurd c_157 (by decide)
                      · skip
                        rw [show (60 * r) + p - 1 = 60 * r + (p - 1) by omega, hz (p - 1) (by omega), ea (u.1 - 1) (by omega)] at c_145
                        have hah : u.1 = 0 ∨ (0 < p ∧ c.getD (p - 1) 0 = a.getD (u.1 - 1) 0) := Or.inr ⟨by omega, c_145⟩
                        refine lv_iconst (v := nI 1) S0.1 S0.2.1 dMM_fits_148 (by decide) ?_
                        refine lv_goto (tgt := 153) S0.1 S0.2.1 dMM_fits_149 (by decide) ?_
                        refine lv_istore (lv' := [(6, .int (nI 1)), (0, .ref mm), (1, .int (nI h)), (2, .int (nI r)), (3, .int (nI p)), (4, .int (nI u.1)), (5, .int (nI u.2.1)), (7, .int (nI k))]) S0.1 S0.2.1 dMM_fits_153 hl (by decide) rfl (fun ls hl => ?_)
                        refine lv_iload S0.1 S0.2.1 dMM_fits_155 (lv_at hl 0 rfl) ?_
                        refine lv_if_eq (tgt := 216) S0.1 S0.2.1 dMM_fits_157 (by decide) (fun c_157 => ?_) (fun c_157 => ?_)
                        · skip
                          rw [← nI_0] at c_157
                          have c_157 : 1 = 0 := (nI_eq (by omega) (by omega)).mp c_157
                          exact absurd c_157 (by decide)
                        · skip
                          rw [← nI_0] at c_157
                          have c_157 : ¬ (1 = 0) := fun h => c_157 ((nI_eq (by omega) (by omega)).mpr h)
                          refine lv_iload S0.1 S0.2.1 dMM_fits_160 (lv_at hl 5 rfl) ?_
                          refine lv_iload S0.1 S0.2.1 dMM_fits_162 (lv_at hl 6 rfl) ?_
                          refine lv_iadd S0.1 S0.2.1 dMM_fits_164 ?_
                          refine hw_top (nI (u.1 + u.2.1)) (nI_add _ _) ?_
                          refine lv_aload_n S0.1 S0.2.1 dMM_fits_165 rfl (lv_at hl 1 rfl) ?_
                          refine hw_get S0 hK hg h0 rfl inMM 3 (by decide) lf_MM_76 rfl rfl dMM_fits_166 ?_
                          refine lv_icmp_eq (tgt := 212) S0.1 S0.2.1 dMM_fits_169 (by decide) (fun c_169 => ?_) (fun c_169 => ?_)
                          · skip
                            have c_169 : (u.1 + u.2.1) = a.length := (nI_eq (by omega) (by omega)).mp c_169
                            refine lv_iconst (v := nI 1) S0.1 S0.2.1 dMM_fits_212 (by decide) ?_
                            refine lv_goto (tgt := 217) S0.1 S0.2.1 dMM_fits_213 (by decide) ?_
                            exact hend _ _ _ _ _ _ _ _ (by decide) (by decide) rfl (⟨rfl, Or.inl ⟨rfl, fitB_iff.mpr ⟨hple, hall, hah, Or.inl c_169⟩⟩⟩) hg hS dMM_fits_217
                          · skip
                            have c_169 : ¬ ((u.1 + u.2.1) = a.length) := fun h => c_169 ((nI_eq (by omega) (by omega)).mpr h)
                            refine lv_iload_n S0.1 S0.2.1 dMM_fits_172 rfl (lv_at hl 4 rfl) ?_
                            refine lv_iload S0.1 S0.2.1 dMM_fits_173 (lv_at hl 6 rfl) ?_
                            refine lv_iadd S0.1 S0.2.1 dMM_fits_175 ?_
                            refine hw_top (nI (p + u.2.1)) (nI_add _ _) ?_
                            refine lv_aload_n S0.1 S0.2.1 dMM_fits_176 rfl (lv_at hl 1 rfl) ?_
                            refine hw_get S0 hK hg h0 rfl inMM 1 (by decide) lf_MM_7 rfl rfl dMM_fits_177 ?_
                            refine lv_iload_n S0.1 S0.2.1 dMM_fits_180 rfl (lv_at hl 3 rfl) ?_
                            refine hw_iald S0 hK hg hsizes 0 rfl (by omega) (by omega) dMM_fits_181 ?_
                            refine hw_top (nI c.length) hsz ?_
                            refine lv_icmp_ge (tgt := 216) S0.1 S0.2.1 dMM_fits_182 (by decide) (fun c_182 => ?_) (fun c_182 => ?_)
                            · skip
                              have c_182 : c.length ≤ (p + u.2.1) := (nI_leI (by omega) (by omega)).mp c_182
                              refine lv_iconst (v := nI 0) S0.1 S0.2.1 dMM_fits_216 (by decide) ?_
                              exact hend _ _ _ _ _ _ _ _ (by decide) (by decide) rfl (⟨rfl, Or.inr ⟨rfl, fun hf => by rcases (fitB_iff.mp hf).2.2.2 with h9 | h9 <;> omega⟩⟩) hg hS dMM_fits_217
                            · skip
                              have c_182 : ¬ (c.length ≤ (p + u.2.1)) := fun h => c_182 ((nI_leI (by omega) (by omega)).mpr h)
                              refine lv_aload_n S0.1 S0.2.1 dMM_fits_185 rfl (lv_at hl 1 rfl) ?_
                              refine hw_get S0 hK hg h0 rfl inMM 2 (by decide) lf_MM_13 rfl rfl dMM_fits_186 ?_
                              refine lv_bipush (v := nI 60) S0.1 S0.2.1 dMM_fits_189 (by decide) ?_
                              refine lv_iload_n S0.1 S0.2.1 dMM_fits_191 rfl (lv_at hl 3 rfl) ?_
                              refine lv_imul S0.1 S0.2.1 dMM_fits_192 ?_
                              refine hw_top (nI (60 * r)) (pk_mul _ _) ?_
                              refine lv_iload_n S0.1 S0.2.1 dMM_fits_193 rfl (lv_at hl 4 rfl) ?_
                              refine lv_iadd S0.1 S0.2.1 dMM_fits_194 ?_
                              refine hw_top (nI ((60 * r) + p)) (nI_add _ _) ?_
                              refine lv_iload S0.1 S0.2.1 dMM_fits_195 (lv_at hl 6 rfl) ?_
                              refine lv_iadd S0.1 S0.2.1 dMM_fits_197 ?_
                              refine hw_top (nI (((60 * r) + p) + u.2.1)) (nI_add _ _) ?_
                              refine hw_iald S0 hK hg hlines 0 rfl (by omega) (by omega) dMM_fits_198 ?_
                              refine lv_aload_n S0.1 S0.2.1 dMM_fits_199 rfl (lv_at hl 1 rfl) ?_
                              refine hw_get S0 hK hg h0 rfl inMM 5 (by decide) lf_MM_16 rfl rfl dMM_fits_200 ?_
                              refine lv_iload S0.1 S0.2.1 dMM_fits_203 (lv_at hl 5 rfl) ?_
                              refine lv_iload S0.1 S0.2.1 dMM_fits_205 (lv_at hl 6 rfl) ?_
                              refine lv_iadd S0.1 S0.2.1 dMM_fits_207 ?_
                              refine hw_top (nI (u.1 + u.2.1)) (nI_add _ _) ?_
                              refine hw_iald S0 hK hg hx 0 rfl (by omega) (by omega) dMM_fits_208 ?_
                              refine lv_icmp_ne (tgt := 216) S0.1 S0.2.1 dMM_fits_209 (by decide) (fun c_209 => ?_) (fun c_209 => ?_)
                              · skip
                                rw [show (60 * r) + p + u.2.1 = 60 * r + (p + u.2.1) by omega, hz (p + u.2.1) (by omega), ea (u.1 + u.2.1) (by omega)] at c_209
                                refine lv_iconst (v := nI 0) S0.1 S0.2.1 dMM_fits_216 (by decide) ?_
                                exact hend _ _ _ _ _ _ _ _ (by decide) (by decide) rfl (⟨rfl, Or.inr ⟨rfl, fun hf => by rcases (fitB_iff.mp hf).2.2.2 with h9 | h9; exact c_169 h9; exact c_209 h9.2⟩⟩) hg hS dMM_fits_217
                              · skip
                                rw [show (60 * r) + p + u.2.1 = 60 * r + (p + u.2.1) by omega, hz (p + u.2.1) (by omega), ea (u.1 + u.2.1) (by omega)] at c_209
                                refine lv_iconst (v := nI 1) S0.1 S0.2.1 dMM_fits_212 (by decide) ?_
                                refine lv_goto (tgt := 217) S0.1 S0.2.1 dMM_fits_213 (by decide) ?_
                                exact hend _ _ _ _ _ _ _ _ (by decide) (by decide) rfl (⟨rfl, Or.inl ⟨rfl, fitB_iff.mpr ⟨hple, hall, hah, Or.inr ⟨by omega, c_209⟩⟩⟩⟩) hg hS dMM_fits_217
            · skip
              rw [← nI_0] at c_58
              have c_58 : ¬ (w = 0) := fun h => c_58 ((nI_eq (by omega) (by omega)).mpr h)
              obtain ⟨hple, hall⟩ := hw2 (by omega)
              refine lv_aload_n S0.1 S0.2.1 dMM_fits_61 rfl (lv_at hl 0 rfl) ?_
              refine hw_get S0 hK hg h0 rfl inMM 2 (by decide) lf_MM_13 rfl rfl dMM_fits_62 ?_
              refine lv_bipush (v := nI 60) S0.1 S0.2.1 dMM_fits_65 (by decide) ?_
              refine lv_iload_n S0.1 S0.2.1 dMM_fits_67 rfl (lv_at hl 2 rfl) ?_
              refine lv_imul S0.1 S0.2.1 dMM_fits_68 ?_
              refine hw_top (nI (60 * r)) (pk_mul _ _) ?_
              refine lv_iload_n S0.1 S0.2.1 dMM_fits_69 rfl (lv_at hl 3 rfl) ?_
              refine lv_iadd S0.1 S0.2.1 dMM_fits_70 ?_
              refine hw_top (nI ((60 * r) + p)) (nI_add _ _) ?_
              refine lv_iload S0.1 S0.2.1 dMM_fits_71 (lv_at hl 7 rfl) ?_
              refine lv_iadd S0.1 S0.2.1 dMM_fits_73 ?_
              refine hw_top (nI (((60 * r) + p) + k)) (nI_add _ _) ?_
              refine hw_iald S0 hK hg hlines 0 rfl (by omega) (by omega) dMM_fits_74 ?_
              refine lv_aload_n S0.1 S0.2.1 dMM_fits_75 rfl (lv_at hl 0 rfl) ?_
              refine hw_get S0 hK hg h0 rfl inMM 5 (by decide) lf_MM_16 rfl rfl dMM_fits_76 ?_
              refine lv_iload S0.1 S0.2.1 dMM_fits_79 (lv_at hl 4 rfl) ?_
              refine lv_iload S0.1 S0.2.1 dMM_fits_81 (lv_at hl 7 rfl) ?_
              refine lv_iadd S0.1 S0.2.1 dMM_fits_83 ?_
              refine hw_top (nI (u.1 + k)) (nI_add _ _) ?_
              refine hw_iald S0 hK hg hx 0 rfl (by omega) (by omega) dMM_fits_84 ?_
              refine lv_icmp_ne (tgt := 92) S0.1 S0.2.1 dMM_fits_85 (by decide) (fun c_85 => ?_) (fun c_85 => ?_)
              · skip
                rw [show (60 * r) + p + k = 60 * r + (p + k) by omega, hz (p + k) (by omega), ea (u.1 + k) (by omega)] at c_85
                refine lv_iconst (v := nI 0) S0.1 S0.2.1 dMM_fits_92 (by decide) ?_
                refine lv_istore (lv' := [(6, .int (nI 0)), (0, .ref mm), (1, .int (nI h)), (2, .int (nI r)), (3, .int (nI p)), (4, .int (nI u.1)), (5, .int (nI u.2.1)), (7, .int (nI k))]) S0.1 S0.2.1 dMM_fits_93 hl (by decide) rfl (fun ls hl => ?_)
                refine lv_iinc (v := nI (k + 1)) (lv' := [(7, .int (nI (k + 1))), (6, .int (nI 0)), (0, .ref mm), (1, .int (nI h)), (2, .int (nI r)), (3, .int (nI p)), (4, .int (nI u.1)), (5, .int (nI u.2.1))]) S0.1 S0.2.1 dMM_fits_95 hl (k := 7) rfl (by exact nI_add _ 1) (by decide) rfl (fun ls hl => ?_)
                refine lv_goto (tgt := 49) S0.1 S0.2.1 dMM_fits_98 (by decide) ?_
                exact ih_49 (k + 1) 0 _ _ _ (by omega) (by omega) (by omega) (fun h9 => by omega) (fun _ hf => c_85 ((fitB_iff.mp hf).2.1 k (by omega))) hg hS (lv_sub hl [2, 3, 4, 5, 6, 7, 1, 0] rfl)
              · skip
                rw [show (60 * r) + p + k = 60 * r + (p + k) by omega, hz (p + k) (by omega), ea (u.1 + k) (by omega)] at c_85
                refine lv_iconst (v := nI 1) S0.1 S0.2.1 dMM_fits_88 (by decide) ?_
                refine lv_goto (tgt := 93) S0.1 S0.2.1 dMM_fits_89 (by decide) ?_
                refine lv_istore (lv' := [(6, .int (nI 1)), (0, .ref mm), (1, .int (nI h)), (2, .int (nI r)), (3, .int (nI p)), (4, .int (nI u.1)), (5, .int (nI u.2.1)), (7, .int (nI k))]) S0.1 S0.2.1 dMM_fits_93 hl (by decide) rfl (fun ls hl => ?_)
                refine lv_iinc (v := nI (k + 1)) (lv' := [(7, .int (nI (k + 1))), (6, .int (nI 1)), (0, .ref mm), (1, .int (nI h)), (2, .int (nI r)), (3, .int (nI p)), (4, .int (nI u.1)), (5, .int (nI u.2.1))]) S0.1 S0.2.1 dMM_fits_95 hl (k := 7) rfl (by exact nI_add _ 1) (by decide) rfl (fun ls hl => ?_)
                refine lv_goto (tgt := 49) S0.1 S0.2.1 dMM_fits_98 (by decide) ?_
                exact ih_49 (k + 1) 1 _ _ _ (by omega) (by omega) (by omega) (fun _ => ⟨hple, fun x h9 => by rcases Nat.lt_or_ge x k with h8 | h8; exact hall x h8; rw [show x = k by omega]; exact c_85⟩) (fun h9 => by omega) hg hS (lv_sub hl [2, 3, 4, 5, 6, 7, 1, 0] rfl)
      exact loop_49 _ 0 0 _ _ _ (Nat.lt_succ_self _) (Nat.zero_le _) (by omega) (fun h => by omega) (fun _ hf => by have := (fitB_iff.mp hf).1; omega) hg hS (lv_sub hl [4, 5, 6, 7, 3, 2, 1, 0] rfl)
    · skip
      have c_36 : ¬ (c.length < (p + u.2.1)) := fun h => c_36 ((nI_ltI (by omega) (by omega)).mpr h)
      refine lv_iconst (v := nI 1) S0.1 S0.2.1 dMM_fits_39 (by decide) ?_
      refine lv_goto (tgt := 44) S0.1 S0.2.1 dMM_fits_40 (by decide) ?_
      refine lv_istore (lv' := [(6, .int (nI 1)), (5, .int (nI u.2.1)), (4, .int (nI u.1)), (0, .ref mm), (1, .int (nI h)), (2, .int (nI r)), (3, .int (nI p))]) S0.1 S0.2.1 dMM_fits_44 hl (by decide) rfl (fun ls hl => ?_)
      refine lv_iconst (v := nI 0) S0.1 S0.2.1 dMM_fits_46 (by decide) ?_
      refine lv_istore (lv' := [(7, .int (nI 0)), (6, .int (nI 1)), (5, .int (nI u.2.1)), (4, .int (nI u.1)), (0, .ref mm), (1, .int (nI h)), (2, .int (nI r)), (3, .int (nI p))]) S0.1 S0.2.1 dMM_fits_47 hl (by decide) rfl (fun ls hl => ?_)
      have loop_49 : ∀ (n_49 : Nat) (k : Nat) (w : Nat) (H : Heap) (locs : List Loc) (ls : Array Slot), u.2.1 - k < n_49 → (k ≤ u.2.1) → (w < 2) → (w = 1 → p + u.2.1 ≤ c.length ∧ ∀ x, x < k → c.getD (p + x) 0 = a.getD (u.1 + x) 0) → (w = 0 → ¬ fitB a u.1 u.2.1 c p = true) → hw D hC AX g H → va_S AX sX.heap H locs → lv_has ls 8 [(0, .ref mm), (1, .int (nI h)), (2, .int (nI r)), (3, .int (nI p)), (4, .int (nI u.1)), (5, .int (nI u.2.1)), (6, .int (nI w)), (7, .int (nI k))] → W pX l eX RX sX mX argsX belowX methX cX H locs 0 0 QX (F0 mX 49 ls []) := by
        intro n_49
        induction n_49 with
        | zero => intros; omega
        | succ n_49 ih_49 =>
          intro k w H locs ls hm_49 hk hw1 hw2 hw3 hg hS hl
          refine lv_iload S0.1 S0.2.1 dMM_fits_49 (lv_at hl 7 rfl) ?_
          refine lv_iload S0.1 S0.2.1 dMM_fits_51 (lv_at hl 5 rfl) ?_
          refine lv_icmp_ge (tgt := 101) S0.1 S0.2.1 dMM_fits_53 (by decide) (fun c_53 => ?_) (fun c_53 => ?_)
          · skip
            have c_53 : u.2.1 ≤ k := (nI_leI (by omega) (by omega)).mp c_53
            refine lv_iload S0.1 S0.2.1 dMM_fits_101 (lv_at hl 6 rfl) ?_
            refine lv_if_eq (tgt := 152) S0.1 S0.2.1 dMM_fits_103 (by decide) (fun c_103 => ?_) (fun c_103 => ?_)
            · skip
              rw [← nI_0] at c_103
              have c_103 : w = 0 := (nI_eq (by omega) (by omega)).mp c_103
              refine lv_iconst (v := nI 0) S0.1 S0.2.1 dMM_fits_152 (by decide) ?_
              refine lv_istore (lv' := [(6, .int (nI 0)), (0, .ref mm), (1, .int (nI h)), (2, .int (nI r)), (3, .int (nI p)), (4, .int (nI u.1)), (5, .int (nI u.2.1)), (7, .int (nI k))]) S0.1 S0.2.1 dMM_fits_153 hl (by decide) rfl (fun ls hl => ?_)
              refine lv_iload S0.1 S0.2.1 dMM_fits_155 (lv_at hl 0 rfl) ?_
              refine lv_if_eq (tgt := 216) S0.1 S0.2.1 dMM_fits_157 (by decide) (fun c_157 => ?_) (fun c_157 => ?_)
              · skip
                rw [← nI_0] at c_157
                have c_157 : 0 = 0 := (nI_eq (by omega) (by omega)).mp c_157
                refine lv_iconst (v := nI 0) S0.1 S0.2.1 dMM_fits_216 (by decide) ?_
                exact hend _ _ _ _ _ _ _ _ (by decide) (by decide) rfl (⟨rfl, Or.inr ⟨rfl, hw3 (by omega)⟩⟩) hg hS dMM_fits_217
              · skip
                rw [← nI_0] at c_157
                have c_157 : ¬ (0 = 0) := fun h => c_157 ((nI_eq (by omega) (by omega)).mpr h)
                exact absurd c_157 (by decide)
            · skip
              rw [← nI_0] at c_103
              have c_103 : ¬ (w = 0) := fun h => c_103 ((nI_eq (by omega) (by omega)).mpr h)
              obtain ⟨hple, hall⟩ := hw2 (by omega)
              have hall : ∀ x, x < u.2.1 → c.getD (p + x) 0 = a.getD (u.1 + x) 0 := fun x h9 => hall x (by omega)
              refine lv_iload S0.1 S0.2.1 dMM_fits_106 (lv_at hl 4 rfl) ?_
              refine lv_if_eq (tgt := 148) S0.1 S0.2.1 dMM_fits_108 (by decide) (fun c_108 => ?_) (fun c_108 => ?_)
              · skip
                rw [← nI_0] at c_108
                have c_108 : u.1 = 0 := (nI_eq (by omega) (by omega)).mp c_108
                have hah : u.1 = 0 ∨ (0 < p ∧ c.getD (p - 1) 0 = a.getD (u.1 - 1) 0) := Or.inl c_108
                refine lv_iconst (v := nI 1) S0.1 S0.2.1 dMM_fits_148 (by decide) ?_
                refine lv_goto (tgt := 153) S0.1 S0.2.1 dMM_fits_149 (by decide) ?_
                refine lv_istore (lv' := [(6, .int (nI 1)), (0, .ref mm), (1, .int (nI h)), (2, .int (nI r)), (3, .int (nI p)), (4, .int (nI u.1)), (5, .int (nI u.2.1)), (7, .int (nI k))]) S0.1 S0.2.1 dMM_fits_153 hl (by decide) rfl (fun ls hl => ?_)
                refine lv_iload S0.1 S0.2.1 dMM_fits_155 (lv_at hl 0 rfl) ?_
                refine lv_if_eq (tgt := 216) S0.1 S0.2.1 dMM_fits_157 (by decide) (fun c_157 => ?_) (fun c_157 => ?_)
                · skip
                  rw [← nI_0] at c_157
                  have c_157 : 1 = 0 := (nI_eq (by omega) (by omega)).mp c_157
                  exact absurd c_157 (by decide)
                · skip
                  rw [← nI_0] at c_157
                  have c_157 : ¬ (1 = 0) := fun h => c_157 ((nI_eq (by omega) (by omega)).mpr h)
                  refine lv_iload S0.1 S0.2.1 dMM_fits_160 (lv_at hl 5 rfl) ?_
                  refine lv_iload S0.1 S0.2.1 dMM_fits_162 (lv_at hl 6 rfl) ?_
                  refine lv_iadd S0.1 S0.2.1 dMM_fits_164 ?_
                  refine hw_top (nI (u.1 + u.2.1)) (nI_add _ _) ?_
                  refine lv_aload_n S0.1 S0.2.1 dMM_fits_165 rfl (lv_at hl 1 rfl) ?_
                  refine hw_get S0 hK hg h0 rfl inMM 3 (by decide) lf_MM_76 rfl rfl dMM_fits_166 ?_
                  refine lv_icmp_eq (tgt := 212) S0.1 S0.2.1 dMM_fits_169 (by decide) (fun c_169 => ?_) (fun c_169 => ?_)
                  · skip
                    have c_169 : (u.1 + u.2.1) = a.length := (nI_eq (by omega) (by omega)).mp c_169
                    refine lv_iconst (v := nI 1) S0.1 S0.2.1 dMM_fits_212 (by decide) ?_
                    refine lv_goto (tgt := 217) S0.1 S0.2.1 dMM_fits_213 (by decide) ?_
                    exact hend _ _ _ _ _ _ _ _ (by decide) (by decide) rfl (⟨rfl, Or.inl ⟨rfl, fitB_iff.mpr ⟨hple, hall, hah, Or.inl c_169⟩⟩⟩) hg hS dMM_fits_217
                  · skip
                    have c_169 : ¬ ((u.1 + u.2.1) = a.length) := fun h => c_169 ((nI_eq (by omega) (by omega)).mpr h)
                    refine lv_iload_n S0.1 S0.2.1 dMM_fits_172 rfl (lv_at hl 4 rfl) ?_
                    refine lv_iload S0.1 S0.2.1 dMM_fits_173 (lv_at hl 6 rfl) ?_
                    refine lv_iadd S0.1 S0.2.1 dMM_fits_175 ?_
                    refine hw_top (nI (p + u.2.1)) (nI_add _ _) ?_
                    refine lv_aload_n S0.1 S0.2.1 dMM_fits_176 rfl (lv_at hl 1 rfl) ?_
                    refine hw_get S0 hK hg h0 rfl inMM 1 (by decide) lf_MM_7 rfl rfl dMM_fits_177 ?_
                    refine lv_iload_n S0.1 S0.2.1 dMM_fits_180 rfl (lv_at hl 3 rfl) ?_
                    refine hw_iald S0 hK hg hsizes 0 rfl (by omega) (by omega) dMM_fits_181 ?_
                    refine hw_top (nI c.length) hsz ?_
                    refine lv_icmp_ge (tgt := 216) S0.1 S0.2.1 dMM_fits_182 (by decide) (fun c_182 => ?_) (fun c_182 => ?_)
                    · skip
                      have c_182 : c.length ≤ (p + u.2.1) := (nI_leI (by omega) (by omega)).mp c_182
                      refine lv_iconst (v := nI 0) S0.1 S0.2.1 dMM_fits_216 (by decide) ?_
                      exact hend _ _ _ _ _ _ _ _ (by decide) (by decide) rfl (⟨rfl, Or.inr ⟨rfl, fun hf => by rcases (fitB_iff.mp hf).2.2.2 with h9 | h9 <;> omega⟩⟩) hg hS dMM_fits_217
                    · skip
                      have c_182 : ¬ (c.length ≤ (p + u.2.1)) := fun h => c_182 ((nI_leI (by omega) (by omega)).mpr h)
                      refine lv_aload_n S0.1 S0.2.1 dMM_fits_185 rfl (lv_at hl 1 rfl) ?_
                      refine hw_get S0 hK hg h0 rfl inMM 2 (by decide) lf_MM_13 rfl rfl dMM_fits_186 ?_
                      refine lv_bipush (v := nI 60) S0.1 S0.2.1 dMM_fits_189 (by decide) ?_
                      refine lv_iload_n S0.1 S0.2.1 dMM_fits_191 rfl (lv_at hl 3 rfl) ?_
                      refine lv_imul S0.1 S0.2.1 dMM_fits_192 ?_
                      refine hw_top (nI (60 * r)) (pk_mul _ _) ?_
                      refine lv_iload_n S0.1 S0.2.1 dMM_fits_193 rfl (lv_at hl 4 rfl) ?_
                      refine lv_iadd S0.1 S0.2.1 dMM_fits_194 ?_
                      refine hw_top (nI ((60 * r) + p)) (nI_add _ _) ?_
                      refine lv_iload S0.1 S0.2.1 dMM_fits_195 (lv_at hl 6 rfl) ?_
                      refine lv_iadd S0.1 S0.2.1 dMM_fits_197 ?_
                      refine hw_top (nI (((60 * r) + p) + u.2.1)) (nI_add _ _) ?_
                      refine hw_iald S0 hK hg hlines 0 rfl (by omega) (by omega) dMM_fits_198 ?_
                      refine lv_aload_n S0.1 S0.2.1 dMM_fits_199 rfl (lv_at hl 1 rfl) ?_
                      refine hw_get S0 hK hg h0 rfl inMM 5 (by decide) lf_MM_16 rfl rfl dMM_fits_200 ?_
                      refine lv_iload S0.1 S0.2.1 dMM_fits_203 (lv_at hl 5 rfl) ?_
                      refine lv_iload S0.1 S0.2.1 dMM_fits_205 (lv_at hl 6 rfl) ?_
                      refine lv_iadd S0.1 S0.2.1 dMM_fits_207 ?_
                      refine hw_top (nI (u.1 + u.2.1)) (nI_add _ _) ?_
                      refine hw_iald S0 hK hg hx 0 rfl (by omega) (by omega) dMM_fits_208 ?_
                      refine lv_icmp_ne (tgt := 216) S0.1 S0.2.1 dMM_fits_209 (by decide) (fun c_209 => ?_) (fun c_209 => ?_)
                      · skip
                        rw [show (60 * r) + p + u.2.1 = 60 * r + (p + u.2.1) by omega, hz (p + u.2.1) (by omega), ea (u.1 + u.2.1) (by omega)] at c_209
                        refine lv_iconst (v := nI 0) S0.1 S0.2.1 dMM_fits_216 (by decide) ?_
                        exact hend _ _ _ _ _ _ _ _ (by decide) (by decide) rfl (⟨rfl, Or.inr ⟨rfl, fun hf => by rcases (fitB_iff.mp hf).2.2.2 with h9 | h9; exact c_169 h9; exact c_209 h9.2⟩⟩) hg hS dMM_fits_217
                      · skip
                        rw [show (60 * r) + p + u.2.1 = 60 * r + (p + u.2.1) by omega, hz (p + u.2.1) (by omega), ea (u.1 + u.2.1) (by omega)] at c_209
                        refine lv_iconst (v := nI 1) S0.1 S0.2.1 dMM_fits_212 (by decide) ?_
                        refine lv_goto (tgt := 217) S0.1 S0.2.1 dMM_fits_213 (by decide) ?_
                        exact hend _ _ _ _ _ _ _ _ (by decide) (by decide) rfl (⟨rfl, Or.inl ⟨rfl, fitB_iff.mpr ⟨hple, hall, hah, Or.inr ⟨by omega, c_209⟩⟩⟩⟩) hg hS dMM_fits_217
              · skip
                rw [← nI_0] at c_108
                have c_108 : ¬ (u.1 = 0) := fun h => c_108 ((nI_eq (by omega) (by omega)).mpr h)
                refine lv_iload_n S0.1 S0.2.1 dMM_fits_111 rfl (lv_at hl 3 rfl) ?_
                refine lv_if_le (tgt := 152) S0.1 S0.2.1 dMM_fits_112 (by decide) (fun c_112 => ?_) (fun c_112 => ?_)
                · skip
                  rw [← nI_0] at c_112
                  have c_112 : p ≤ 0 := (nI_leI (by omega) (by omega)).mp c_112
                  refine lv_iconst (v := nI 0) S0.1 S0.2.1 dMM_fits_152 (by decide) ?_
                  refine lv_istore (lv' := [(6, .int (nI 0)), (0, .ref mm), (1, .int (nI h)), (2, .int (nI r)), (3, .int (nI p)), (4, .int (nI u.1)), (5, .int (nI u.2.1)), (7, .int (nI k))]) S0.1 S0.2.1 dMM_fits_153 hl (by decide) rfl (fun ls hl => ?_)
                  refine lv_iload S0.1 S0.2.1 dMM_fits_155 (lv_at hl 0 rfl) ?_
                  refine lv_if_eq (tgt := 216) S0.1 S0.2.1 dMM_fits_157 (by decide) (fun c_157 => ?_) (fun c_157 => ?_)
                  · skip
                    rw [← nI_0] at c_157
                    have c_157 : 0 = 0 := (nI_eq (by omega) (by omega)).mp c_157
                    refine lv_iconst (v := nI 0) S0.1 S0.2.1 dMM_fits_216 (by decide) ?_
                    exact hend _ _ _ _ _ _ _ _ (by decide) (by decide) rfl (⟨rfl, Or.inr ⟨rfl, fun hf => by rcases (fitB_iff.mp hf).2.2.1 with h9 | h9 <;> omega⟩⟩) hg hS dMM_fits_217
                  · skip
                    rw [← nI_0] at c_157
                    have c_157 : ¬ (0 = 0) := fun h => c_157 ((nI_eq (by omega) (by omega)).mpr h)
                    exact absurd c_157 (by decide)
                · skip
                  rw [← nI_0] at c_112
                  have c_112 : ¬ (p ≤ 0) := fun h => c_112 ((nI_leI (by omega) (by omega)).mpr h)
                  refine lv_aload_n S0.1 S0.2.1 dMM_fits_115 rfl (lv_at hl 0 rfl) ?_
                  refine hw_get S0 hK hg h0 rfl inMM 2 (by decide) lf_MM_13 rfl rfl dMM_fits_116 ?_
                  refine lv_bipush (v := nI 60) S0.1 S0.2.1 dMM_fits_119 (by decide) ?_
                  refine lv_iload_n S0.1 S0.2.1 dMM_fits_121 rfl (lv_at hl 2 rfl) ?_
                  refine lv_imul S0.1 S0.2.1 dMM_fits_122 ?_
                  refine hw_top (nI (60 * r)) (pk_mul _ _) ?_
                  refine lv_iload_n S0.1 S0.2.1 dMM_fits_123 rfl (lv_at hl 3 rfl) ?_
                  refine lv_if_le (tgt := 131) S0.1 S0.2.1 dMM_fits_124 (by decide) (fun c_124 => ?_) (fun c_124 => ?_)
                  · skip
                    rw [← nI_0] at c_124
                    have c_124 : p ≤ 0 := (nI_leI (by omega) (by omega)).mp c_124
                    omega
                  · skip
                    rw [← nI_0] at c_124
                    have c_124 : ¬ (p ≤ 0) := fun h => c_124 ((nI_leI (by omega) (by omega)).mpr h)
                    refine lv_iload_n S0.1 S0.2.1 dMM_fits_127 rfl (lv_at hl 3 rfl) ?_
                    refine lv_goto (tgt := 132) S0.1 S0.2.1 dMM_fits_128 (by decide) ?_
                    refine lv_iadd S0.1 S0.2.1 dMM_fits_132 ?_
                    refine hw_top (nI ((60 * r) + p)) (nI_add _ _) ?_
                    refine lv_iconst (v := nI 1) S0.1 S0.2.1 dMM_fits_133 (by decide) ?_
                    refine lv_isub S0.1 S0.2.1 dMM_fits_134 ?_
                    refine hw_top (nI (((60 * r) + p) - 1)) (pk_sub (by omega)) ?_
                    refine hw_iald S0 hK hg hlines 0 rfl (by omega) (by omega) dMM_fits_135 ?_
                    refine lv_aload_n S0.1 S0.2.1 dMM_fits_136 rfl (lv_at hl 0 rfl) ?_
                    refine hw_get S0 hK hg h0 rfl inMM 5 (by decide) lf_MM_16 rfl rfl dMM_fits_137 ?_
                    refine lv_iload S0.1 S0.2.1 dMM_fits_140 (lv_at hl 4 rfl) ?_
                    refine lv_iconst (v := nI 1) S0.1 S0.2.1 dMM_fits_142 (by decide) ?_
                    refine lv_isub S0.1 S0.2.1 dMM_fits_143 ?_
                    refine hw_top (nI (u.1 - 1)) (pk_sub (by omega)) ?_
                    refine hw_iald S0 hK hg hx 0 rfl (by omega) (by omega) dMM_fits_144 ?_
                    refine lv_icmp_ne (tgt := 152) S0.1 S0.2.1 dMM_fits_145 (by decide) (fun c_145 => ?_) (fun c_145 => ?_)
                    · skip
                      rw [show (60 * r) + p - 1 = 60 * r + (p - 1) by omega, hz (p - 1) (by omega), ea (u.1 - 1) (by omega)] at c_145
                      refine lv_iconst (v := nI 0) S0.1 S0.2.1 dMM_fits_152 (by decide) ?_
                      refine lv_istore (lv' := [(6, .int (nI 0)), (0, .ref mm), (1, .int (nI h)), (2, .int (nI r)), (3, .int (nI p)), (4, .int (nI u.1)), (5, .int (nI u.2.1)), (7, .int (nI k))]) S0.1 S0.2.1 dMM_fits_153 hl (by decide) rfl (fun ls hl => ?_)
                      refine lv_iload S0.1 S0.2.1 dMM_fits_155 (lv_at hl 0 rfl) ?_
                      refine lv_if_eq (tgt := 216) S0.1 S0.2.1 dMM_fits_157 (by decide) (fun c_157 => ?_) (fun c_157 => ?_)
                      · skip
                        rw [← nI_0] at c_157
                        have c_157 : 0 = 0 := (nI_eq (by omega) (by omega)).mp c_157
                        refine lv_iconst (v := nI 0) S0.1 S0.2.1 dMM_fits_216 (by decide) ?_
                        exact hend _ _ _ _ _ _ _ _ (by decide) (by decide) rfl (⟨rfl, Or.inr ⟨rfl, fun hf => by rcases (fitB_iff.mp hf).2.2.1 with h9 | h9; omega; exact c_145 h9.2⟩⟩) hg hS dMM_fits_217
                      · skip
                        rw [← nI_0] at c_157
                        have c_157 : ¬ (0 = 0) := fun h => c_157 ((nI_eq (by omega) (by omega)).mpr h)
                        exact absurd c_157 (by decide)
                    · skip
                      rw [show (60 * r) + p - 1 = 60 * r + (p - 1) by omega, hz (p - 1) (by omega), ea (u.1 - 1) (by omega)] at c_145
                      have hah : u.1 = 0 ∨ (0 < p ∧ c.getD (p - 1) 0 = a.getD (u.1 - 1) 0) := Or.inr ⟨by omega, c_145⟩
                      refine lv_iconst (v := nI 1) S0.1 S0.2.1 dMM_fits_148 (by decide) ?_
                      refine lv_goto (tgt := 153) S0.1 S0.2.1 dMM_fits_149 (by decide) ?_
                      refine lv_istore (lv' := [(6, .int (nI 1)), (0, .ref mm), (1, .int (nI h)), (2, .int (nI r)), (3, .int (nI p)), (4, .int (nI u.1)), (5, .int (nI u.2.1)), (7, .int (nI k))]) S0.1 S0.2.1 dMM_fits_153 hl (by decide) rfl (fun ls hl => ?_)
                      refine lv_iload S0.1 S0.2.1 dMM_fits_155 (lv_at hl 0 rfl) ?_
                      refine lv_if_eq (tgt := 216) S0.1 S0.2.1 dMM_fits_157 (by decide) (fun c_157 => ?_) (fun c_157 => ?_)
                      · skip
                        rw [← nI_0] at c_157
                        have c_157 : 1 = 0 := (nI_eq (by omega) (by omega)).mp c_157
                        exact absurd c_157 (by decide)
                      · skip
                        rw [← nI_0] at c_157
                        have c_157 : ¬ (1 = 0) := fun h => c_157 ((nI_eq (by omega) (by omega)).mpr h)
                        refine lv_iload S0.1 S0.2.1 dMM_fits_160 (lv_at hl 5 rfl) ?_
                        refine lv_iload S0.1 S0.2.1 dMM_fits_162 (lv_at hl 6 rfl) ?_
                        refine lv_iadd S0.1 S0.2.1 dMM_fits_164 ?_
                        refine hw_top (nI (u.1 + u.2.1)) (nI_add _ _) ?_
                        refine lv_aload_n S0.1 S0.2.1 dMM_fits_165 rfl (lv_at hl 1 rfl) ?_
                        refine hw_get S0 hK hg h0 rfl inMM 3 (by decide) lf_MM_76 rfl rfl dMM_fits_166 ?_
                        refine lv_icmp_eq (tgt := 212) S0.1 S0.2.1 dMM_fits_169 (by decide) (fun c_169 => ?_) (fun c_169 => ?_)
                        · skip
                          have c_169 : (u.1 + u.2.1) = a.length := (nI_eq (by omega) (by omega)).mp c_169
                          refine lv_iconst (v := nI 1) S0.1 S0.2.1 dMM_fits_212 (by decide) ?_
                          refine lv_goto (tgt := 217) S0.1 S0.2.1 dMM_fits_213 (by decide) ?_
                          exact hend _ _ _ _ _ _ _ _ (by decide) (by decide) rfl (⟨rfl, Or.inl ⟨rfl, fitB_iff.mpr ⟨hple, hall, hah, Or.inl c_169⟩⟩⟩) hg hS dMM_fits_217
                        · skip
                          have c_169 : ¬ ((u.1 + u.2.1) = a.length) := fun h => c_169 ((nI_eq (by omega) (by omega)).mpr h)
                          refine lv_iload_n S0.1 S0.2.1 dMM_fits_172 rfl (lv_at hl 4 rfl) ?_
                          refine lv_iload S0.1 S0.2.1 dMM_fits_173 (lv_at hl 6 rfl) ?_
                          refine lv_iadd S0.1 S0.2.1 dMM_fits_175 ?_
                          refine hw_top (nI (p + u.2.1)) (nI_add _ _) ?_
                          refine lv_aload_n S0.1 S0.2.1 dMM_fits_176 rfl (lv_at hl 1 rfl) ?_
                          refine hw_get S0 hK hg h0 rfl inMM 1 (by decide) lf_MM_7 rfl rfl dMM_fits_177 ?_
                          refine lv_iload_n S0.1 S0.2.1 dMM_fits_180 rfl (lv_at hl 3 rfl) ?_
                          refine hw_iald S0 hK hg hsizes 0 rfl (by omega) (by omega) dMM_fits_181 ?_
                          refine hw_top (nI c.length) hsz ?_
                          refine lv_icmp_ge (tgt := 216) S0.1 S0.2.1 dMM_fits_182 (by decide) (fun c_182 => ?_) (fun c_182 => ?_)
                          · skip
                            have c_182 : c.length ≤ (p + u.2.1) := (nI_leI (by omega) (by omega)).mp c_182
                            refine lv_iconst (v := nI 0) S0.1 S0.2.1 dMM_fits_216 (by decide) ?_
                            exact hend _ _ _ _ _ _ _ _ (by decide) (by decide) rfl (⟨rfl, Or.inr ⟨rfl, fun hf => by rcases (fitB_iff.mp hf).2.2.2 with h9 | h9 <;> omega⟩⟩) hg hS dMM_fits_217
                          · skip
                            have c_182 : ¬ (c.length ≤ (p + u.2.1)) := fun h => c_182 ((nI_leI (by omega) (by omega)).mpr h)
                            refine lv_aload_n S0.1 S0.2.1 dMM_fits_185 rfl (lv_at hl 1 rfl) ?_
                            refine hw_get S0 hK hg h0 rfl inMM 2 (by decide) lf_MM_13 rfl rfl dMM_fits_186 ?_
                            refine lv_bipush (v := nI 60) S0.1 S0.2.1 dMM_fits_189 (by decide) ?_
                            refine lv_iload_n S0.1 S0.2.1 dMM_fits_191 rfl (lv_at hl 3 rfl) ?_
                            refine lv_imul S0.1 S0.2.1 dMM_fits_192 ?_
                            refine hw_top (nI (60 * r)) (pk_mul _ _) ?_
                            refine lv_iload_n S0.1 S0.2.1 dMM_fits_193 rfl (lv_at hl 4 rfl) ?_
                            refine lv_iadd S0.1 S0.2.1 dMM_fits_194 ?_
                            refine hw_top (nI ((60 * r) + p)) (nI_add _ _) ?_
                            refine lv_iload S0.1 S0.2.1 dMM_fits_195 (lv_at hl 6 rfl) ?_
                            refine lv_iadd S0.1 S0.2.1 dMM_fits_197 ?_
                            refine hw_top (nI (((60 * r) + p) + u.2.1)) (nI_add _ _) ?_
                            refine hw_iald S0 hK hg hlines 0 rfl (by omega) (by omega) dMM_fits_198 ?_
                            refine lv_aload_n S0.1 S0.2.1 dMM_fits_199 rfl (lv_at hl 1 rfl) ?_
                            refine hw_get S0 hK hg h0 rfl inMM 5 (by decide) lf_MM_16 rfl rfl dMM_fits_200 ?_
                            refine lv_iload S0.1 S0.2.1 dMM_fits_203 (lv_at hl 5 rfl) ?_
                            refine lv_iload S0.1 S0.2.1 dMM_fits_205 (lv_at hl 6 rfl) ?_
                            refine lv_iadd S0.1 S0.2.1 dMM_fits_207 ?_
                            refine hw_top (nI (u.1 + u.2.1)) (nI_add _ _) ?_
                            refine hw_iald S0 hK hg hx 0 rfl (by omega) (by omega) dMM_fits_208 ?_
                            refine lv_icmp_ne (tgt := 216) S0.1 S0.2.1 dMM_fits_209 (by decide) (fun c_209 => ?_) (fun c_209 => ?_)
                            · skip
                              rw [show (60 * r) + p + u.2.1 = 60 * r + (p + u.2.1) by omega, hz (p + u.2.1) (by omega), ea (u.1 + u.2.1) (by omega)] at c_209
                              refine lv_iconst (v := nI 0) S0.1 S0.2.1 dMM_fits_216 (by decide) ?_
                              exact hend _ _ _ _ _ _ _ _ (by decide) (by decide) rfl (⟨rfl, Or.inr ⟨rfl, fun hf => by rcases (fitB_iff.mp hf).2.2.2 with h9 | h9; exact c_169 h9; exact c_209 h9.2⟩⟩) hg hS dMM_fits_217
                            · skip
                              rw [show (60 * r) + p + u.2.1 = 60 * r + (p + u.2.1) by omega, hz (p + u.2.1) (by omega), ea (u.1 + u.2.1) (by omega)] at c_209
                              refine lv_iconst (v := nI 1) S0.1 S0.2.1 dMM_fits_212 (by decide) ?_
                              refine lv_goto (tgt := 217) S0.1 S0.2.1 dMM_fits_213 (by decide) ?_
                              exact hend _ _ _ _ _ _ _ _ (by decide) (by decide) rfl (⟨rfl, Or.inl ⟨rfl, fitB_iff.mpr ⟨hple, hall, hah, Or.inr ⟨by omega, c_209⟩⟩⟩⟩) hg hS dMM_fits_217
          · skip
            have c_53 : ¬ (u.2.1 ≤ k) := fun h => c_53 ((nI_leI (by omega) (by omega)).mpr h)
            refine lv_iload S0.1 S0.2.1 dMM_fits_56 (lv_at hl 6 rfl) ?_
            refine lv_if_eq (tgt := 101) S0.1 S0.2.1 dMM_fits_58 (by decide) (fun c_58 => ?_) (fun c_58 => ?_)
            · skip
              rw [← nI_0] at c_58
              have c_58 : w = 0 := (nI_eq (by omega) (by omega)).mp c_58
              refine lv_iload S0.1 S0.2.1 dMM_fits_101 (lv_at hl 6 rfl) ?_
              refine lv_if_eq (tgt := 152) S0.1 S0.2.1 dMM_fits_103 (by decide) (fun c_103 => ?_) (fun c_103 => ?_)
              · skip
                rw [← nI_0] at c_103
                have c_103 : w = 0 := (nI_eq (by omega) (by omega)).mp c_103
                refine lv_iconst (v := nI 0) S0.1 S0.2.1 dMM_fits_152 (by decide) ?_
                refine lv_istore (lv' := [(6, .int (nI 0)), (0, .ref mm), (1, .int (nI h)), (2, .int (nI r)), (3, .int (nI p)), (4, .int (nI u.1)), (5, .int (nI u.2.1)), (7, .int (nI k))]) S0.1 S0.2.1 dMM_fits_153 hl (by decide) rfl (fun ls hl => ?_)
                refine lv_iload S0.1 S0.2.1 dMM_fits_155 (lv_at hl 0 rfl) ?_
                refine lv_if_eq (tgt := 216) S0.1 S0.2.1 dMM_fits_157 (by decide) (fun c_157 => ?_) (fun c_157 => ?_)
                · skip
                  rw [← nI_0] at c_157
                  have c_157 : 0 = 0 := (nI_eq (by omega) (by omega)).mp c_157
                  refine lv_iconst (v := nI 0) S0.1 S0.2.1 dMM_fits_216 (by decide) ?_
                  exact hend _ _ _ _ _ _ _ _ (by decide) (by decide) rfl (⟨rfl, Or.inr ⟨rfl, hw3 (by omega)⟩⟩) hg hS dMM_fits_217
                · skip
                  rw [← nI_0] at c_157
                  have c_157 : ¬ (0 = 0) := fun h => c_157 ((nI_eq (by omega) (by omega)).mpr h)
                  exact absurd c_157 (by decide)
              · skip
                rw [← nI_0] at c_103
                have c_103 : ¬ (w = 0) := fun h => c_103 ((nI_eq (by omega) (by omega)).mpr h)
                obtain ⟨hple, hall⟩ := hw2 (by omega)
                have hall : ∀ x, x < u.2.1 → c.getD (p + x) 0 = a.getD (u.1 + x) 0 := fun x h9 => hall x (by omega)
                refine lv_iload S0.1 S0.2.1 dMM_fits_106 (lv_at hl 4 rfl) ?_
                refine lv_if_eq (tgt := 148) S0.1 S0.2.1 dMM_fits_108 (by decide) (fun c_108 => ?_) (fun c_108 => ?_)
                · skip
                  rw [← nI_0] at c_108
                  have c_108 : u.1 = 0 := (nI_eq (by omega) (by omega)).mp c_108
                  have hah : u.1 = 0 ∨ (0 < p ∧ c.getD (p - 1) 0 = a.getD (u.1 - 1) 0) := Or.inl c_108
                  refine lv_iconst (v := nI 1) S0.1 S0.2.1 dMM_fits_148 (by decide) ?_
                  refine lv_goto (tgt := 153) S0.1 S0.2.1 dMM_fits_149 (by decide) ?_
                  refine lv_istore (lv' := [(6, .int (nI 1)), (0, .ref mm), (1, .int (nI h)), (2, .int (nI r)), (3, .int (nI p)), (4, .int (nI u.1)), (5, .int (nI u.2.1)), (7, .int (nI k))]) S0.1 S0.2.1 dMM_fits_153 hl (by decide) rfl (fun ls hl => ?_)
                  refine lv_iload S0.1 S0.2.1 dMM_fits_155 (lv_at hl 0 rfl) ?_
                  refine lv_if_eq (tgt := 216) S0.1 S0.2.1 dMM_fits_157 (by decide) (fun c_157 => ?_) (fun c_157 => ?_)
                  · skip
                    rw [← nI_0] at c_157
                    have c_157 : 1 = 0 := (nI_eq (by omega) (by omega)).mp c_157
                    exact absurd c_157 (by decide)
                  · skip
                    rw [← nI_0] at c_157
                    have c_157 : ¬ (1 = 0) := fun h => c_157 ((nI_eq (by omega) (by omega)).mpr h)
                    refine lv_iload S0.1 S0.2.1 dMM_fits_160 (lv_at hl 5 rfl) ?_
                    refine lv_iload S0.1 S0.2.1 dMM_fits_162 (lv_at hl 6 rfl) ?_
                    refine lv_iadd S0.1 S0.2.1 dMM_fits_164 ?_
                    refine hw_top (nI (u.1 + u.2.1)) (nI_add _ _) ?_
                    refine lv_aload_n S0.1 S0.2.1 dMM_fits_165 rfl (lv_at hl 1 rfl) ?_
                    refine hw_get S0 hK hg h0 rfl inMM 3 (by decide) lf_MM_76 rfl rfl dMM_fits_166 ?_
                    refine lv_icmp_eq (tgt := 212) S0.1 S0.2.1 dMM_fits_169 (by decide) (fun c_169 => ?_) (fun c_169 => ?_)
                    · skip
                      have c_169 : (u.1 + u.2.1) = a.length := (nI_eq (by omega) (by omega)).mp c_169
                      refine lv_iconst (v := nI 1) S0.1 S0.2.1 dMM_fits_212 (by decide) ?_
                      refine lv_goto (tgt := 217) S0.1 S0.2.1 dMM_fits_213 (by decide) ?_
                      exact hend _ _ _ _ _ _ _ _ (by decide) (by decide) rfl (⟨rfl, Or.inl ⟨rfl, fitB_iff.mpr ⟨hple, hall, hah, Or.inl c_169⟩⟩⟩) hg hS dMM_fits_217
                    · skip
                      have c_169 : ¬ ((u.1 + u.2.1) = a.length) := fun h => c_169 ((nI_eq (by omega) (by omega)).mpr h)
                      refine lv_iload_n S0.1 S0.2.1 dMM_fits_172 rfl (lv_at hl 4 rfl) ?_
                      refine lv_iload S0.1 S0.2.1 dMM_fits_173 (lv_at hl 6 rfl) ?_
                      refine lv_iadd S0.1 S0.2.1 dMM_fits_175 ?_
                      refine hw_top (nI (p + u.2.1)) (nI_add _ _) ?_
                      refine lv_aload_n S0.1 S0.2.1 dMM_fits_176 rfl (lv_at hl 1 rfl) ?_
                      refine hw_get S0 hK hg h0 rfl inMM 1 (by decide) lf_MM_7 rfl rfl dMM_fits_177 ?_
                      refine lv_iload_n S0.1 S0.2.1 dMM_fits_180 rfl (lv_at hl 3 rfl) ?_
                      refine hw_iald S0 hK hg hsizes 0 rfl (by omega) (by omega) dMM_fits_181 ?_
                      refine hw_top (nI c.length) hsz ?_
                      refine lv_icmp_ge (tgt := 216) S0.1 S0.2.1 dMM_fits_182 (by decide) (fun c_182 => ?_) (fun c_182 => ?_)
                      · skip
                        have c_182 : c.length ≤ (p + u.2.1) := (nI_leI (by omega) (by omega)).mp c_182
                        refine lv_iconst (v := nI 0) S0.1 S0.2.1 dMM_fits_216 (by decide) ?_
                        exact hend _ _ _ _ _ _ _ _ (by decide) (by decide) rfl (⟨rfl, Or.inr ⟨rfl, fun hf => by rcases (fitB_iff.mp hf).2.2.2 with h9 | h9 <;> omega⟩⟩) hg hS dMM_fits_217
                      · skip
                        have c_182 : ¬ (c.length ≤ (p + u.2.1)) := fun h => c_182 ((nI_leI (by omega) (by omega)).mpr h)
                        refine lv_aload_n S0.1 S0.2.1 dMM_fits_185 rfl (lv_at hl 1 rfl) ?_
                        refine hw_get S0 hK hg h0 rfl inMM 2 (by decide) lf_MM_13 rfl rfl dMM_fits_186 ?_
                        refine lv_bipush (v := nI 60) S0.1 S0.2.1 dMM_fits_189 (by decide) ?_
                        refine lv_iload_n S0.1 S0.2.1 dMM_fits_191 rfl (lv_at hl 3 rfl) ?_
                        refine lv_imul S0.1 S0.2.1 dMM_fits_192 ?_
                        refine hw_top (nI (60 * r)) (pk_mul _ _) ?_
                        refine lv_iload_n S0.1 S0.2.1 dMM_fits_193 rfl (lv_at hl 4 rfl) ?_
                        refine lv_iadd S0.1 S0.2.1 dMM_fits_194 ?_
                        refine hw_top (nI ((60 * r) + p)) (nI_add _ _) ?_
                        refine lv_iload S0.1 S0.2.1 dMM_fits_195 (lv_at hl 6 rfl) ?_
                        refine lv_iadd S0.1 S0.2.1 dMM_fits_197 ?_
                        refine hw_top (nI (((60 * r) + p) + u.2.1)) (nI_add _ _) ?_
                        refine hw_iald S0 hK hg hlines 0 rfl (by omega) (by omega) dMM_fits_198 ?_
                        refine lv_aload_n S0.1 S0.2.1 dMM_fits_199 rfl (lv_at hl 1 rfl) ?_
                        refine hw_get S0 hK hg h0 rfl inMM 5 (by decide) lf_MM_16 rfl rfl dMM_fits_200 ?_
                        refine lv_iload S0.1 S0.2.1 dMM_fits_203 (lv_at hl 5 rfl) ?_
                        refine lv_iload S0.1 S0.2.1 dMM_fits_205 (lv_at hl 6 rfl) ?_
                        refine lv_iadd S0.1 S0.2.1 dMM_fits_207 ?_
                        refine hw_top (nI (u.1 + u.2.1)) (nI_add _ _) ?_
                        refine hw_iald S0 hK hg hx 0 rfl (by omega) (by omega) dMM_fits_208 ?_
                        refine lv_icmp_ne (tgt := 216) S0.1 S0.2.1 dMM_fits_209 (by decide) (fun c_209 => ?_) (fun c_209 => ?_)
                        · skip
                          rw [show (60 * r) + p + u.2.1 = 60 * r + (p + u.2.1) by omega, hz (p + u.2.1) (by omega), ea (u.1 + u.2.1) (by omega)] at c_209
                          refine lv_iconst (v := nI 0) S0.1 S0.2.1 dMM_fits_216 (by decide) ?_
                          exact hend _ _ _ _ _ _ _ _ (by decide) (by decide) rfl (⟨rfl, Or.inr ⟨rfl, fun hf => by rcases (fitB_iff.mp hf).2.2.2 with h9 | h9; exact c_169 h9; exact c_209 h9.2⟩⟩) hg hS dMM_fits_217
                        · skip
                          rw [show (60 * r) + p + u.2.1 = 60 * r + (p + u.2.1) by omega, hz (p + u.2.1) (by omega), ea (u.1 + u.2.1) (by omega)] at c_209
                          refine lv_iconst (v := nI 1) S0.1 S0.2.1 dMM_fits_212 (by decide) ?_
                          refine lv_goto (tgt := 217) S0.1 S0.2.1 dMM_fits_213 (by decide) ?_
                          exact hend _ _ _ _ _ _ _ _ (by decide) (by decide) rfl (⟨rfl, Or.inl ⟨rfl, fitB_iff.mpr ⟨hple, hall, hah, Or.inr ⟨by omega, c_209⟩⟩⟩⟩) hg hS dMM_fits_217
                · skip
                  rw [← nI_0] at c_108
                  have c_108 : ¬ (u.1 = 0) := fun h => c_108 ((nI_eq (by omega) (by omega)).mpr h)
                  refine lv_iload_n S0.1 S0.2.1 dMM_fits_111 rfl (lv_at hl 3 rfl) ?_
                  refine lv_if_le (tgt := 152) S0.1 S0.2.1 dMM_fits_112 (by decide) (fun c_112 => ?_) (fun c_112 => ?_)
                  · skip
                    rw [← nI_0] at c_112
                    have c_112 : p ≤ 0 := (nI_leI (by omega) (by omega)).mp c_112
                    refine lv_iconst (v := nI 0) S0.1 S0.2.1 dMM_fits_152 (by decide) ?_
                    refine lv_istore (lv' := [(6, .int (nI 0)), (0, .ref mm), (1, .int (nI h)), (2, .int (nI r)), (3, .int (nI p)), (4, .int (nI u.1)), (5, .int (nI u.2.1)), (7, .int (nI k))]) S0.1 S0.2.1 dMM_fits_153 hl (by decide) rfl (fun ls hl => ?_)
                    refine lv_iload S0.1 S0.2.1 dMM_fits_155 (lv_at hl 0 rfl) ?_
                    refine lv_if_eq (tgt := 216) S0.1 S0.2.1 dMM_fits_157 (by decide) (fun c_157 => ?_) (fun c_157 => ?_)
                    · skip
                      rw [← nI_0] at c_157
                      have c_157 : 0 = 0 := (nI_eq (by omega) (by omega)).mp c_157
                      refine lv_iconst (v := nI 0) S0.1 S0.2.1 dMM_fits_216 (by decide) ?_
                      exact hend _ _ _ _ _ _ _ _ (by decide) (by decide) rfl (⟨rfl, Or.inr ⟨rfl, fun hf => by rcases (fitB_iff.mp hf).2.2.1 with h9 | h9 <;> omega⟩⟩) hg hS dMM_fits_217
                    · skip
                      rw [← nI_0] at c_157
                      have c_157 : ¬ (0 = 0) := fun h => c_157 ((nI_eq (by omega) (by omega)).mpr h)
                      exact absurd c_157 (by decide)
                  · skip
                    rw [← nI_0] at c_112
                    have c_112 : ¬ (p ≤ 0) := fun h => c_112 ((nI_leI (by omega) (by omega)).mpr h)
                    refine lv_aload_n S0.1 S0.2.1 dMM_fits_115 rfl (lv_at hl 0 rfl) ?_
                    refine hw_get S0 hK hg h0 rfl inMM 2 (by decide) lf_MM_13 rfl rfl dMM_fits_116 ?_
                    refine lv_bipush (v := nI 60) S0.1 S0.2.1 dMM_fits_119 (by decide) ?_
                    refine lv_iload_n S0.1 S0.2.1 dMM_fits_121 rfl (lv_at hl 2 rfl) ?_
                    refine lv_imul S0.1 S0.2.1 dMM_fits_122 ?_
                    refine hw_top (nI (60 * r)) (pk_mul _ _) ?_
                    refine lv_iload_n S0.1 S0.2.1 dMM_fits_123 rfl (lv_at hl 3 rfl) ?_
                    refine lv_if_le (tgt := 131) S0.1 S0.2.1 dMM_fits_124 (by decide) (fun c_124 => ?_) (fun c_124 => ?_)
                    · skip
                      rw [← nI_0] at c_124
                      have c_124 : p ≤ 0 := (nI_leI (by omega) (by omega)).mp c_124
                      omega
                    · skip
                      rw [← nI_0] at c_124
                      have c_124 : ¬ (p ≤ 0) := fun h => c_124 ((nI_leI (by omega) (by omega)).mpr h)
                      refine lv_iload_n S0.1 S0.2.1 dMM_fits_127 rfl (lv_at hl 3 rfl) ?_
                      refine lv_goto (tgt := 132) S0.1 S0.2.1 dMM_fits_128 (by decide) ?_
                      refine lv_iadd S0.1 S0.2.1 dMM_fits_132 ?_
                      refine hw_top (nI ((60 * r) + p)) (nI_add _ _) ?_
                      refine lv_iconst (v := nI 1) S0.1 S0.2.1 dMM_fits_133 (by decide) ?_
                      refine lv_isub S0.1 S0.2.1 dMM_fits_134 ?_
                      refine hw_top (nI (((60 * r) + p) - 1)) (pk_sub (by omega)) ?_
                      refine hw_iald S0 hK hg hlines 0 rfl (by omega) (by omega) dMM_fits_135 ?_
                      refine lv_aload_n S0.1 S0.2.1 dMM_fits_136 rfl (lv_at hl 0 rfl) ?_
                      refine hw_get S0 hK hg h0 rfl inMM 5 (by decide) lf_MM_16 rfl rfl dMM_fits_137 ?_
                      refine lv_iload S0.1 S0.2.1 dMM_fits_140 (lv_at hl 4 rfl) ?_
                      refine lv_iconst (v := nI 1) S0.1 S0.2.1 dMM_fits_142 (by decide) ?_
                      refine lv_isub S0.1 S0.2.1 dMM_fits_143 ?_
                      refine hw_top (nI (u.1 - 1)) (pk_sub (by omega)) ?_
                      refine hw_iald S0 hK hg hx 0 rfl (by omega) (by omega) dMM_fits_144 ?_
                      refine lv_icmp_ne (tgt := 152) S0.1 S0.2.1 dMM_fits_145 (by decide) (fun c_145 => ?_) (fun c_145 => ?_)
                      · skip
                        rw [show (60 * r) + p - 1 = 60 * r + (p - 1) by omega, hz (p - 1) (by omega), ea (u.1 - 1) (by omega)] at c_145
                        refine lv_iconst (v := nI 0) S0.1 S0.2.1 dMM_fits_152 (by decide) ?_
                        refine lv_istore (lv' := [(6, .int (nI 0)), (0, .ref mm), (1, .int (nI h)), (2, .int (nI r)), (3, .int (nI p)), (4, .int (nI u.1)), (5, .int (nI u.2.1)), (7, .int (nI k))]) S0.1 S0.2.1 dMM_fits_153 hl (by decide) rfl (fun ls hl => ?_)
                        refine lv_iload S0.1 S0.2.1 dMM_fits_155 (lv_at hl 0 rfl) ?_
                        refine lv_if_eq (tgt := 216) S0.1 S0.2.1 dMM_fits_157 (by decide) (fun c_157 => ?_) (fun c_157 => ?_)
                        · skip
                          rw [← nI_0] at c_157
                          have c_157 : 0 = 0 := (nI_eq (by omega) (by omega)).mp c_157
                          refine lv_iconst (v := nI 0) S0.1 S0.2.1 dMM_fits_216 (by decide) ?_
                          exact hend _ _ _ _ _ _ _ _ (by decide) (by decide) rfl (⟨rfl, Or.inr ⟨rfl, fun hf => by rcases (fitB_iff.mp hf).2.2.1 with h9 | h9; omega; exact c_145 h9.2⟩⟩) hg hS dMM_fits_217
                        · skip
                          rw [← nI_0] at c_157
                          have c_157 : ¬ (0 = 0) := fun h => c_157 ((nI_eq (by omega) (by omega)).mpr h)
                          exact absurd c_157 (by decide)
                      · skip
                        rw [show (60 * r) + p - 1 = 60 * r + (p - 1) by omega, hz (p - 1) (by omega), ea (u.1 - 1) (by omega)] at c_145
                        have hah : u.1 = 0 ∨ (0 < p ∧ c.getD (p - 1) 0 = a.getD (u.1 - 1) 0) := Or.inr ⟨by omega, c_145⟩
                        refine lv_iconst (v := nI 1) S0.1 S0.2.1 dMM_fits_148 (by decide) ?_
                        refine lv_goto (tgt := 153) S0.1 S0.2.1 dMM_fits_149 (by decide) ?_
                        refine lv_istore (lv' := [(6, .int (nI 1)), (0, .ref mm), (1, .int (nI h)), (2, .int (nI r)), (3, .int (nI p)), (4, .int (nI u.1)), (5, .int (nI u.2.1)), (7, .int (nI k))]) S0.1 S0.2.1 dMM_fits_153 hl (by decide) rfl (fun ls hl => ?_)
                        refine lv_iload S0.1 S0.2.1 dMM_fits_155 (lv_at hl 0 rfl) ?_
                        refine lv_if_eq (tgt := 216) S0.1 S0.2.1 dMM_fits_157 (by decide) (fun c_157 => ?_) (fun c_157 => ?_)
                        · skip
                          rw [← nI_0] at c_157
                          have c_157 : 1 = 0 := (nI_eq (by omega) (by omega)).mp c_157
                          exact absurd c_157 (by decide)
                        · skip
                          rw [← nI_0] at c_157
                          have c_157 : ¬ (1 = 0) := fun h => c_157 ((nI_eq (by omega) (by omega)).mpr h)
                          refine lv_iload S0.1 S0.2.1 dMM_fits_160 (lv_at hl 5 rfl) ?_
                          refine lv_iload S0.1 S0.2.1 dMM_fits_162 (lv_at hl 6 rfl) ?_
                          refine lv_iadd S0.1 S0.2.1 dMM_fits_164 ?_
                          refine hw_top (nI (u.1 + u.2.1)) (nI_add _ _) ?_
                          refine lv_aload_n S0.1 S0.2.1 dMM_fits_165 rfl (lv_at hl 1 rfl) ?_
                          refine hw_get S0 hK hg h0 rfl inMM 3 (by decide) lf_MM_76 rfl rfl dMM_fits_166 ?_
                          refine lv_icmp_eq (tgt := 212) S0.1 S0.2.1 dMM_fits_169 (by decide) (fun c_169 => ?_) (fun c_169 => ?_)
                          · skip
                            have c_169 : (u.1 + u.2.1) = a.length := (nI_eq (by omega) (by omega)).mp c_169
                            refine lv_iconst (v := nI 1) S0.1 S0.2.1 dMM_fits_212 (by decide) ?_
                            refine lv_goto (tgt := 217) S0.1 S0.2.1 dMM_fits_213 (by decide) ?_
                            exact hend _ _ _ _ _ _ _ _ (by decide) (by decide) rfl (⟨rfl, Or.inl ⟨rfl, fitB_iff.mpr ⟨hple, hall, hah, Or.inl c_169⟩⟩⟩) hg hS dMM_fits_217
                          · skip
                            have c_169 : ¬ ((u.1 + u.2.1) = a.length) := fun h => c_169 ((nI_eq (by omega) (by omega)).mpr h)
                            refine lv_iload_n S0.1 S0.2.1 dMM_fits_172 rfl (lv_at hl 4 rfl) ?_
                            refine lv_iload S0.1 S0.2.1 dMM_fits_173 (lv_at hl 6 rfl) ?_
                            refine lv_iadd S0.1 S0.2.1 dMM_fits_175 ?_
                            refine hw_top (nI (p + u.2.1)) (nI_add _ _) ?_
                            refine lv_aload_n S0.1 S0.2.1 dMM_fits_176 rfl (lv_at hl 1 rfl) ?_
                            refine hw_get S0 hK hg h0 rfl inMM 1 (by decide) lf_MM_7 rfl rfl dMM_fits_177 ?_
                            refine lv_iload_n S0.1 S0.2.1 dMM_fits_180 rfl (lv_at hl 3 rfl) ?_
                            refine hw_iald S0 hK hg hsizes 0 rfl (by omega) (by omega) dMM_fits_181 ?_
                            refine hw_top (nI c.length) hsz ?_
                            refine lv_icmp_ge (tgt := 216) S0.1 S0.2.1 dMM_fits_182 (by decide) (fun c_182 => ?_) (fun c_182 => ?_)
                            · skip
                              have c_182 : c.length ≤ (p + u.2.1) := (nI_leI (by omega) (by omega)).mp c_182
                              refine lv_iconst (v := nI 0) S0.1 S0.2.1 dMM_fits_216 (by decide) ?_
                              exact hend _ _ _ _ _ _ _ _ (by decide) (by decide) rfl (⟨rfl, Or.inr ⟨rfl, fun hf => by rcases (fitB_iff.mp hf).2.2.2 with h9 | h9 <;> omega⟩⟩) hg hS dMM_fits_217
                            · skip
                              have c_182 : ¬ (c.length ≤ (p + u.2.1)) := fun h => c_182 ((nI_leI (by omega) (by omega)).mpr h)
                              refine lv_aload_n S0.1 S0.2.1 dMM_fits_185 rfl (lv_at hl 1 rfl) ?_
                              refine hw_get S0 hK hg h0 rfl inMM 2 (by decide) lf_MM_13 rfl rfl dMM_fits_186 ?_
                              refine lv_bipush (v := nI 60) S0.1 S0.2.1 dMM_fits_189 (by decide) ?_
                              refine lv_iload_n S0.1 S0.2.1 dMM_fits_191 rfl (lv_at hl 3 rfl) ?_
                              refine lv_imul S0.1 S0.2.1 dMM_fits_192 ?_
                              refine hw_top (nI (60 * r)) (pk_mul _ _) ?_
                              refine lv_iload_n S0.1 S0.2.1 dMM_fits_193 rfl (lv_at hl 4 rfl) ?_
                              refine lv_iadd S0.1 S0.2.1 dMM_fits_194 ?_
                              refine hw_top (nI ((60 * r) + p)) (nI_add _ _) ?_
                              refine lv_iload S0.1 S0.2.1 dMM_fits_195 (lv_at hl 6 rfl) ?_
                              refine lv_iadd S0.1 S0.2.1 dMM_fits_197 ?_
                              refine hw_top (nI (((60 * r) + p) + u.2.1)) (nI_add _ _) ?_
                              refine hw_iald S0 hK hg hlines 0 rfl (by omega) (by omega) dMM_fits_198 ?_
                              refine lv_aload_n S0.1 S0.2.1 dMM_fits_199 rfl (lv_at hl 1 rfl) ?_
                              refine hw_get S0 hK hg h0 rfl inMM 5 (by decide) lf_MM_16 rfl rfl dMM_fits_200 ?_
                              refine lv_iload S0.1 S0.2.1 dMM_fits_203 (lv_at hl 5 rfl) ?_
                              refine lv_iload S0.1 S0.2.1 dMM_fits_205 (lv_at hl 6 rfl) ?_
                              refine lv_iadd S0.1 S0.2.1 dMM_fits_207 ?_
                              refine hw_top (nI (u.1 + u.2.1)) (nI_add _ _) ?_
                              refine hw_iald S0 hK hg hx 0 rfl (by omega) (by omega) dMM_fits_208 ?_
                              refine lv_icmp_ne (tgt := 216) S0.1 S0.2.1 dMM_fits_209 (by decide) (fun c_209 => ?_) (fun c_209 => ?_)
                              · skip
                                rw [show (60 * r) + p + u.2.1 = 60 * r + (p + u.2.1) by omega, hz (p + u.2.1) (by omega), ea (u.1 + u.2.1) (by omega)] at c_209
                                refine lv_iconst (v := nI 0) S0.1 S0.2.1 dMM_fits_216 (by decide) ?_
                                exact hend _ _ _ _ _ _ _ _ (by decide) (by decide) rfl (⟨rfl, Or.inr ⟨rfl, fun hf => by rcases (fitB_iff.mp hf).2.2.2 with h9 | h9; exact c_169 h9; exact c_209 h9.2⟩⟩) hg hS dMM_fits_217
                              · skip
                                rw [show (60 * r) + p + u.2.1 = 60 * r + (p + u.2.1) by omega, hz (p + u.2.1) (by omega), ea (u.1 + u.2.1) (by omega)] at c_209
                                refine lv_iconst (v := nI 1) S0.1 S0.2.1 dMM_fits_212 (by decide) ?_
                                refine lv_goto (tgt := 217) S0.1 S0.2.1 dMM_fits_213 (by decide) ?_
                                exact hend _ _ _ _ _ _ _ _ (by decide) (by decide) rfl (⟨rfl, Or.inl ⟨rfl, fitB_iff.mpr ⟨hple, hall, hah, Or.inr ⟨by omega, c_209⟩⟩⟩⟩) hg hS dMM_fits_217
            · skip
              rw [← nI_0] at c_58
              have c_58 : ¬ (w = 0) := fun h => c_58 ((nI_eq (by omega) (by omega)).mpr h)
              obtain ⟨hple, hall⟩ := hw2 (by omega)
              refine lv_aload_n S0.1 S0.2.1 dMM_fits_61 rfl (lv_at hl 0 rfl) ?_
              refine hw_get S0 hK hg h0 rfl inMM 2 (by decide) lf_MM_13 rfl rfl dMM_fits_62 ?_
              refine lv_bipush (v := nI 60) S0.1 S0.2.1 dMM_fits_65 (by decide) ?_
              refine lv_iload_n S0.1 S0.2.1 dMM_fits_67 rfl (lv_at hl 2 rfl) ?_
              refine lv_imul S0.1 S0.2.1 dMM_fits_68 ?_
              refine hw_top (nI (60 * r)) (pk_mul _ _) ?_
              refine lv_iload_n S0.1 S0.2.1 dMM_fits_69 rfl (lv_at hl 3 rfl) ?_
              refine lv_iadd S0.1 S0.2.1 dMM_fits_70 ?_
              refine hw_top (nI ((60 * r) + p)) (nI_add _ _) ?_
              refine lv_iload S0.1 S0.2.1 dMM_fits_71 (lv_at hl 7 rfl) ?_
              refine lv_iadd S0.1 S0.2.1 dMM_fits_73 ?_
              refine hw_top (nI (((60 * r) + p) + k)) (nI_add _ _) ?_
              refine hw_iald S0 hK hg hlines 0 rfl (by omega) (by omega) dMM_fits_74 ?_
              refine lv_aload_n S0.1 S0.2.1 dMM_fits_75 rfl (lv_at hl 0 rfl) ?_
              refine hw_get S0 hK hg h0 rfl inMM 5 (by decide) lf_MM_16 rfl rfl dMM_fits_76 ?_
              refine lv_iload S0.1 S0.2.1 dMM_fits_79 (lv_at hl 4 rfl) ?_
              refine lv_iload S0.1 S0.2.1 dMM_fits_81 (lv_at hl 7 rfl) ?_
              refine lv_iadd S0.1 S0.2.1 dMM_fits_83 ?_
              refine hw_top (nI (u.1 + k)) (nI_add _ _) ?_
              refine hw_iald S0 hK hg hx 0 rfl (by omega) (by omega) dMM_fits_84 ?_
              refine lv_icmp_ne (tgt := 92) S0.1 S0.2.1 dMM_fits_85 (by decide) (fun c_85 => ?_) (fun c_85 => ?_)
              · skip
                rw [show (60 * r) + p + k = 60 * r + (p + k) by omega, hz (p + k) (by omega), ea (u.1 + k) (by omega)] at c_85
                refine lv_iconst (v := nI 0) S0.1 S0.2.1 dMM_fits_92 (by decide) ?_
                refine lv_istore (lv' := [(6, .int (nI 0)), (0, .ref mm), (1, .int (nI h)), (2, .int (nI r)), (3, .int (nI p)), (4, .int (nI u.1)), (5, .int (nI u.2.1)), (7, .int (nI k))]) S0.1 S0.2.1 dMM_fits_93 hl (by decide) rfl (fun ls hl => ?_)
                refine lv_iinc (v := nI (k + 1)) (lv' := [(7, .int (nI (k + 1))), (6, .int (nI 0)), (0, .ref mm), (1, .int (nI h)), (2, .int (nI r)), (3, .int (nI p)), (4, .int (nI u.1)), (5, .int (nI u.2.1))]) S0.1 S0.2.1 dMM_fits_95 hl (k := 7) rfl (by exact nI_add _ 1) (by decide) rfl (fun ls hl => ?_)
                refine lv_goto (tgt := 49) S0.1 S0.2.1 dMM_fits_98 (by decide) ?_
                exact ih_49 (k + 1) 0 _ _ _ (by omega) (by omega) (by omega) (fun h9 => by omega) (fun _ hf => c_85 ((fitB_iff.mp hf).2.1 k (by omega))) hg hS (lv_sub hl [2, 3, 4, 5, 6, 7, 1, 0] rfl)
              · skip
                rw [show (60 * r) + p + k = 60 * r + (p + k) by omega, hz (p + k) (by omega), ea (u.1 + k) (by omega)] at c_85
                refine lv_iconst (v := nI 1) S0.1 S0.2.1 dMM_fits_88 (by decide) ?_
                refine lv_goto (tgt := 93) S0.1 S0.2.1 dMM_fits_89 (by decide) ?_
                refine lv_istore (lv' := [(6, .int (nI 1)), (0, .ref mm), (1, .int (nI h)), (2, .int (nI r)), (3, .int (nI p)), (4, .int (nI u.1)), (5, .int (nI u.2.1)), (7, .int (nI k))]) S0.1 S0.2.1 dMM_fits_93 hl (by decide) rfl (fun ls hl => ?_)
                refine lv_iinc (v := nI (k + 1)) (lv' := [(7, .int (nI (k + 1))), (6, .int (nI 1)), (0, .ref mm), (1, .int (nI h)), (2, .int (nI r)), (3, .int (nI p)), (4, .int (nI u.1)), (5, .int (nI u.2.1))]) S0.1 S0.2.1 dMM_fits_95 hl (k := 7) rfl (by exact nI_add _ 1) (by decide) rfl (fun ls hl => ?_)
                refine lv_goto (tgt := 49) S0.1 S0.2.1 dMM_fits_98 (by decide) ?_
                exact ih_49 (k + 1) 1 _ _ _ (by omega) (by omega) (by omega) (fun _ => ⟨hple, fun x h9 => by rcases Nat.lt_or_ge x k with h8 | h8; exact hall x h8; rw [show x = k by omega]; exact c_85⟩) (fun h9 => by omega) hg hS (lv_sub hl [2, 3, 4, 5, 6, 7, 1, 0] rfl)
      exact loop_49 _ 0 1 _ _ _ (Nat.lt_succ_self _) (Nat.zero_le _) (by omega) (fun _ => ⟨by omega, fun x h => absurd h (Nat.not_lt_zero x)⟩) (fun h => by omega) hg hS (lv_sub hl [4, 5, 6, 7, 3, 2, 1, 0] rfl)
