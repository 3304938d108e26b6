/-! THE REFERENCE, on: patch -/
set_option maxRecDepth 100000 in
set_option maxHeartbeats 4000000 in
theorem c_MM_patch (l : Launch) (D : va_G) (cI cR cJ : ClassId) (g : Nat → Option va_E) (sz : Nat) (mm : Nat) (q : Nat → Nat) (t : Nat) (S : ST) (pa pb pc po : Int32) (HM : repM cI g mm q t S) : hMi l yMM_patch cMM_patch 13 .int (hRm 3 110 0 0) D (hT cI cR cJ) g sz [.ref mm, .int pa, .int pb, .int pc, .int po] (fun o g1 => hfr g g1 (mS mm q) ∧ repM cI g1 mm q (o_patch pa pb pc po S).1 (o_patch pa pb pc po S).2.2 ∧ ((o_patch pa pb pc po S).1 = 0 → o = (o_patch pa pb pc po S).2.1)) := by
  refine hMi_of (by decide +kernel) (Nat.le_of_ble_eq_true rfl) ?_
  intro pX eX RX sX mX argsX belowX methX cX QX AX hR S0 hnm hsz hg hK hS hA0 hend ls hl
  have hl : lv_has ls 13 [(0, .ref mm), (1, .int pa), (2, .int pb), (3, .int pc), (4, .int po)] := hl
  obtain ⟨hq, hok, v3, v4, v14, v16, v17, v23, F, h0, hF, hR_, hA_, hB_, hH_, hC_, hZ_, hV_, hL_⟩ := HM
  have hsizes : g (q 0) = some (.inl (cI, 6, .inl (F 0))) := hF 0 (by decide)
  have hlines : g (q 1) = some (.inl (cI, 360, .inl (F 1))) := hF 1 (by decide)
  have hfresh : g (q 10) = some (.inl (cI, 60, .inl (F 10))) := hF 10 (by decide)
  have hpart : g (q 9) = some (.inl (cI, 250, .inl (F 9))) := hF 9 (by decide)
  have hx : g (q 2) = some (.inl (cI, 60, .inl (F 2))) := hF 2 (by decide)
  have hy : g (q 3) = some (.inl (cI, 60, .inl (F 3))) := hF 3 (by decide)
  have hbest : g (q 4) = some (.inl (cI, 3721, .inl (F 4))) := hF 4 (by decide)
  have hpartner : g (q 5) = some (.inl (cI, 60, .inl (F 5))) := hF 5 (by decide)
  have fr : hfr g g [mm, q 0, q 1, q 10, q 9, q 2, q 3, q 4, q 5] := hfr.rf
  refine lv_aload_n S0.1 S0.2.1 dMM_patch_0 rfl (lv_at hl 0 rfl) ?_
  refine lv_iload_n S0.1 S0.2.1 dMM_patch_1 rfl (lv_at hl 1 rfl) ?_
  refine hw_Si (As := [.int pa]) (rest := [.ref mm]) S0 hK hg hS hA0 (c_MM_isRow l D cI cR cJ g _ pa) kMM_isRow lm_MM_68 (hR.call rfl) rfl hl.1 rfl (Nat.le_of_ble_eq_true rfl) dMM_patch_2 (hR.new (by decide) (by decide)) (fun r_2 g_1 H locs hp_2 hg hS => ?_)
  rw [hp_2.1] at hg
  replace hp_2 := hp_2.2
  rcases hp_2 with hp_2 | hp_2
  · skip
    obtain ⟨ho, i, hk_i, rfl⟩ := hp_2
    subst ho
    have e_i : ix (nI i) 6 = some i := ix_some hk_i (by decide)
    refine lv_if_eq (tgt := 30) S0.1 S0.2.1 dMM_patch_5 (by decide) (fun c_5 => ?_) (fun c_5 => ?_)
    · skip
      rw [← nI_0] at c_5
      have c_5 : 1 = 0 := (nI_eq (by omega) (by omega)).mp c_5
      exact absurd c_5 (by decide)
    · skip
      rw [← nI_0] at c_5
      have c_5 : ¬ (1 = 0) := fun h => c_5 ((nI_eq (by omega) (by omega)).mpr h)
      refine lv_iload_n S0.1 S0.2.1 dMM_patch_8 rfl (lv_at hl 2 rfl) ?_
      refine hw_Si (As := [.int pb]) (rest := [.ref mm]) S0 hK hg hS hA0 (c_MM_isRow l D cI cR cJ g _ pb) kMM_isRow lm_MM_68 (hR.call rfl) rfl hl.1 rfl (Nat.le_of_ble_eq_true rfl) dMM_patch_9 (hR.new (by decide) (by decide)) (fun r_9 g_2 H locs hp_9 hg hS => ?_)
      rw [hp_9.1] at hg
      replace hp_9 := hp_9.2
      rcases hp_9 with hp_9 | hp_9
      · skip
        obtain ⟨ho, j, hk_j, rfl⟩ := hp_9
        subst ho
        have e_j : ix (nI j) 6 = some j := ix_some hk_j (by decide)
        refine lv_if_eq (tgt := 30) S0.1 S0.2.1 dMM_patch_12 (by decide) (fun c_12 => ?_) (fun c_12 => ?_)
        · skip
          rw [← nI_0] at c_12
          have c_12 : 1 = 0 := (nI_eq (by omega) (by omega)).mp c_12
          exact absurd c_12 (by decide)
        · skip
          rw [← nI_0] at c_12
          have c_12 : ¬ (1 = 0) := fun h => c_12 ((nI_eq (by omega) (by omega)).mpr h)
          refine lv_iload_n S0.1 S0.2.1 dMM_patch_15 rfl (lv_at hl 3 rfl) ?_
          refine hw_Si (As := [.int pc]) (rest := [.ref mm]) S0 hK hg hS hA0 (c_MM_isRow l D cI cR cJ g _ pc) kMM_isRow lm_MM_68 (hR.call rfl) rfl hl.1 rfl (Nat.le_of_ble_eq_true rfl) dMM_patch_16 (hR.new (by decide) (by decide)) (fun r_16 g_3 H locs hp_16 hg hS => ?_)
          rw [hp_16.1] at hg
          replace hp_16 := hp_16.2
          rcases hp_16 with hp_16 | hp_16
          · skip
            obtain ⟨ho, k, hk_k, rfl⟩ := hp_16
            subst ho
            have e_k : ix (nI k) 6 = some k := ix_some hk_k (by decide)
            refine lv_if_eq (tgt := 30) S0.1 S0.2.1 dMM_patch_19 (by decide) (fun c_19 => ?_) (fun c_19 => ?_)
            · skip
              rw [← nI_0] at c_19
              have c_19 : 1 = 0 := (nI_eq (by omega) (by omega)).mp c_19
              exact absurd c_19 (by decide)
            · skip
              rw [← nI_0] at c_19
              have c_19 : ¬ (1 = 0) := fun h => c_19 ((nI_eq (by omega) (by omega)).mpr h)
              refine lv_iload S0.1 S0.2.1 dMM_patch_22 (lv_at hl 4 rfl) ?_
              refine hw_Si (As := [.int po]) (rest := [.ref mm]) S0 hK hg hS hA0 (c_MM_isRow l D cI cR cJ g _ po) kMM_isRow lm_MM_68 (hR.call rfl) rfl hl.1 rfl (Nat.le_of_ble_eq_true rfl) dMM_patch_24 (hR.new (by decide) (by decide)) (fun r_24 g_4 H locs hp_24 hg hS => ?_)
              rw [hp_24.1] at hg
              replace hp_24 := hp_24.2
              rcases hp_24 with hp_24 | hp_24
              · skip
                obtain ⟨ho, w, hk_w, rfl⟩ := hp_24
                subst ho
                have e_w : ix (nI w) 6 = some w := ix_some hk_w (by decide)
                refine lv_if_ne (tgt := 34) S0.1 S0.2.1 dMM_patch_27 (by decide) (fun c_27 => ?_) (fun c_27 => ?_)
                · skip
                  rw [← nI_0] at c_27
                  have c_27 : ¬ (1 = 0) := fun h => c_27 ((nI_eq (by omega) (by omega)).mpr h)
                  refine lv_iconst (v := nI 0) S0.1 S0.2.1 dMM_patch_34 (by decide) ?_
                  refine lv_iconst (v := nI 0) S0.1 S0.2.1 dMM_patch_35 (by decide) ?_
                  refine hw_Vi (As := [.int (nI 0), .int (nI 0)]) (rest := []) S0 hK hg hS hA0 h0 rfl (c_MM_refuse l D cI cR cJ g _ mm q hq (nI t) v3 v4 (nI S.2.1.length) (nI S.2.2.1.length) v14 v16 v17 (nI S.2.2.2.1.length) v23 (nI S.2.2.2.2.1.length) 0 0 (by decide) (by decide) h0) kMM_refuse lm_MM_72 (hR.call rfl) rfl hl.1 rfl (Nat.le_of_ble_eq_true rfl) dMM_patch_36 (hR.new (by decide) (by decide)) (fun r_36 g_5 H locs hp_36 hg hS => ?_)
                  obtain ⟨frr, rm_, hp_36⟩ := hp_36
                  have rm_ : g_5 mm = some (mmC q (nI 0) v3 v4 (nI S.2.1.length) (nI S.2.2.1.length) v14 v16 v17 (nI S.2.2.2.1.length) v23 (nI S.2.2.2.2.1.length)) := rm_
                  have k5_0 := frr.at (h_nm (h_ne hsizes h0 (fun h => by cases h)) h_n0) hsizes
                  have k5_1 := frr.at (h_nm (h_ne hlines h0 (fun h => by cases h)) h_n0) hlines
                  have k5_2 := frr.at (h_nm (h_ne hfresh h0 (fun h => by cases h)) h_n0) hfresh
                  have k5_3 := frr.at (h_nm (h_ne hpart h0 (fun h => by cases h)) h_n0) hpart
                  have k5_4 := frr.at (h_nm (h_ne hx h0 (fun h => by cases h)) h_n0) hx
                  have k5_5 := frr.at (h_nm (h_ne hy h0 (fun h => by cases h)) h_n0) hy
                  have k5_6 := frr.at (h_nm (h_ne hbest h0 (fun h => by cases h)) h_n0) hbest
                  have k5_7 := frr.at (h_nm (h_ne hpartner h0 (fun h => by cases h)) h_n0) hpartner
                  have fr := fr.call frr (by simp)
                  rcases hp_36 with ⟨ho, hr_⟩ | ⟨ho, hr_⟩
                  · skip
                    exact absurd hr_ (by decide)
                  · skip
                    subst ho
                    refine lv_if_eq (tgt := 44) S0.1 S0.2.1 dMM_patch_39 (by decide) (fun c_39 => ?_) (fun c_39 => ?_)
                    · skip
                      rw [← nI_0] at c_39
                      have c_39 : 0 = 0 := (nI_eq (by omega) (by omega)).mp c_39
                      obtain ⟨t1i, t2i, t3i⟩ := hR_ i hk_i
                      obtain ⟨t1j, t2j, t3j⟩ := hR_ j hk_j
                      obtain ⟨t1k, t2k, t3k⟩ := hR_ k hk_k
                      refine lv_aload_n S0.1 S0.2.1 dMM_patch_44 rfl (lv_at hl 0 rfl) ?_
                      refine lv_iload_n S0.1 S0.2.1 dMM_patch_45 rfl (lv_at hl 1 rfl) ?_
                      refine lv_iload_n S0.1 S0.2.1 dMM_patch_46 rfl (lv_at hl 2 rfl) ?_
                      refine hw_Vv (As := [.int (nI i), .int (nI j)]) (rest := []) S0 hK hg hS hA0 rm_ rfl (c_MM_rows l D cI cR cJ g_5 _ mm q hq (nI 0) v3 v4 (nI S.2.1.length) (nI S.2.2.1.length) v14 v16 v17 (nI S.2.2.2.1.length) v23 (nI S.2.2.2.2.1.length) i j S.1 (F 0) (F 1) (F 2) (F 3) rm_ k5_0 k5_1 k5_4 k5_5 hR_ hk_i hk_j) kMM_rows lm_MM_89 (hR.call rfl) rfl hl.1 rfl (Nat.le_of_ble_eq_true rfl) dMM_patch_47 (hR.new (by decide) (by decide)) (fun g_6 H locs hp_47 hg hS => ?_)
                      obtain ⟨frR47, r047, fx47, fy47, r147, r247, ex47, ey47⟩ := hp_47
                      have k6_0 := frR47.at (h_nm (h_ne k5_0 rm_ (fun h => by cases h)) (h_nm (qne hq (by decide) (by decide) (by decide)) (h_nm (qne hq (by decide) (by decide) (by decide)) h_n0))) k5_0
                      have k6_1 := frR47.at (h_nm (h_ne k5_1 rm_ (fun h => by cases h)) (h_nm (qne hq (by decide) (by decide) (by decide)) (h_nm (qne hq (by decide) (by decide) (by decide)) h_n0))) k5_1
                      have k6_2 := frR47.at (h_nm (h_ne k5_2 rm_ (fun h => by cases h)) (h_nm (qne hq (by decide) (by decide) (by decide)) (h_nm (qne hq (by decide) (by decide) (by decide)) h_n0))) k5_2
                      have k6_3 := frR47.at (h_nm (h_ne k5_3 rm_ (fun h => by cases h)) (h_nm (qne hq (by decide) (by decide) (by decide)) (h_nm (qne hq (by decide) (by decide) (by decide)) h_n0))) k5_3
                      have k6_4 := frR47.at (h_nm (h_ne k5_6 rm_ (fun h => by cases h)) (h_nm (qne hq (by decide) (by decide) (by decide)) (h_nm (qne hq (by decide) (by decide) (by decide)) h_n0))) k5_6
                      have k6_5 := frR47.at (h_nm (h_ne k5_7 rm_ (fun h => by cases h)) (h_nm (qne hq (by decide) (by decide) (by decide)) (h_nm (qne hq (by decide) (by decide) (by decide)) h_n0))) k5_7
                      have fr := fr.call frR47 (by simp)
                      refine lv_aload_n S0.1 S0.2.1 dMM_patch_50 rfl (lv_at hl 0 rfl) ?_
                      refine hw_Vv (As := []) (rest := []) S0 hK hg hS hA0 r047 rfl (c_MM_compare l D cI cR cJ g_6 _ mm q hq (nI 0) (nI S.2.1.length) (nI S.2.2.1.length) v14 v16 v17 (nI S.2.2.2.1.length) v23 (nI S.2.2.2.2.1.length) (S.1 i) (S.1 j) fx47 fy47 (F 4) (F 5) r047 r147 r247 k6_4 k6_5 ex47 ey47 (hok.1 i hk_i) (hok.1 j hk_j)) kMM_compare lm_MM_93 (hR.call rfl) rfl hl.1 rfl (Nat.le_of_ble_eq_true rfl) dMM_patch_51 (hR.new (by decide) (by decide)) (fun g_7 H locs hp_51 hg hS => ?_)
                      obtain ⟨frC51, fb51, fp51, p151, p251, pp51⟩ := hp_51
                      have k7_0 := frC51.at (h_nm (qne hq (by decide) (by decide) (by decide)) (h_nm (qne hq (by decide) (by decide) (by decide)) h_n0)) k6_0
                      have k7_1 := frC51.at (h_nm (qne hq (by decide) (by decide) (by decide)) (h_nm (qne hq (by decide) (by decide) (by decide)) h_n0)) k6_1
                      have k7_2 := frC51.at (h_nm (qne hq (by decide) (by decide) (by decide)) (h_nm (qne hq (by decide) (by decide) (by decide)) h_n0)) k6_2
                      have k7_3 := frC51.at (h_nm (qne hq (by decide) (by decide) (by decide)) (h_nm (qne hq (by decide) (by decide) (by decide)) h_n0)) k6_3
                      have k7_4 := frC51.at (h_nm (h_ne r047 k6_4 (fun h => by cases h)) (h_nm (h_ne r047 k6_5 (fun h => by cases h)) h_n0)) r047
                      have k7_5 := frC51.at (h_nm (qne hq (by decide) (by decide) (by decide)) (h_nm (qne hq (by decide) (by decide) (by decide)) h_n0)) r147
                      have k7_6 := frC51.at (h_nm (qne hq (by decide) (by decide) (by decide)) (h_nm (qne hq (by decide) (by decide) (by decide)) h_n0)) r247
                      have fr := fr.call frC51 (by simp)
                      refine lv_aload_n S0.1 S0.2.1 dMM_patch_54 rfl (lv_at hl 0 rfl) ?_
                      refine hw_Vv (As := []) (rest := []) S0 hK hg hS hA0 k7_4 rfl (c_MM_cut l D cI cR cJ g_7 _ mm q hq (nI 0) (nI S.2.1.length) (nI S.2.2.1.length) v14 v16 v17 (nI S.2.2.2.1.length) v23 (nI S.2.2.2.2.1.length) (S.1 i) (S.1 j) fp51 (F 9) k7_4 p251 k7_3 pp51 (hok.1 i hk_i) (hok.1 j hk_j)) kMM_cut lm_MM_106 (hR.call rfl) rfl hl.1 rfl (Nat.le_of_ble_eq_true rfl) dMM_patch_55 (hR.new (by decide) (by decide)) (fun g_8 H locs hp_55 hg hS => ?_)
                      obtain ⟨frK55, fk55, k055, k155, kk55⟩ := hp_55
                      have k8_0 := frK55.at (h_nm (h_ne k7_0 k7_4 (fun h => by cases h)) (h_nm (qne hq (by decide) (by decide) (by decide)) h_n0)) k7_0
                      have k8_1 := frK55.at (h_nm (h_ne k7_1 k7_4 (fun h => by cases h)) (h_nm (qne hq (by decide) (by decide) (by decide)) h_n0)) k7_1
                      have k8_2 := frK55.at (h_nm (h_ne k7_2 k7_4 (fun h => by cases h)) (h_nm (qne hq (by decide) (by decide) (by decide)) h_n0)) k7_2
                      have k8_3 := frK55.at (h_nm (h_ne k7_5 k7_4 (fun h => by cases h)) (h_nm (qne hq (by decide) (by decide) (by decide)) h_n0)) k7_5
                      have k8_4 := frK55.at (h_nm (h_ne k7_6 k7_4 (fun h => by cases h)) (h_nm (qne hq (by decide) (by decide) (by decide)) h_n0)) k7_6
                      have k8_5 := frK55.at (h_nm (h_ne p151 k7_4 (fun h => by cases h)) (h_nm (qne hq (by decide) (by decide) (by decide)) h_n0)) p151
                      have k8_6 := frK55.at (h_nm (h_ne p251 k7_4 (fun h => by cases h)) (h_nm (qne hq (by decide) (by decide) (by decide)) h_n0)) p251
                      have fr := fr.call frK55 (by simp)
                      have hho := hunks_ok (S.1 i) (S.1 j)
                      have hhl := fl4_len (hunksOf (S.1 i) (S.1 j))
                      refine lv_aload_n S0.1 S0.2.1 dMM_patch_58 rfl (lv_at hl 0 rfl) ?_
                      refine lv_iconst (v := nI 0) S0.1 S0.2.1 dMM_patch_59 (by decide) ?_
                      refine hw_put S0 hK hg hS k055 rfl inMM tyMM tokMM nmMM 16 (by decide) lf_MM_112 rfl rfl rfl rfl (Nat.le_of_ble_eq_true rfl) dMM_patch_60 (fun H locs hg hS => ?_)
                      obtain ⟨g_9, eg_9⟩ : ∃ z, z = hs g_8 mm (mmC q (nI 0) (nI ((S.1 i).length)) (nI ((S.1 j).length)) (nI S.2.1.length) (nI S.2.2.1.length) (nI ((hunksOf (S.1 i) (S.1 j)).length)) (nI 0) v17 (nI S.2.2.2.1.length) v23 (nI S.2.2.2.2.1.length)) := ⟨_, rfl⟩
                      have hg : hw D hC AX g_9 H := by rw [eg_9]; exact hg
                      have f9_0 : g_9 (q 0) = some (.inl (cI, 6, .inl (F 0))) := by rw [eg_9, hs_n _ _ (h_ne k8_0 k055 (fun h => by cases h))]; exact k8_0
                      have f9_1 : g_9 (q 1) = some (.inl (cI, 360, .inl (F 1))) := by rw [eg_9, hs_n _ _ (h_ne k8_1 k055 (fun h => by cases h))]; exact k8_1
                      have f9_2 : g_9 (q 10) = some (.inl (cI, 60, .inl (F 10))) := by rw [eg_9, hs_n _ _ (h_ne k8_2 k055 (fun h => by cases h))]; exact k8_2
                      have f9_3 : g_9 (q 2) = some (.inl (cI, 60, .inl fx47)) := by rw [eg_9, hs_n _ _ (h_ne k8_3 k055 (fun h => by cases h))]; exact k8_3
                      have f9_4 : g_9 (q 3) = some (.inl (cI, 60, .inl fy47)) := by rw [eg_9, hs_n _ _ (h_ne k8_4 k055 (fun h => by cases h))]; exact k8_4
                      have f9_5 : g_9 (q 4) = some (.inl (cI, 3721, .inl fb51)) := by rw [eg_9, hs_n _ _ (h_ne k8_5 k055 (fun h => by cases h))]; exact k8_5
                      have f9_6 : g_9 (q 5) = some (.inl (cI, 60, .inl fp51)) := by rw [eg_9, hs_n _ _ (h_ne k8_6 k055 (fun h => by cases h))]; exact k8_6
                      have f9_7 : g_9 (q 9) = some (.inl (cI, 250, .inl fk55)) := by rw [eg_9, hs_n _ _ (h_ne k155 k055 (fun h => by cases h))]; exact k155
                      have f9_8 : g_9 mm = some (mmC q (nI 0) (nI ((S.1 i).length)) (nI ((S.1 j).length)) (nI S.2.1.length) (nI S.2.2.1.length) (nI ((hunksOf (S.1 i) (S.1 j)).length)) (nI 0) v17 (nI S.2.2.2.1.length) v23 (nI S.2.2.2.2.1.length)) := by rw [eg_9]; exact hs_s _ _ _
                      have fr := fr.put eg_9 (by simp)
                      refine lv_aload_n S0.1 S0.2.1 dMM_patch_63 rfl (lv_at hl 0 rfl) ?_
                      refine lv_iconst (v := nI 0) S0.1 S0.2.1 dMM_patch_64 (by decide) ?_
                      refine hw_put S0 hK hg hS f9_8 rfl inMM tyMM tokMM nmMM 17 (by decide) lf_MM_115 rfl rfl rfl rfl (Nat.le_of_ble_eq_true rfl) dMM_patch_65 (fun H locs hg hS => ?_)
                      obtain ⟨g_10, eg_10⟩ : ∃ z, z = hs g_9 mm (mmC q (nI 0) (nI ((S.1 i).length)) (nI ((S.1 j).length)) (nI S.2.1.length) (nI S.2.2.1.length) (nI ((hunksOf (S.1 i) (S.1 j)).length)) (nI 0) (nI 0) (nI S.2.2.2.1.length) v23 (nI S.2.2.2.2.1.length)) := ⟨_, rfl⟩
                      have hg : hw D hC AX g_10 H := by rw [eg_10]; exact hg
                      have f10_0 : g_10 (q 0) = some (.inl (cI, 6, .inl (F 0))) := by rw [eg_10, hs_n _ _ (h_ne f9_0 f9_8 (fun h => by cases h))]; exact f9_0
                      have f10_1 : g_10 (q 1) = some (.inl (cI, 360, .inl (F 1))) := by rw [eg_10, hs_n _ _ (h_ne f9_1 f9_8 (fun h => by cases h))]; exact f9_1
                      have f10_2 : g_10 (q 10) = some (.inl (cI, 60, .inl (F 10))) := by rw [eg_10, hs_n _ _ (h_ne f9_2 f9_8 (fun h => by cases h))]; exact f9_2
                      have f10_3 : g_10 (q 2) = some (.inl (cI, 60, .inl fx47)) := by rw [eg_10, hs_n _ _ (h_ne f9_3 f9_8 (fun h => by cases h))]; exact f9_3
                      have f10_4 : g_10 (q 3) = some (.inl (cI, 60, .inl fy47)) := by rw [eg_10, hs_n _ _ (h_ne f9_4 f9_8 (fun h => by cases h))]; exact f9_4
                      have f10_5 : g_10 (q 4) = some (.inl (cI, 3721, .inl fb51)) := by rw [eg_10, hs_n _ _ (h_ne f9_5 f9_8 (fun h => by cases h))]; exact f9_5
                      have f10_6 : g_10 (q 5) = some (.inl (cI, 60, .inl fp51)) := by rw [eg_10, hs_n _ _ (h_ne f9_6 f9_8 (fun h => by cases h))]; exact f9_6
                      have f10_7 : g_10 (q 9) = some (.inl (cI, 250, .inl fk55)) := by rw [eg_10, hs_n _ _ (h_ne f9_7 f9_8 (fun h => by cases h))]; exact f9_7
                      have f10_8 : g_10 mm = some (mmC q (nI 0) (nI ((S.1 i).length)) (nI ((S.1 j).length)) (nI S.2.1.length) (nI S.2.2.1.length) (nI ((hunksOf (S.1 i) (S.1 j)).length)) (nI 0) (nI 0) (nI S.2.2.2.1.length) v23 (nI S.2.2.2.2.1.length)) := by rw [eg_10]; exact hs_s _ _ _
                      have fr := fr.put eg_10 (by simp)
                      refine lv_iconst (v := nI 0) S0.1 S0.2.1 dMM_patch_68 (by decide) ?_
                      refine lv_istore (lv' := [(5, .int (nI 0)), (0, .ref mm), (1, .int (nI i)), (2, .int (nI j)), (3, .int (nI k)), (4, .int (nI w))]) S0.1 S0.2.1 dMM_patch_69 hl (by decide) rfl (fun ls hl => ?_)
                      refine lv_iconst (v := nI 0) S0.1 S0.2.1 dMM_patch_71 (by decide) ?_
                      refine lv_istore (lv' := [(6, .int (nI 0)), (5, .int (nI 0)), (0, .ref mm), (1, .int (nI i)), (2, .int (nI j)), (3, .int (nI k)), (4, .int (nI w))]) S0.1 S0.2.1 dMM_patch_72 hl (by decide) rfl (fun ls hl => ?_)
                      refine lv_iconst (v := nI 0) S0.1 S0.2.1 dMM_patch_74 (by decide) ?_
                      refine lv_istore (lv' := [(7, .int (nI 0)), (6, .int (nI 0)), (5, .int (nI 0)), (0, .ref mm), (1, .int (nI i)), (2, .int (nI j)), (3, .int (nI k)), (4, .int (nI w))]) S0.1 S0.2.1 dMM_patch_75 hl (by decide) rfl (fun ls hl => ?_)
                      refine lv_iconst (v := nI 0) S0.1 S0.2.1 dMM_patch_77 (by decide) ?_
                      refine lv_istore (lv' := [(8, .int (nI 0)), (7, .int (nI 0)), (6, .int (nI 0)), (5, .int (nI 0)), (0, .ref mm), (1, .int (nI i)), (2, .int (nI j)), (3, .int (nI k)), (4, .int (nI w))]) S0.1 S0.2.1 dMM_patch_78 hl (by decide) rfl (fun ls hl => ?_)
                      have hna := hok.1 i hk_i
                      have hnb := hok.1 j hk_j
                      have hnc := hok.1 k hk_k
                      obtain ⟨hho1, hho2, hho3⟩ := hho
                      have hpf : ∀ y, hkok (S.1 i) (S.1 j) ((hunksOf (S.1 i) (S.1 j)).take y) := fun y h hh => hho1 h (List.mem_of_mem_take hh)
                      have hpat : patF (S.1 i) (S.1 j) (S.1 k) = ((pfold (S.1 i) (S.1 j) (S.1 k) (hunksOf (S.1 i) (S.1 j))).2.2.1 ++ pt (S.1 k) (pfold (S.1 i) (S.1 j) (S.1 k) (hunksOf (S.1 i) (S.1 j))).1 (S.1 k).length, (pfold (S.1 i) (S.1 j) (S.1 k) (hunksOf (S.1 i) (S.1 j))).2.2.2) := rfl
                      have hl : lv_has ls 13 [(8, .int (nI 0)), (7, .int (nI 0)), (6, .int (iZ 0)), (5, .int (nI 0)), (0, .ref mm), (1, .int (nI i)), (2, .int (nI j)), (3, .int (nI k)), (4, .int (nI w))] := hl
                      have loop_80 : ∀ (n_80 : Nat) (x : Nat) (s : PS) (ff : Nat → Int32) (gm : Nat → Option va_E) (H : Heap) (locs : List Loc) (ls : Array Slot), (hunksOf (S.1 i) (S.1 j)).length - x < n_80 → (x ≤ (hunksOf (S.1 i) (S.1 j)).length) → (s = pfold (S.1 i) (S.1 j) (S.1 k) ((hunksOf (S.1 i) (S.1 j)).take x)) → (frL ff s.2.2.1) → (hfr g gm [mm, q 0, q 1, q 10, q 9, q 2, q 3, q 4, q 5]) → (gm (q 0) = some (.inl (cI, 6, .inl (F 0)))) → (gm (q 1) = some (.inl (cI, 360, .inl (F 1)))) → (gm (q 10) = some (.inl (cI, 60, .inl ff))) → (gm (q 2) = some (.inl (cI, 60, .inl fx47))) → (gm (q 3) = some (.inl (cI, 60, .inl fy47))) → (gm (q 4) = some (.inl (cI, 3721, .inl fb51))) → (gm (q 5) = some (.inl (cI, 60, .inl fp51))) → (gm (q 9) = some (.inl (cI, 250, .inl fk55))) → (gm mm = some (mmC q (nI 0) (nI ((S.1 i).length)) (nI ((S.1 j).length)) (nI S.2.1.length) (nI S.2.2.1.length) (nI ((hunksOf (S.1 i) (S.1 j)).length)) (nI (min s.2.2.1.length 60)) (nI (tlN s.2.2.1)) (nI S.2.2.2.1.length) v23 (nI S.2.2.2.2.1.length))) → hw D hC AX gm H → va_S AX sX.heap H locs → lv_has ls 13 [(0, .ref mm), (1, .int (nI i)), (2, .int (nI j)), (3, .int (nI k)), (4, .int (nI w)), (5, .int (nI s.1)), (6, .int (iZ s.2.1)), (7, .int (nI s.2.2.2)), (8, .int (nI x))] → W pX l eX RX sX mX argsX belowX methX cX H locs 0 0 QX (F0 mX 80 ls []) := by
                        intro n_80
                        induction n_80 with
                        | zero => intros; omega
                        | succ n_80 ih_80 =>
                          intro x s ff gm H locs ls hm_80 hx hs_ hf fr l80_q0 l80_q1 l80_q10 l80_q2 l80_q3 l80_q4 l80_q5 l80_q9 l80_mm hg hS hl
                          refine lv_iload S0.1 S0.2.1 dMM_patch_80 (lv_at hl 8 rfl) ?_
                          refine lv_aload_n S0.1 S0.2.1 dMM_patch_82 rfl (lv_at hl 0 rfl) ?_
                          refine hw_get S0 hK hg l80_mm rfl inMM 14 (by decide) lf_MM_99 rfl rfl dMM_patch_83 ?_
                          refine lv_icmp_ge (tgt := 286) S0.1 S0.2.1 dMM_patch_86 (by decide) (fun c_86 => ?_) (fun c_86 => ?_)
                          · skip
                            have c_86 : ((hunksOf (S.1 i) (S.1 j)).length) ≤ x := (nI_leI (by omega) (by omega)).mp c_86
                            have ex_ : x = (hunksOf (S.1 i) (S.1 j)).length := by omega
                            rw [ex_, List.take_length] at hs_
                            have hpo := pfold_ok (a := (S.1 i)) (b := (S.1 j)) (c := (S.1 k)) hho1 hna hnc
                            rw [← hs_] at hpo hpat
                            refine lv_aload_n S0.1 S0.2.1 dMM_patch_286 rfl (lv_at hl 0 rfl) ?_
                            refine lv_iload_n S0.1 S0.2.1 dMM_patch_287 rfl (lv_at hl 3 rfl) ?_
                            refine lv_iload S0.1 S0.2.1 dMM_patch_288 (lv_at hl 5 rfl) ?_
                            refine lv_aload_n S0.1 S0.2.1 dMM_patch_290 rfl (lv_at hl 0 rfl) ?_
                            refine hw_get S0 hK hg l80_mm rfl inMM 1 (by decide) lf_MM_7 rfl rfl dMM_patch_291 ?_
                            refine lv_iload_n S0.1 S0.2.1 dMM_patch_294 rfl (lv_at hl 3 rfl) ?_
                            refine hw_iald S0 hK hg l80_q0 0 rfl (by omega) (by omega) dMM_patch_295 ?_
                            refine hw_top (nI ((S.1 k).length)) t1k ?_
                            refine hw_Vv (As := [.int (nI k), .int (nI s.1), .int (nI ((S.1 k).length))]) (rest := []) S0 hK hg hS hA0 l80_mm rfl (c_MM_writePart l D cI cR cJ gm _ mm q hq (nI 0) (nI ((S.1 i).length)) (nI ((S.1 j).length)) (nI S.2.1.length) (nI S.2.2.1.length) (nI ((hunksOf (S.1 i) (S.1 j)).length)) (nI S.2.2.2.1.length) v23 (nI S.2.2.2.2.1.length) k s.1 ((S.1 k).length) s.2.2.1 (S.1 k) (F 1) ff l80_mm l80_q1 l80_q10 hf hk_k t3k (hok.1 k hk_k) (by omega) (by omega)) kMM_writePart lm_MM_127 (hR.call rfl) rfl hl.1 rfl (Nat.le_of_ble_eq_true rfl) dMM_patch_296 (hR.new (by decide) (by decide)) (fun g_11 H locs hp_296 hg hS => ?_)
                            obtain ⟨frw296, fw296, w0296, w1296, w2296⟩ := hp_296
                            have k11_0 := frw296.at (h_nm (h_ne l80_q0 l80_mm (fun h => by cases h)) (h_nm (qne hq (by decide) (by decide) (by decide)) h_n0)) l80_q0
                            have k11_1 := frw296.at (h_nm (h_ne l80_q1 l80_mm (fun h => by cases h)) (h_nm (qne hq (by decide) (by decide) (by decide)) h_n0)) l80_q1
                            have k11_2 := frw296.at (h_nm (h_ne l80_q2 l80_mm (fun h => by cases h)) (h_nm (qne hq (by decide) (by decide) (by decide)) h_n0)) l80_q2
                            have k11_3 := frw296.at (h_nm (h_ne l80_q3 l80_mm (fun h => by cases h)) (h_nm (qne hq (by decide) (by decide) (by decide)) h_n0)) l80_q3
                            have k11_4 := frw296.at (h_nm (h_ne l80_q4 l80_mm (fun h => by cases h)) (h_nm (qne hq (by decide) (by decide) (by decide)) h_n0)) l80_q4
                            have k11_5 := frw296.at (h_nm (h_ne l80_q5 l80_mm (fun h => by cases h)) (h_nm (qne hq (by decide) (by decide) (by decide)) h_n0)) l80_q5
                            have k11_6 := frw296.at (h_nm (h_ne l80_q9 l80_mm (fun h => by cases h)) (h_nm (qne hq (by decide) (by decide) (by decide)) h_n0)) l80_q9
                            have fr := fr.call frw296 (by simp)
                            rcases Nat.lt_or_ge 60 (s.2.2.1 ++ pt (S.1 k) s.1 (S.1 k).length).length with hM | hM
                            · skip
                              have etl : tlN (s.2.2.1 ++ pt (S.1 k) s.1 (S.1 k).length) = 1 := if_pos (by omega)
                              have hm8 := w0296
                              rw [etl] at hm8
                              refine lv_aload_n S0.1 S0.2.1 dMM_patch_299 rfl (lv_at hl 0 rfl) ?_
                              refine lv_iconst (v := nI 0) S0.1 S0.2.1 dMM_patch_300 (by decide) ?_
                              refine lv_aload_n S0.1 S0.2.1 dMM_patch_301 rfl (lv_at hl 0 rfl) ?_
                              refine hw_get S0 hK hg hm8 rfl inMM 17 (by decide) lf_MM_115 rfl rfl dMM_patch_302 ?_
                              refine hw_Vi (As := [.int (nI 0), .int (nI 1)]) (rest := []) S0 hK hg hS hA0 hm8 rfl (c_MM_refuse l D cI cR cJ g_11 _ mm q hq (nI 0) (nI ((S.1 i).length)) (nI ((S.1 j).length)) (nI S.2.1.length) (nI S.2.2.1.length) (nI ((hunksOf (S.1 i) (S.1 j)).length)) (nI (min (s.2.2.1 ++ pt (S.1 k) s.1 ((S.1 k).length)).length 60)) (nI 1) (nI S.2.2.2.1.length) v23 (nI S.2.2.2.2.1.length) 0 1 (by decide) (by decide) hm8) kMM_refuse lm_MM_72 (hR.call rfl) rfl hl.1 rfl (Nat.le_of_ble_eq_true rfl) dMM_patch_305 (hR.new (by decide) (by decide)) (fun r_305 g_12 H locs hp_305 hg hS => ?_)
                              obtain ⟨frr, rm_, hp_305⟩ := hp_305
                              have rm_ : g_12 mm = some (mmC q (nI 2) (nI ((S.1 i).length)) (nI ((S.1 j).length)) (nI S.2.1.length) (nI S.2.2.1.length) (nI ((hunksOf (S.1 i) (S.1 j)).length)) (nI (min (s.2.2.1 ++ pt (S.1 k) s.1 ((S.1 k).length)).length 60)) (nI 1) (nI S.2.2.2.1.length) v23 (nI S.2.2.2.2.1.length)) := rm_
                              have k12_0 := frr.at (h_nm (h_ne k11_0 hm8 (fun h => by cases h)) h_n0) k11_0
                              have k12_1 := frr.at (h_nm (h_ne k11_1 hm8 (fun h => by cases h)) h_n0) k11_1
                              have k12_2 := frr.at (h_nm (h_ne k11_2 hm8 (fun h => by cases h)) h_n0) k11_2
                              have k12_3 := frr.at (h_nm (h_ne k11_3 hm8 (fun h => by cases h)) h_n0) k11_3
                              have k12_4 := frr.at (h_nm (h_ne k11_4 hm8 (fun h => by cases h)) h_n0) k11_4
                              have k12_5 := frr.at (h_nm (h_ne k11_5 hm8 (fun h => by cases h)) h_n0) k11_5
                              have k12_6 := frr.at (h_nm (h_ne k11_6 hm8 (fun h => by cases h)) h_n0) k11_6
                              have k12_7 := frr.at (h_nm (h_ne w1296 hm8 (fun h => by cases h)) h_n0) w1296
                              have fr := fr.call frr (by simp)
                              rcases hp_305 with ⟨ho, hr_⟩ | ⟨ho, hr_⟩
                              · skip
                                subst ho
                                refine lv_if_eq (tgt := 313) S0.1 S0.2.1 dMM_patch_308 (by decide) (fun c_308 => ?_) (fun c_308 => ?_)
                                · skip
                                  rw [← nI_0] at c_308
                                  have c_308 : 1 = 0 := (nI_eq (by omega) (by omega)).mp c_308
                                  exact absurd c_308 (by decide)
                                · skip
                                  rw [← nI_0] at c_308
                                  have c_308 : ¬ (1 = 0) := fun h => c_308 ((nI_eq (by omega) (by omega)).mpr h)
                                  refine lv_iconst (v := nI 0) S0.1 S0.2.1 dMM_patch_311 (by decide) ?_
                                  have hF2 : ∀ i, i < 18 → g_12 (q i) = some (.inl (cI, mSz i, .inl ((fun i => match i with | 0 => F 0 | 1 => F 1 | 10 => fw296 | 9 => fk55 | 2 => fx47 | 3 => fy47 | 4 => fb51 | 5 => fp51 | i => F i) i))) := by
                                    intro i hi
                                    match i, hi with
                                    | 0, _ => exact k12_0
                                    | 1, _ => exact k12_1
                                    | 2, _ => exact k12_2
                                    | 3, _ => exact k12_3
                                    | 4, _ => exact k12_4
                                    | 5, _ => exact k12_5
                                    | 6, _ => exact fr.at (h_nm (h_ne (hF 6 (by decide)) h0 (fun h => by cases h)) (h_nm (qne hq (by decide) (by decide) (by decide)) (h_nm (qne hq (by decide) (by decide) (by decide)) (h_nm (qne hq (by decide) (by decide) (by decide)) (h_nm (qne hq (by decide) (by decide) (by decide)) (h_nm (qne hq (by decide) (by decide) (by decide)) (h_nm (qne hq (by decide) (by decide) (by decide)) (h_nm (qne hq (by decide) (by decide) (by decide)) (h_nm (qne hq (by decide) (by decide) (by decide)) h_n0))))))))) (hF 6 (by decide))
                                    | 7, _ => exact fr.at (h_nm (h_ne (hF 7 (by decide)) h0 (fun h => by cases h)) (h_nm (qne hq (by decide) (by decide) (by decide)) (h_nm (qne hq (by decide) (by decide) (by decide)) (h_nm (qne hq (by decide) (by decide) (by decide)) (h_nm (qne hq (by decide) (by decide) (by decide)) (h_nm (qne hq (by decide) (by decide) (by decide)) (h_nm (qne hq (by decide) (by decide) (by decide)) (h_nm (qne hq (by decide) (by decide) (by decide)) (h_nm (qne hq (by decide) (by decide) (by decide)) h_n0))))))))) (hF 7 (by decide))
                                    | 8, _ => exact fr.at (h_nm (h_ne (hF 8 (by decide)) h0 (fun h => by cases h)) (h_nm (qne hq (by decide) (by decide) (by decide)) (h_nm (qne hq (by decide) (by decide) (by decide)) (h_nm (qne hq (by decide) (by decide) (by decide)) (h_nm (qne hq (by decide) (by decide) (by decide)) (h_nm (qne hq (by decide) (by decide) (by decide)) (h_nm (qne hq (by decide) (by decide) (by decide)) (h_nm (qne hq (by decide) (by decide) (by decide)) (h_nm (qne hq (by decide) (by decide) (by decide)) h_n0))))))))) (hF 8 (by decide))
                                    | 9, _ => exact k12_6
                                    | 10, _ => exact k12_7
                                    | 11, _ => exact fr.at (h_nm (h_ne (hF 11 (by decide)) h0 (fun h => by cases h)) (h_nm (qne hq (by decide) (by decide) (by decide)) (h_nm (qne hq (by decide) (by decide) (by decide)) (h_nm (qne hq (by decide) (by decide) (by decide)) (h_nm (qne hq (by decide) (by decide) (by decide)) (h_nm (qne hq (by decide) (by decide) (by decide)) (h_nm (qne hq (by decide) (by decide) (by decide)) (h_nm (qne hq (by decide) (by decide) (by decide)) (h_nm (qne hq (by decide) (by decide) (by decide)) h_n0))))))))) (hF 11 (by decide))
                                    | 12, _ => exact fr.at (h_nm (h_ne (hF 12 (by decide)) h0 (fun h => by cases h)) (h_nm (qne hq (by decide) (by decide) (by decide)) (h_nm (qne hq (by decide) (by decide) (by decide)) (h_nm (qne hq (by decide) (by decide) (by decide)) (h_nm (qne hq (by decide) (by decide) (by decide)) (h_nm (qne hq (by decide) (by decide) (by decide)) (h_nm (qne hq (by decide) (by decide) (by decide)) (h_nm (qne hq (by decide) (by decide) (by decide)) (h_nm (qne hq (by decide) (by decide) (by decide)) h_n0))))))))) (hF 12 (by decide))
                                    | 13, _ => exact fr.at (h_nm (h_ne (hF 13 (by decide)) h0 (fun h => by cases h)) (h_nm (qne hq (by decide) (by decide) (by decide)) (h_nm (qne hq (by decide) (by decide) (by decide)) (h_nm (qne hq (by decide) (by decide) (by decide)) (h_nm (qne hq (by decide) (by decide) (by decide)) (h_nm (qne hq (by decide) (by decide) (by decide)) (h_nm (qne hq (by decide) (by decide) (by decide)) (h_nm (qne hq (by decide) (by decide) (by decide)) (h_nm (qne hq (by decide) (by decide) (by decide)) h_n0))))))))) (hF 13 (by decide))
                                    | 14, _ => exact fr.at (h_nm (h_ne (hF 14 (by decide)) h0 (fun h => by cases h)) (h_nm (qne hq (by decide) (by decide) (by decide)) (h_nm (qne hq (by decide) (by decide) (by decide)) (h_nm (qne hq (by decide) (by decide) (by decide)) (h_nm (qne hq (by decide) (by decide) (by decide)) (h_nm (qne hq (by decide) (by decide) (by decide)) (h_nm (qne hq (by decide) (by decide) (by decide)) (h_nm (qne hq (by decide) (by decide) (by decide)) (h_nm (qne hq (by decide) (by decide) (by decide)) h_n0))))))))) (hF 14 (by decide))
                                    | 15, _ => exact fr.at (h_nm (h_ne (hF 15 (by decide)) h0 (fun h => by cases h)) (h_nm (qne hq (by decide) (by decide) (by decide)) (h_nm (qne hq (by decide) (by decide) (by decide)) (h_nm (qne hq (by decide) (by decide) (by decide)) (h_nm (qne hq (by decide) (by decide) (by decide)) (h_nm (qne hq (by decide) (by decide) (by decide)) (h_nm (qne hq (by decide) (by decide) (by decide)) (h_nm (qne hq (by decide) (by decide) (by decide)) (h_nm (qne hq (by decide) (by decide) (by decide)) h_n0))))))))) (hF 15 (by decide))
                                    | 16, _ => exact fr.at (h_nm (h_ne (hF 16 (by decide)) h0 (fun h => by cases h)) (h_nm (qne hq (by decide) (by decide) (by decide)) (h_nm (qne hq (by decide) (by decide) (by decide)) (h_nm (qne hq (by decide) (by decide) (by decide)) (h_nm (qne hq (by decide) (by decide) (by decide)) (h_nm (qne hq (by decide) (by decide) (by decide)) (h_nm (qne hq (by decide) (by decide) (by decide)) (h_nm (qne hq (by decide) (by decide) (by decide)) (h_nm (qne hq (by decide) (by decide) (by decide)) h_n0))))))))) (hF 16 (by decide))
                                    | 17, _ => exact fr.at (h_nm (h_ne (hF 17 (by decide)) h0 (fun h => by cases h)) (h_nm (qne hq (by decide) (by decide) (by decide)) (h_nm (qne hq (by decide) (by decide) (by decide)) (h_nm (qne hq (by decide) (by decide) (by decide)) (h_nm (qne hq (by decide) (by decide) (by decide)) (h_nm (qne hq (by decide) (by decide) (by decide)) (h_nm (qne hq (by decide) (by decide) (by decide)) (h_nm (qne hq (by decide) (by decide) (by decide)) (h_nm (qne hq (by decide) (by decide) (by decide)) h_n0))))))))) (hF 17 (by decide))
                                    | i + 18, h => omega
                                  have hrep : repM cI g_12 mm q (o_patch (nI i) (nI j) (nI k) (nI w) S).1 (o_patch (nI i) (nI j) (nI k) (nI w) S).2.2 := by rw [show o_patch (nI i) (nI j) (nI k) (nI w) S = (2, 0, S) by unfold o_patch; rw [e_i, e_j, e_k, e_w]; dsimp only; rw [hpat]; exact if_neg (by dsimp only; omega)]; exact ⟨hq, hok, (nI ((S.1 i).length)), (nI ((S.1 j).length)), (nI ((hunksOf (S.1 i) (S.1 j)).length)), (nI (min (s.2.2.1 ++ pt (S.1 k) s.1 ((S.1 k).length)).length 60)), (nI 1), v23, (fun i => match i with | 0 => F 0 | 1 => F 1 | 10 => fw296 | 9 => fk55 | 2 => fx47 | 3 => fy47 | 4 => fb51 | 5 => fp51 | i => F i), rm_, hF2, hR_, hA_, hB_, hH_, hC_, hZ_, hV_, hL_⟩
                                  have fr9 : hfr g g_12 (mS mm q) := fr.mono (by simp)
                                  exact hend _ _ _ _ _ _ _ _ (by decide) (by decide) rfl (⟨fr9, hrep, fun h9 => by rw [show o_patch (nI i) (nI j) (nI k) (nI w) S = (2, 0, S) by unfold o_patch; rw [e_i, e_j, e_k, e_w]; dsimp only; rw [hpat]; exact if_neg (by dsimp only; omega)] at h9 ⊢; cases h9⟩) hg hS dMM_patch_312
                              · skip
                                exact absurd hr_ (by decide)
                            · skip
                              have etl : tlN (s.2.2.1 ++ pt (S.1 k) s.1 (S.1 k).length) = 0 := if_neg (by omega)
                              have hm8 := w0296
                              rw [etl] at hm8
                              refine lv_aload_n S0.1 S0.2.1 dMM_patch_299 rfl (lv_at hl 0 rfl) ?_
                              refine lv_iconst (v := nI 0) S0.1 S0.2.1 dMM_patch_300 (by decide) ?_
                              refine lv_aload_n S0.1 S0.2.1 dMM_patch_301 rfl (lv_at hl 0 rfl) ?_
                              refine hw_get S0 hK hg hm8 rfl inMM 17 (by decide) lf_MM_115 rfl rfl dMM_patch_302 ?_
                              refine hw_Vi (As := [.int (nI 0), .int (nI 0)]) (rest := []) S0 hK hg hS hA0 hm8 rfl (c_MM_refuse l D cI cR cJ g_11 _ mm q hq (nI 0) (nI ((S.1 i).length)) (nI ((S.1 j).length)) (nI S.2.1.length) (nI S.2.2.1.length) (nI ((hunksOf (S.1 i) (S.1 j)).length)) (nI (min (s.2.2.1 ++ pt (S.1 k) s.1 ((S.1 k).length)).length 60)) (nI 0) (nI S.2.2.2.1.length) v23 (nI S.2.2.2.2.1.length) 0 0 (by decide) (by decide) hm8) kMM_refuse lm_MM_72 (hR.call rfl) rfl hl.1 rfl (Nat.le_of_ble_eq_true rfl) dMM_patch_305 (hR.new (by decide) (by decide)) (fun r_305 g_13 H locs hp_305 hg hS => ?_)
                              obtain ⟨frr, rm_, hp_305⟩ := hp_305
                              have rm_ : g_13 mm = some (mmC q (nI 0) (nI ((S.1 i).length)) (nI ((S.1 j).length)) (nI S.2.1.length) (nI S.2.2.1.length) (nI ((hunksOf (S.1 i) (S.1 j)).length)) (nI (min (s.2.2.1 ++ pt (S.1 k) s.1 ((S.1 k).length)).length 60)) (nI 0) (nI S.2.2.2.1.length) v23 (nI S.2.2.2.2.1.length)) := rm_
                              have k13_0 := frr.at (h_nm (h_ne k11_0 hm8 (fun h => by cases h)) h_n0) k11_0
                              have k13_1 := frr.at (h_nm (h_ne k11_1 hm8 (fun h => by cases h)) h_n0) k11_1
                              have k13_2 := frr.at (h_nm (h_ne k11_2 hm8 (fun h => by cases h)) h_n0) k11_2
                              have k13_3 := frr.at (h_nm (h_ne k11_3 hm8 (fun h => by cases h)) h_n0) k11_3
                              have k13_4 := frr.at (h_nm (h_ne k11_4 hm8 (fun h => by cases h)) h_n0) k11_4
                              have k13_5 := frr.at (h_nm (h_ne k11_5 hm8 (fun h => by cases h)) h_n0) k11_5
                              have k13_6 := frr.at (h_nm (h_ne k11_6 hm8 (fun h => by cases h)) h_n0) k11_6
                              have k13_7 := frr.at (h_nm (h_ne w1296 hm8 (fun h => by cases h)) h_n0) w1296
                              have fr := fr.call frr (by simp)
                              rcases hp_305 with ⟨ho, hr_⟩ | ⟨ho, hr_⟩
                              · skip
                                exact absurd hr_ (by decide)
                              · skip
                                subst ho
                                refine lv_if_eq (tgt := 313) S0.1 S0.2.1 dMM_patch_308 (by decide) (fun c_308 => ?_) (fun c_308 => ?_)
                                · skip
                                  rw [← nI_0] at c_308
                                  have c_308 : 0 = 0 := (nI_eq (by omega) (by omega)).mp c_308
                                  refine lv_aload_n S0.1 S0.2.1 dMM_patch_313 rfl (lv_at hl 0 rfl) ?_
                                  refine lv_iload S0.1 S0.2.1 dMM_patch_314 (lv_at hl 4 rfl) ?_
                                  refine hw_Vv (As := [.int (nI w)]) (rest := []) S0 hK hg hS hA0 rm_ rfl (c_MM_become l D cI cR cJ g_13 _ mm q hq (nI 0) (nI ((S.1 i).length)) (nI ((S.1 j).length)) (nI S.2.1.length) (nI S.2.2.1.length) (nI ((hunksOf (S.1 i) (S.1 j)).length)) (nI S.2.2.2.1.length) v23 (nI S.2.2.2.2.1.length) w (s.2.2.1 ++ pt (S.1 k) s.1 (S.1 k).length) S.1 (F 0) (F 1) fw296 (by rw [etl]; exact rm_) k13_0 k13_1 k13_7 w2296 hM hk_w hR_) kMM_become lm_MM_138 (hR.call rfl) rfl hl.1 rfl (Nat.le_of_ble_eq_true rfl) dMM_patch_316 (hR.new (by decide) (by decide)) (fun g_14 H locs hp_316 hg hS => ?_)
                                  obtain ⟨frB, fS, fL, b0, b1, hR2⟩ := hp_316
                                  have k14_0 := frB.at (h_nm (qne hq (by decide) (by decide) (by decide)) (h_nm (qne hq (by decide) (by decide) (by decide)) h_n0)) k13_2
                                  have k14_1 := frB.at (h_nm (qne hq (by decide) (by decide) (by decide)) (h_nm (qne hq (by decide) (by decide) (by decide)) h_n0)) k13_3
                                  have k14_2 := frB.at (h_nm (qne hq (by decide) (by decide) (by decide)) (h_nm (qne hq (by decide) (by decide) (by decide)) h_n0)) k13_4
                                  have k14_3 := frB.at (h_nm (qne hq (by decide) (by decide) (by decide)) (h_nm (qne hq (by decide) (by decide) (by decide)) h_n0)) k13_5
                                  have k14_4 := frB.at (h_nm (qne hq (by decide) (by decide) (by decide)) (h_nm (qne hq (by decide) (by decide) (by decide)) h_n0)) k13_6
                                  have k14_5 := frB.at (h_nm (qne hq (by decide) (by decide) (by decide)) (h_nm (qne hq (by decide) (by decide) (by decide)) h_n0)) k13_7
                                  have k14_6 := frB.at (h_nm (h_ne rm_ k13_0 (fun h => by cases h)) (h_nm (h_ne rm_ k13_1 (fun h => by cases h)) h_n0)) rm_
                                  have fr := fr.call frB (by simp)
                                  refine lv_iload S0.1 S0.2.1 dMM_patch_319 (lv_at hl 7 rfl) ?_
                                  have eop : o_patch (nI i) (nI j) (nI k) (nI w) S = (0, nI s.2.2.2, (setR S.1 w (s.2.2.1 ++ pt (S.1 k) s.1 (S.1 k).length), S.2)) := by unfold o_patch; rw [e_i, e_j, e_k, e_w]; dsimp only; rw [hpat]; exact if_pos hM
                                  have hF2 : ∀ i, i < 18 → g_14 (q i) = some (.inl (cI, mSz i, .inl ((fun i => match i with | 0 => fS | 1 => fL | 10 => fw296 | 9 => fk55 | 2 => fx47 | 3 => fy47 | 4 => fb51 | 5 => fp51 | i => F i) i))) := by
                                    intro i hi
                                    match i, hi with
                                    | 0, _ => exact b0
                                    | 1, _ => exact b1
                                    | 2, _ => exact k14_0
                                    | 3, _ => exact k14_1
                                    | 4, _ => exact k14_2
                                    | 5, _ => exact k14_3
                                    | 6, _ => exact fr.at (h_nm (h_ne (hF 6 (by decide)) h0 (fun h => by cases h)) (h_nm (qne hq (by decide) (by decide) (by decide)) (h_nm (qne hq (by decide) (by decide) (by decide)) (h_nm (qne hq (by decide) (by decide) (by decide)) (h_nm (qne hq (by decide) (by decide) (by decide)) (h_nm (qne hq (by decide) (by decide) (by decide)) (h_nm (qne hq (by decide) (by decide) (by decide)) (h_nm (qne hq (by decide) (by decide) (by decide)) (h_nm (qne hq (by decide) (by decide) (by decide)) h_n0))))))))) (hF 6 (by decide))
                                    | 7, _ => exact fr.at (h_nm (h_ne (hF 7 (by decide)) h0 (fun h => by cases h)) (h_nm (qne hq (by decide) (by decide) (by decide)) (h_nm (qne hq (by decide) (by decide) (by decide)) (h_nm (qne hq (by decide) (by decide) (by decide)) (h_nm (qne hq (by decide) (by decide) (by decide)) (h_nm (qne hq (by decide) (by decide) (by decide)) (h_nm (qne hq (by decide) (by decide) (by decide)) (h_nm (qne hq (by decide) (by decide) (by decide)) (h_nm (qne hq (by decide) (by decide) (by decide)) h_n0))))))))) (hF 7 (by decide))
                                    | 8, _ => exact fr.at (h_nm (h_ne (hF 8 (by decide)) h0 (fun h => by cases h)) (h_nm (qne hq (by decide) (by decide) (by decide)) (h_nm (qne hq (by decide) (by decide) (by decide)) (h_nm (qne hq (by decide) (by decide) (by decide)) (h_nm (qne hq (by decide) (by decide) (by decide)) (h_nm (qne hq (by decide) (by decide) (by decide)) (h_nm (qne hq (by decide) (by decide) (by decide)) (h_nm (qne hq (by decide) (by decide) (by decide)) (h_nm (qne hq (by decide) (by decide) (by decide)) h_n0))))))))) (hF 8 (by decide))
                                    | 9, _ => exact k14_4
                                    | 10, _ => exact k14_5
                                    | 11, _ => exact fr.at (h_nm (h_ne (hF 11 (by decide)) h0 (fun h => by cases h)) (h_nm (qne hq (by decide) (by decide) (by decide)) (h_nm (qne hq (by decide) (by decide) (by decide)) (h_nm (qne hq (by decide) (by decide) (by decide)) (h_nm (qne hq (by decide) (by decide) (by decide)) (h_nm (qne hq (by decide) (by decide) (by decide)) (h_nm (qne hq (by decide) (by decide) (by decide)) (h_nm (qne hq (by decide) (by decide) (by decide)) (h_nm (qne hq (by decide) (by decide) (by decide)) h_n0))))))))) (hF 11 (by decide))
                                    | 12, _ => exact fr.at (h_nm (h_ne (hF 12 (by decide)) h0 (fun h => by cases h)) (h_nm (qne hq (by decide) (by decide) (by decide)) (h_nm (qne hq (by decide) (by decide) (by decide)) (h_nm (qne hq (by decide) (by decide) (by decide)) (h_nm (qne hq (by decide) (by decide) (by decide)) (h_nm (qne hq (by decide) (by decide) (by decide)) (h_nm (qne hq (by decide) (by decide) (by decide)) (h_nm (qne hq (by decide) (by decide) (by decide)) (h_nm (qne hq (by decide) (by decide) (by decide)) h_n0))))))))) (hF 12 (by decide))
                                    | 13, _ => exact fr.at (h_nm (h_ne (hF 13 (by decide)) h0 (fun h => by cases h)) (h_nm (qne hq (by decide) (by decide) (by decide)) (h_nm (qne hq (by decide) (by decide) (by decide)) (h_nm (qne hq (by decide) (by decide) (by decide)) (h_nm (qne hq (by decide) (by decide) (by decide)) (h_nm (qne hq (by decide) (by decide) (by decide)) (h_nm (qne hq (by decide) (by decide) (by decide)) (h_nm (qne hq (by decide) (by decide) (by decide)) (h_nm (qne hq (by decide) (by decide) (by decide)) h_n0))))))))) (hF 13 (by decide))
                                    | 14, _ => exact fr.at (h_nm (h_ne (hF 14 (by decide)) h0 (fun h => by cases h)) (h_nm (qne hq (by decide) (by decide) (by decide)) (h_nm (qne hq (by decide) (by decide) (by decide)) (h_nm (qne hq (by decide) (by decide) (by decide)) (h_nm (qne hq (by decide) (by decide) (by decide)) (h_nm (qne hq (by decide) (by decide) (by decide)) (h_nm (qne hq (by decide) (by decide) (by decide)) (h_nm (qne hq (by decide) (by decide) (by decide)) (h_nm (qne hq (by decide) (by decide) (by decide)) h_n0))))))))) (hF 14 (by decide))
                                    | 15, _ => exact fr.at (h_nm (h_ne (hF 15 (by decide)) h0 (fun h => by cases h)) (h_nm (qne hq (by decide) (by decide) (by decide)) (h_nm (qne hq (by decide) (by decide) (by decide)) (h_nm (qne hq (by decide) (by decide) (by decide)) (h_nm (qne hq (by decide) (by decide) (by decide)) (h_nm (qne hq (by decide) (by decide) (by decide)) (h_nm (qne hq (by decide) (by decide) (by decide)) (h_nm (qne hq (by decide) (by decide) (by decide)) (h_nm (qne hq (by decide) (by decide) (by decide)) h_n0))))))))) (hF 15 (by decide))
                                    | 16, _ => exact fr.at (h_nm (h_ne (hF 16 (by decide)) h0 (fun h => by cases h)) (h_nm (qne hq (by decide) (by decide) (by decide)) (h_nm (qne hq (by decide) (by decide) (by decide)) (h_nm (qne hq (by decide) (by decide) (by decide)) (h_nm (qne hq (by decide) (by decide) (by decide)) (h_nm (qne hq (by decide) (by decide) (by decide)) (h_nm (qne hq (by decide) (by decide) (by decide)) (h_nm (qne hq (by decide) (by decide) (by decide)) (h_nm (qne hq (by decide) (by decide) (by decide)) h_n0))))))))) (hF 16 (by decide))
                                    | 17, _ => exact fr.at (h_nm (h_ne (hF 17 (by decide)) h0 (fun h => by cases h)) (h_nm (qne hq (by decide) (by decide) (by decide)) (h_nm (qne hq (by decide) (by decide) (by decide)) (h_nm (qne hq (by decide) (by decide) (by decide)) (h_nm (qne hq (by decide) (by decide) (by decide)) (h_nm (qne hq (by decide) (by decide) (by decide)) (h_nm (qne hq (by decide) (by decide) (by decide)) (h_nm (qne hq (by decide) (by decide) (by decide)) (h_nm (qne hq (by decide) (by decide) (by decide)) h_n0))))))))) (hF 17 (by decide))
                                    | i + 18, h => omega
                                  have hrep : repM cI g_14 mm q (o_patch (nI i) (nI j) (nI k) (nI w) S).1 (o_patch (nI i) (nI j) (nI k) (nI w) S).2.2 := by rw [eop]; exact ⟨hq, stok_setR hok hM, (nI ((S.1 i).length)), (nI ((S.1 j).length)), (nI ((hunksOf (S.1 i) (S.1 j)).length)), (nI (min (s.2.2.1 ++ pt (S.1 k) s.1 ((S.1 k).length)).length 60)), (nI 0), v23, (fun i => match i with | 0 => fS | 1 => fL | 10 => fw296 | 9 => fk55 | 2 => fx47 | 3 => fy47 | 4 => fb51 | 5 => fp51 | i => F i), k14_6, hF2, hR2, hA_, hB_, hH_, hC_, hZ_, hV_, hL_⟩
                                  have fr9 : hfr g g_14 (mS mm q) := fr.mono (by simp)
                                  exact hend _ _ _ _ _ _ _ _ (by decide) (by decide) rfl (⟨fr9, hrep, fun h9 => by rw [eop] at h9 ⊢⟩) hg hS dMM_patch_321
                                · skip
                                  rw [← nI_0] at c_308
                                  have c_308 : ¬ (0 = 0) := fun h => c_308 ((nI_eq (by omega) (by omega)).mpr h)
                                  exact absurd c_308 (by decide)
                          · skip
                            have c_86 : ¬ (((hunksOf (S.1 i) (S.1 j)).length) ≤ x) := fun h => c_86 ((nI_leI (by omega) (by omega)).mpr h)
                            have hkl : x < (hunksOf (S.1 i) (S.1 j)).length := by omega
                            obtain ⟨u, hget⟩ : ∃ u, (hunksOf (S.1 i) (S.1 j))[x]? = some u := ⟨_, List.getElem?_eq_getElem hkl⟩
                            obtain ⟨q0, q1, q2, q3⟩ := rp4_atM kk55 hget
                            have hhu := hho1 u (List.mem_of_getElem? hget)
                            have hpo := pfold_ok (a := (S.1 i)) (b := (S.1 j)) (c := (S.1 k)) (hpf x) hna hnc
                            rw [← hs_] at hpo
                            refine lv_aload_n S0.1 S0.2.1 dMM_patch_89 rfl (lv_at hl 0 rfl) ?_
                            refine hw_get S0 hK hg l80_mm rfl inMM 15 (by decide) lf_MM_37 rfl rfl dMM_patch_90 ?_
                            refine lv_iconst (v := nI 4) S0.1 S0.2.1 dMM_patch_93 (by decide) ?_
                            refine lv_iload S0.1 S0.2.1 dMM_patch_94 (lv_at hl 8 rfl) ?_
                            refine lv_imul S0.1 S0.2.1 dMM_patch_96 ?_
                            refine hw_top (nI (4 * x)) (pk_mul _ _) ?_
                            refine hw_iald S0 hK hg l80_q9 0 rfl (by omega) (by omega) dMM_patch_97 ?_
                            refine hw_top (nI u.1) q0 ?_
                            refine lv_iload S0.1 S0.2.1 dMM_patch_98 (lv_at hl 6 rfl) ?_
                            refine lv_iadd S0.1 S0.2.1 dMM_patch_100 ?_
                            refine hw_top (iZ ((u.1 : Int) + s.2.1)) (by rw [iZ_nat, iZ_add]) ?_
                            refine lv_istore (lv' := [(9, .int (iZ ((u.1 : Int) + s.2.1))), (0, .ref mm), (1, .int (nI i)), (2, .int (nI j)), (3, .int (nI k)), (4, .int (nI w)), (5, .int (nI s.1)), (6, .int (iZ s.2.1)), (7, .int (nI s.2.2.2)), (8, .int (nI x))]) S0.1 S0.2.1 dMM_patch_101 hl (by decide) rfl (fun ls hl => ?_)
                            refine lv_iconst (v := (-1)) S0.1 S0.2.1 dMM_patch_103 (by decide) ?_
                            refine lv_istore (lv' := [(10, .int (-1)), (9, .int (iZ ((u.1 : Int) + s.2.1))), (0, .ref mm), (1, .int (nI i)), (2, .int (nI j)), (3, .int (nI k)), (4, .int (nI w)), (5, .int (nI s.1)), (6, .int (iZ s.2.1)), (7, .int (nI s.2.2.2)), (8, .int (nI x))]) S0.1 S0.2.1 dMM_patch_104 hl (by decide) rfl (fun ls hl => ?_)
                            refine lv_aload_n S0.1 S0.2.1 dMM_patch_106 rfl (lv_at hl 2 rfl) ?_
                            refine hw_get S0 hK hg l80_mm rfl inMM 1 (by decide) lf_MM_7 rfl rfl dMM_patch_107 ?_
                            refine lv_iload_n S0.1 S0.2.1 dMM_patch_110 rfl (lv_at hl 5 rfl) ?_
                            refine hw_iald S0 hK hg l80_q0 0 rfl (by omega) (by omega) dMM_patch_111 ?_
                            refine hw_top (nI ((S.1 k).length)) t1k ?_
                            refine lv_istore (lv' := [(11, .int (nI ((S.1 k).length))), (10, .int (-1)), (9, .int (iZ ((u.1 : Int) + s.2.1))), (0, .ref mm), (1, .int (nI i)), (2, .int (nI j)), (3, .int (nI k)), (4, .int (nI w)), (5, .int (nI s.1)), (6, .int (iZ s.2.1)), (7, .int (nI s.2.2.2)), (8, .int (nI x))]) S0.1 S0.2.1 dMM_patch_112 hl (by decide) rfl (fun ls hl => ?_)
                            rw [← nJ_succ (S.1 k).length] at hl
                            have hl : lv_has ls 13 [(11, .int (nJ ((S.1 k).length + 1))), (10, .int (oI none)), (9, .int (iZ ((u.1 : Int) + s.2.1))), (0, .ref mm), (1, .int (nI i)), (2, .int (nI j)), (3, .int (nI k)), (4, .int (nI w)), (5, .int (nI s.1)), (6, .int (iZ s.2.1)), (7, .int (nI s.2.2.2)), (8, .int (nI x))] := hl
                            have loop_114 : ∀ (n_114 : Nat) (t_ : Nat) (o : Option Nat) (H : Heap) (locs : List Loc) (ls : Array Slot), t_ < n_114 → (s.1 ≤ t_) → (t_ ≤ (S.1 k).length + 1) → (isN (fitB (S.1 i) u.1 u.2.1 (S.1 k)) ((u.1 : Int) + s.2.1) t_ ((S.1 k).length + 1) o) → hw D hC AX gm H → va_S AX sX.heap H locs → lv_has ls 13 [(0, .ref mm), (1, .int (nI i)), (2, .int (nI j)), (3, .int (nI k)), (4, .int (nI w)), (5, .int (nI s.1)), (6, .int (iZ s.2.1)), (7, .int (nI s.2.2.2)), (8, .int (nI x)), (9, .int (iZ ((u.1 : Int) + s.2.1))), (10, .int (oI o)), (11, .int (nJ t_))] → W pX l eX RX sX mX argsX belowX methX cX H locs 0 0 QX (F0 mX 114 ls []) := by
                              intro n_114
                              induction n_114 with
                              | zero => intros; omega
                              | succ n_114 ih_114 =>
                                intro t_ o H locs ls hm_114 ht1 ht2 hN hg hS hl
                                refine lv_iload S0.1 S0.2.1 dMM_patch_114 (lv_at hl 11 rfl) ?_
                                refine lv_iload S0.1 S0.2.1 dMM_patch_116 (lv_at hl 5 rfl) ?_
                                refine lv_icmp_lt (tgt := 182) S0.1 S0.2.1 dMM_patch_118 (by decide) (fun c_118 => ?_) (fun c_118 => ?_)
                                · skip
                                  have c_118 : t_ ≤ s.1 := (nJ_lt (by omega) (by omega)).mp c_118
                                  have et : t_ = s.1 := by omega
                                  rw [et] at hN
                                  have e9 : pwh (S.1 i) (S.1 k) s u = o := isN_one (by have h8 := nrst_isN (fitB (S.1 i) u.1 u.2.1 (S.1 k)) ((u.1 : Int) + s.2.1) s.1 ((S.1 k).length + 1 - s.1); rw [show s.1 + ((S.1 k).length + 1 - s.1) = (S.1 k).length + 1 by omega] at h8; exact h8) hN
                                  rcases o with _ | p
                                  · skip
                                    have hl : lv_has ls 13 [(0, .ref mm), (1, .int (nI i)), (2, .int (nI j)), (3, .int (nI k)), (4, .int (nI w)), (5, .int (nI s.1)), (6, .int (iZ s.2.1)), (7, .int (nI s.2.2.2)), (8, .int (nI x)), (9, .int (iZ ((u.1 : Int) + s.2.1))), (10, .int (-1)), (11, .int (nJ t_))] := hl
                                    refine lv_iload S0.1 S0.2.1 dMM_patch_182 (lv_at hl 10 rfl) ?_
                                    refine lv_if_ge (tgt := 193) S0.1 S0.2.1 dMM_patch_184 (by decide) (fun c_184 => ?_) (fun c_184 => ?_)
                                    · skip
                                      exact absurd c_184 (by decide +kernel)
                                    · skip
                                      refine lv_iinc (v := nI (s.2.2.2 + 1)) (lv' := [(7, .int (nI (s.2.2.2 + 1))), (0, .ref mm), (1, .int (nI i)), (2, .int (nI j)), (3, .int (nI k)), (4, .int (nI w)), (5, .int (nI s.1)), (6, .int (iZ s.2.1)), (8, .int (nI x)), (9, .int (iZ ((u.1 : Int) + s.2.1))), (10, .int (-1)), (11, .int (nJ t_))]) S0.1 S0.2.1 dMM_patch_187 hl (k := 7) rfl (by exact nI_add _ 1) (by decide) rfl (fun ls hl => ?_)
                                      refine lv_goto (tgt := 280) S0.1 S0.2.1 dMM_patch_190 (by decide) ?_
                                      refine lv_iinc (v := nI (x + 1)) (lv' := [(8, .int (nI (x + 1))), (7, .int (nI (s.2.2.2 + 1))), (0, .ref mm), (1, .int (nI i)), (2, .int (nI j)), (3, .int (nI k)), (4, .int (nI w)), (5, .int (nI s.1)), (6, .int (iZ s.2.1)), (9, .int (iZ ((u.1 : Int) + s.2.1))), (10, .int (-1)), (11, .int (nJ t_))]) S0.1 S0.2.1 dMM_patch_280 hl (k := 8) rfl (by exact nI_add _ 1) (by decide) rfl (fun ls hl => ?_)
                                      refine lv_goto (tgt := 80) S0.1 S0.2.1 dMM_patch_283 (by decide) ?_
                                      exact ih_80 (x + 1) (s.1, s.2.1, s.2.2.1, s.2.2.2 + 1) ff gm _ _ _ (by omega) (by omega) (by rw [take_snoc hget, pfold_snoc, ← hs_, pstep_none e9]) hf fr l80_q0 l80_q1 l80_q10 l80_q2 l80_q3 l80_q4 l80_q5 l80_q9 l80_mm hg hS (lv_sub hl [2, 3, 4, 5, 6, 7, 8, 1, 0] rfl)
                                  · skip
                                    have hl : lv_has ls 13 [(0, .ref mm), (1, .int (nI i)), (2, .int (nI j)), (3, .int (nI k)), (4, .int (nI w)), (5, .int (nI s.1)), (6, .int (iZ s.2.1)), (7, .int (nI s.2.2.2)), (8, .int (nI x)), (9, .int (iZ ((u.1 : Int) + s.2.1))), (10, .int (nI p)), (11, .int (nJ t_))] := hl
                                    obtain ⟨n1, n2, n3, -⟩ := hN
                                    have hfi := (fitB_iff.mp n3).1
                                    refine lv_iload S0.1 S0.2.1 dMM_patch_182 (lv_at hl 10 rfl) ?_
                                    refine lv_if_ge (tgt := 193) S0.1 S0.2.1 dMM_patch_184 (by decide) (fun c_184 => ?_) (fun c_184 => ?_)
                                    · skip
                                      rw [← nI_0] at c_184
                                      have c_184 : 0 ≤ p := (nI_leI (by omega) (by omega)).mp c_184
                                      refine lv_aload_n S0.1 S0.2.1 dMM_patch_193 rfl (lv_at hl 0 rfl) ?_
                                      refine lv_iload_n S0.1 S0.2.1 dMM_patch_194 rfl (lv_at hl 3 rfl) ?_
                                      refine lv_iload S0.1 S0.2.1 dMM_patch_195 (lv_at hl 5 rfl) ?_
                                      refine lv_iload S0.1 S0.2.1 dMM_patch_197 (lv_at hl 10 rfl) ?_
                                      refine hw_Vv (As := [.int (nI k), .int (nI s.1), .int (nI p)]) (rest := []) S0 hK hg hS hA0 l80_mm rfl (c_MM_writePart l D cI cR cJ gm _ mm q hq (nI 0) (nI ((S.1 i).length)) (nI ((S.1 j).length)) (nI S.2.1.length) (nI S.2.2.1.length) (nI ((hunksOf (S.1 i) (S.1 j)).length)) (nI S.2.2.2.1.length) v23 (nI S.2.2.2.2.1.length) k s.1 p s.2.2.1 (S.1 k) (F 1) ff l80_mm l80_q1 l80_q10 hf hk_k t3k (hok.1 k hk_k) (by omega) (by omega)) kMM_writePart lm_MM_127 (hR.call rfl) rfl hl.1 rfl (Nat.le_of_ble_eq_true rfl) dMM_patch_199 (hR.new (by decide) (by decide)) (fun g_15 H locs hp_199 hg hS => ?_)
                                      obtain ⟨frw199, fw199, w0199, w1199, w2199⟩ := hp_199
                                      have k15_0 := frw199.at (h_nm (h_ne l80_q0 l80_mm (fun h => by cases h)) (h_nm (qne hq (by decide) (by decide) (by decide)) h_n0)) l80_q0
                                      have k15_1 := frw199.at (h_nm (h_ne l80_q1 l80_mm (fun h => by cases h)) (h_nm (qne hq (by decide) (by decide) (by decide)) h_n0)) l80_q1
                                      have k15_2 := frw199.at (h_nm (h_ne l80_q2 l80_mm (fun h => by cases h)) (h_nm (qne hq (by decide) (by decide) (by decide)) h_n0)) l80_q2
                                      have k15_3 := frw199.at (h_nm (h_ne l80_q3 l80_mm (fun h => by cases h)) (h_nm (qne hq (by decide) (by decide) (by decide)) h_n0)) l80_q3
                                      have k15_4 := frw199.at (h_nm (h_ne l80_q4 l80_mm (fun h => by cases h)) (h_nm (qne hq (by decide) (by decide) (by decide)) h_n0)) l80_q4
                                      have k15_5 := frw199.at (h_nm (h_ne l80_q5 l80_mm (fun h => by cases h)) (h_nm (qne hq (by decide) (by decide) (by decide)) h_n0)) l80_q5
                                      have k15_6 := frw199.at (h_nm (h_ne l80_q9 l80_mm (fun h => by cases h)) (h_nm (qne hq (by decide) (by decide) (by decide)) h_n0)) l80_q9
                                      have fr := fr.call frw199 (by simp)
                                      refine lv_iconst (v := nI 0) S0.1 S0.2.1 dMM_patch_202 (by decide) ?_
                                      refine lv_istore (lv' := [(11, .int (nI 0)), (0, .ref mm), (1, .int (nI i)), (2, .int (nI j)), (3, .int (nI k)), (4, .int (nI w)), (5, .int (nI s.1)), (6, .int (iZ s.2.1)), (7, .int (nI s.2.2.2)), (8, .int (nI x)), (9, .int (iZ ((u.1 : Int) + s.2.1))), (10, .int (nI p))]) S0.1 S0.2.1 dMM_patch_203 hl (by decide) rfl (fun ls hl => ?_)
                                      have epn : pt (S.1 j) u.2.2.1 (u.2.2.1 + 0) = [] := by rw [Nat.add_zero, pt_self]
                                      have loop_205 : ∀ (n_205 : Nat) (n : Nat) (ff2 : Nat → Int32) (gk : Nat → Option va_E) (H : Heap) (locs : List Loc) (ls : Array Slot), u.2.2.2 - n < n_205 → (n ≤ u.2.2.2) → (frL ff2 ((s.2.2.1 ++ pt (S.1 k) s.1 p) ++ pt (S.1 j) u.2.2.1 (u.2.2.1 + n))) → (hfr g gk [mm, q 0, q 1, q 10, q 9, q 2, q 3, q 4, q 5]) → (gk (q 0) = some (.inl (cI, 6, .inl (F 0)))) → (gk (q 1) = some (.inl (cI, 360, .inl (F 1)))) → (gk (q 2) = some (.inl (cI, 60, .inl fx47))) → (gk (q 3) = some (.inl (cI, 60, .inl fy47))) → (gk (q 4) = some (.inl (cI, 3721, .inl fb51))) → (gk (q 5) = some (.inl (cI, 60, .inl fp51))) → (gk (q 9) = some (.inl (cI, 250, .inl fk55))) → (gk mm = some (mmC q (nI 0) (nI ((S.1 i).length)) (nI ((S.1 j).length)) (nI S.2.1.length) (nI S.2.2.1.length) (nI ((hunksOf (S.1 i) (S.1 j)).length)) (nI (min ((s.2.2.1 ++ pt (S.1 k) s.1 p) ++ pt (S.1 j) u.2.2.1 (u.2.2.1 + n)).length 60)) (nI (tlN ((s.2.2.1 ++ pt (S.1 k) s.1 p) ++ pt (S.1 j) u.2.2.1 (u.2.2.1 + n)))) (nI S.2.2.2.1.length) v23 (nI S.2.2.2.2.1.length))) → (gk (q 10) = some (.inl (cI, 60, .inl ff2))) → hw D hC AX gk H → va_S AX sX.heap H locs → lv_has ls 13 [(0, .ref mm), (1, .int (nI i)), (2, .int (nI j)), (3, .int (nI k)), (4, .int (nI w)), (5, .int (nI s.1)), (6, .int (iZ s.2.1)), (7, .int (nI s.2.2.2)), (8, .int (nI x)), (10, .int (nI p)), (11, .int (nI n))] → W pX l eX RX sX mX argsX belowX methX cX H locs 0 0 QX (F0 mX 205 ls []) := by
                                        intro n_205
                                        induction n_205 with
                                        | zero => intros; omega
                                        | succ n_205 ih_205 =>
                                          intro n ff2 gk H locs ls hm_205 hn_ hf2 fr l205_q0 l205_q1 l205_q2 l205_q3 l205_q4 l205_q5 l205_q9 l205_mm l205_q10 hg hS hl
                                          refine lv_iload S0.1 S0.2.1 dMM_patch_205 (lv_at hl 10 rfl) ?_
                                          refine lv_aload_n S0.1 S0.2.1 dMM_patch_207 rfl (lv_at hl 0 rfl) ?_
                                          refine hw_get S0 hK hg l205_mm rfl inMM 15 (by decide) lf_MM_37 rfl rfl dMM_patch_208 ?_
                                          refine lv_iconst (v := nI 4) S0.1 S0.2.1 dMM_patch_211 (by decide) ?_
                                          refine lv_iload S0.1 S0.2.1 dMM_patch_212 (lv_at hl 8 rfl) ?_
                                          refine lv_imul S0.1 S0.2.1 dMM_patch_214 ?_
                                          refine hw_top (nI (4 * x)) (pk_mul _ _) ?_
                                          refine lv_iconst (v := nI 3) S0.1 S0.2.1 dMM_patch_215 (by decide) ?_
                                          refine lv_iadd S0.1 S0.2.1 dMM_patch_216 ?_
                                          refine hw_top (nI ((4 * x) + 3)) (nI_add _ _) ?_
                                          refine hw_iald S0 hK hg l205_q9 0 rfl (by omega) (by omega) dMM_patch_217 ?_
                                          refine hw_top (nI u.2.2.2) q3 ?_
                                          refine lv_icmp_ge (tgt := 250) S0.1 S0.2.1 dMM_patch_218 (by decide) (fun c_218 => ?_) (fun c_218 => ?_)
                                          · skip
                                            have c_218 : u.2.2.2 ≤ n := (nI_leI (by omega) (by omega)).mp c_218
                                            have en : n = u.2.2.2 := by omega
                                            have hm7 := l205_mm
                                            rw [en] at hm7 hf2
                                            refine lv_iload S0.1 S0.2.1 dMM_patch_250 (lv_at hl 9 rfl) ?_
                                            refine lv_aload_n S0.1 S0.2.1 dMM_patch_252 rfl (lv_at hl 0 rfl) ?_
                                            refine hw_get S0 hK hg hm7 rfl inMM 15 (by decide) lf_MM_37 rfl rfl dMM_patch_253 ?_
                                            refine lv_iconst (v := nI 4) S0.1 S0.2.1 dMM_patch_256 (by decide) ?_
                                            refine lv_iload S0.1 S0.2.1 dMM_patch_257 (lv_at hl 8 rfl) ?_
                                            refine lv_imul S0.1 S0.2.1 dMM_patch_259 ?_
                                            refine hw_top (nI (4 * x)) (pk_mul _ _) ?_
                                            refine lv_iconst (v := nI 1) S0.1 S0.2.1 dMM_patch_260 (by decide) ?_
                                            refine lv_iadd S0.1 S0.2.1 dMM_patch_261 ?_
                                            refine hw_top (nI ((4 * x) + 1)) (nI_add _ _) ?_
                                            refine hw_iald S0 hK hg l205_q9 0 rfl (by omega) (by omega) dMM_patch_262 ?_
                                            refine hw_top (nI u.2.1) q1 ?_
                                            refine lv_iadd S0.1 S0.2.1 dMM_patch_263 ?_
                                            refine hw_top (nI (p + u.2.1)) (nI_add _ _) ?_
                                            refine lv_istore (lv' := [(5, .int (nI (p + u.2.1))), (0, .ref mm), (1, .int (nI i)), (2, .int (nI j)), (3, .int (nI k)), (4, .int (nI w)), (6, .int (iZ s.2.1)), (7, .int (nI s.2.2.2)), (8, .int (nI x)), (10, .int (nI p)), (11, .int (nI n))]) S0.1 S0.2.1 dMM_patch_264 hl (by decide) rfl (fun ls hl => ?_)
                                            refine lv_iload S0.1 S0.2.1 dMM_patch_266 (lv_at hl 9 rfl) ?_
                                            refine lv_aload_n S0.1 S0.2.1 dMM_patch_268 rfl (lv_at hl 1 rfl) ?_
                                            refine hw_get S0 hK hg hm7 rfl inMM 15 (by decide) lf_MM_37 rfl rfl dMM_patch_269 ?_
                                            refine lv_iconst (v := nI 4) S0.1 S0.2.1 dMM_patch_272 (by decide) ?_
                                            refine lv_iload S0.1 S0.2.1 dMM_patch_273 (lv_at hl 8 rfl) ?_
                                            refine lv_imul S0.1 S0.2.1 dMM_patch_275 ?_
                                            refine hw_top (nI (4 * x)) (pk_mul _ _) ?_
                                            refine hw_iald S0 hK hg l205_q9 0 rfl (by omega) (by omega) dMM_patch_276 ?_
                                            refine hw_top (nI u.1) q0 ?_
                                            refine lv_isub S0.1 S0.2.1 dMM_patch_277 ?_
                                            refine hw_top (iZ ((p : Int) - (u.1 : Int))) (nI_subI _ _) ?_
                                            refine lv_istore (lv' := [(6, .int (iZ ((p : Int) - (u.1 : Int)))), (5, .int (nI (p + u.2.1))), (0, .ref mm), (1, .int (nI i)), (2, .int (nI j)), (3, .int (nI k)), (4, .int (nI w)), (7, .int (nI s.2.2.2)), (8, .int (nI x)), (10, .int (nI p)), (11, .int (nI n))]) S0.1 S0.2.1 dMM_patch_278 hl (by decide) rfl (fun ls hl => ?_)
                                            refine lv_iinc (v := nI (x + 1)) (lv' := [(8, .int (nI (x + 1))), (6, .int (iZ ((p : Int) - (u.1 : Int)))), (5, .int (nI (p + u.2.1))), (0, .ref mm), (1, .int (nI i)), (2, .int (nI j)), (3, .int (nI k)), (4, .int (nI w)), (7, .int (nI s.2.2.2)), (10, .int (nI p)), (11, .int (nI n))]) S0.1 S0.2.1 dMM_patch_280 hl (k := 8) rfl (by exact nI_add _ 1) (by decide) rfl (fun ls hl => ?_)
                                            refine lv_goto (tgt := 80) S0.1 S0.2.1 dMM_patch_283 (by decide) ?_
                                            exact ih_80 (x + 1) (p + u.2.1, (p : Int) - (u.1 : Int), (s.2.2.1 ++ pt (S.1 k) s.1 p) ++ pt (S.1 j) u.2.2.1 (u.2.2.1 + u.2.2.2), s.2.2.2) ff2 gk _ _ _ (by omega) (by omega) (by rw [take_snoc hget, pfold_snoc, ← hs_, pstep_some e9]) hf2 fr l205_q0 l205_q1 l205_q10 l205_q2 l205_q3 l205_q4 l205_q5 l205_q9 hm7 hg hS (lv_sub hl [3, 4, 5, 6, 7, 2, 1, 8, 0] rfl)
                                          · skip
                                            have c_218 : ¬ (u.2.2.2 ≤ n) := fun h => c_218 ((nI_leI (by omega) (by omega)).mpr h)
                                            refine lv_aload_n S0.1 S0.2.1 dMM_patch_221 rfl (lv_at hl 0 rfl) ?_
                                            refine lv_aload_n S0.1 S0.2.1 dMM_patch_222 rfl (lv_at hl 0 rfl) ?_
                                            refine hw_get S0 hK hg l205_mm rfl inMM 6 (by decide) lf_MM_19 rfl rfl dMM_patch_223 ?_
                                            refine lv_aload_n S0.1 S0.2.1 dMM_patch_226 rfl (lv_at hl 0 rfl) ?_
                                            refine hw_get S0 hK hg l205_mm rfl inMM 15 (by decide) lf_MM_37 rfl rfl dMM_patch_227 ?_
                                            refine lv_iconst (v := nI 4) S0.1 S0.2.1 dMM_patch_230 (by decide) ?_
                                            refine lv_iload S0.1 S0.2.1 dMM_patch_231 (lv_at hl 8 rfl) ?_
                                            refine lv_imul S0.1 S0.2.1 dMM_patch_233 ?_
                                            refine hw_top (nI (4 * x)) (pk_mul _ _) ?_
                                            refine lv_iconst (v := nI 2) S0.1 S0.2.1 dMM_patch_234 (by decide) ?_
                                            refine lv_iadd S0.1 S0.2.1 dMM_patch_235 ?_
                                            refine hw_top (nI ((4 * x) + 2)) (nI_add _ _) ?_
                                            refine hw_iald S0 hK hg l205_q9 0 rfl (by omega) (by omega) dMM_patch_236 ?_
                                            refine hw_top (nI u.2.2.1) q2 ?_
                                            refine lv_iload S0.1 S0.2.1 dMM_patch_237 (lv_at hl 10 rfl) ?_
                                            refine lv_iadd S0.1 S0.2.1 dMM_patch_239 ?_
                                            refine hw_top (nI (u.2.2.1 + n)) (nI_add _ _) ?_
                                            refine hw_iald S0 hK hg l205_q3 0 rfl (by omega) (by omega) dMM_patch_240 ?_
                                            refine hw_top ((S.1 j).getD (u.2.2.1 + n) 0) (ey47 (u.2.2.1 + n) (by omega)) ?_
                                            have eap : (s.2.2.1 ++ pt (S.1 k) s.1 p) ++ pt (S.1 j) u.2.2.1 (u.2.2.1 + n + 1) = ((s.2.2.1 ++ pt (S.1 k) s.1 p) ++ pt (S.1 j) u.2.2.1 (u.2.2.1 + n)) ++ [(S.1 j).getD (u.2.2.1 + n) 0] := by rw [pt_snoc (by omega) (by omega), ← List.append_assoc]
                                            refine hw_Vv (As := [.int ((S.1 j).getD (u.2.2.1 + n) 0)]) (rest := []) S0 hK hg hS hA0 l205_mm rfl (c_MM_write l D cI cR cJ gk _ mm q hq (nI 0) (nI ((S.1 i).length)) (nI ((S.1 j).length)) (nI S.2.1.length) (nI S.2.2.1.length) (nI ((hunksOf (S.1 i) (S.1 j)).length)) (nI S.2.2.2.1.length) v23 (nI S.2.2.2.2.1.length) ((s.2.2.1 ++ pt (S.1 k) s.1 p) ++ pt (S.1 j) u.2.2.1 (u.2.2.1 + n)) ((S.1 j).getD (u.2.2.1 + n) 0) ff2 l205_mm l205_q10 hf2) kMM_write lm_MM_119 (hR.call rfl) rfl hl.1 rfl (Nat.le_of_ble_eq_true rfl) dMM_patch_241 (hR.new (by decide) (by decide)) (fun g_16 H locs hp_241 hg hS => ?_)
                                            obtain ⟨frw241, fw241, w0241, w1241, w2241⟩ := hp_241
                                            have k16_0 := frw241.at (h_nm (h_ne l205_q0 l205_mm (fun h => by cases h)) (h_nm (qne hq (by decide) (by decide) (by decide)) h_n0)) l205_q0
                                            have k16_1 := frw241.at (h_nm (h_ne l205_q1 l205_mm (fun h => by cases h)) (h_nm (qne hq (by decide) (by decide) (by decide)) h_n0)) l205_q1
                                            have k16_2 := frw241.at (h_nm (h_ne l205_q2 l205_mm (fun h => by cases h)) (h_nm (qne hq (by decide) (by decide) (by decide)) h_n0)) l205_q2
                                            have k16_3 := frw241.at (h_nm (h_ne l205_q3 l205_mm (fun h => by cases h)) (h_nm (qne hq (by decide) (by decide) (by decide)) h_n0)) l205_q3
                                            have k16_4 := frw241.at (h_nm (h_ne l205_q4 l205_mm (fun h => by cases h)) (h_nm (qne hq (by decide) (by decide) (by decide)) h_n0)) l205_q4
                                            have k16_5 := frw241.at (h_nm (h_ne l205_q5 l205_mm (fun h => by cases h)) (h_nm (qne hq (by decide) (by decide) (by decide)) h_n0)) l205_q5
                                            have k16_6 := frw241.at (h_nm (h_ne l205_q9 l205_mm (fun h => by cases h)) (h_nm (qne hq (by decide) (by decide) (by decide)) h_n0)) l205_q9
                                            have fr := fr.call frw241 (by simp)
                                            refine lv_iinc (v := nI (n + 1)) (lv' := [(11, .int (nI (n + 1))), (0, .ref mm), (1, .int (nI i)), (2, .int (nI j)), (3, .int (nI k)), (4, .int (nI w)), (5, .int (nI s.1)), (6, .int (iZ s.2.1)), (7, .int (nI s.2.2.2)), (8, .int (nI x)), (10, .int (nI p))]) S0.1 S0.2.1 dMM_patch_244 hl (k := 10) rfl (by exact nI_add _ 1) (by decide) rfl (fun ls hl => ?_)
                                            refine lv_goto (tgt := 205) S0.1 S0.2.1 dMM_patch_247 (by decide) ?_
                                            exact ih_205 (n + 1) fw241 g_16 _ _ _ (by omega) (by omega) (by rw [← Nat.add_assoc, eap]; exact w2241) fr k16_0 k16_1 k16_2 k16_3 k16_4 k16_5 k16_6 (by rw [← Nat.add_assoc, eap]; exact w0241) w1241 hg hS (lv_sub hl [1, 2, 3, 4, 5, 6, 7, 8, 9, 10, 0] rfl)
                                      exact loop_205 _ 0 fw199 g_15 _ _ _ (Nat.lt_succ_self _) (Nat.zero_le _) (by rw [epn, List.append_nil]; exact w2199) fr k15_0 k15_1 k15_2 k15_3 k15_4 k15_5 k15_6 (by rw [epn, List.append_nil]; exact w0199) w1199 hg hS (lv_sub hl [1, 2, 3, 4, 5, 6, 7, 8, 9, 11, 0] rfl)
                                    · skip
                                      rw [← nI_0] at c_184
                                      have c_184 : ¬ (0 ≤ p) := fun h => c_184 ((nI_leI (by omega) (by omega)).mpr h)
                                      omega
                                · skip
                                  have c_118 : ¬ t_ ≤ s.1 := fun h => c_118 ((nJ_lt (by omega) (by omega)).mpr h)
                                  obtain ⟨p, rfl⟩ : ∃ p, t_ = p + 1 := ⟨t_ - 1, by omega⟩
                                  rw [nJ_succ] at hl
                                  rcases o with _ | b9
                                  · skip
                                    have hl : lv_has ls 13 [(0, .ref mm), (1, .int (nI i)), (2, .int (nI j)), (3, .int (nI k)), (4, .int (nI w)), (5, .int (nI s.1)), (6, .int (iZ s.2.1)), (7, .int (nI s.2.2.2)), (8, .int (nI x)), (9, .int (iZ ((u.1 : Int) + s.2.1))), (10, .int (-1)), (11, .int (nI p))] := hl
                                    refine lv_iload S0.1 S0.2.1 dMM_patch_121 (lv_at hl 10 rfl) ?_
                                    refine lv_if_lt (tgt := 143) S0.1 S0.2.1 dMM_patch_123 (by decide) (fun c_123 => ?_) (fun c_123 => ?_)
                                    · skip
                                      refine lv_iconst (v := nI 1) S0.1 S0.2.1 dMM_patch_143 (by decide) ?_
                                      refine lv_goto (tgt := 148) S0.1 S0.2.1 dMM_patch_144 (by decide) ?_
                                      refine lv_istore (lv' := [(12, .int (nI 1)), (0, .ref mm), (1, .int (nI i)), (2, .int (nI j)), (3, .int (nI k)), (4, .int (nI w)), (5, .int (nI s.1)), (6, .int (iZ s.2.1)), (7, .int (nI s.2.2.2)), (8, .int (nI x)), (9, .int (iZ ((u.1 : Int) + s.2.1))), (10, .int (-1)), (11, .int (nI p))]) S0.1 S0.2.1 dMM_patch_148 hl (by decide) rfl (fun ls hl => ?_)
                                      refine lv_iload S0.1 S0.2.1 dMM_patch_150 (lv_at hl 0 rfl) ?_
                                      refine lv_if_eq (tgt := 172) S0.1 S0.2.1 dMM_patch_152 (by decide) (fun c_152 => ?_) (fun c_152 => ?_)
                                      · skip
                                        rw [← nI_0] at c_152
                                        have c_152 : 1 = 0 := (nI_eq (by omega) (by omega)).mp c_152
                                        exact absurd c_152 (by decide)
                                      · skip
                                        rw [← nI_0] at c_152
                                        have c_152 : ¬ (1 = 0) := fun h => c_152 ((nI_eq (by omega) (by omega)).mpr h)
                                        refine lv_aload_n S0.1 S0.2.1 dMM_patch_155 rfl (lv_at hl 1 rfl) ?_
                                        refine lv_iload S0.1 S0.2.1 dMM_patch_156 (lv_at hl 9 rfl) ?_
                                        refine lv_iload_n S0.1 S0.2.1 dMM_patch_158 rfl (lv_at hl 4 rfl) ?_
                                        refine lv_iload S0.1 S0.2.1 dMM_patch_159 (lv_at hl 12 rfl) ?_
                                        refine hw_Vi (As := [.int (nI x), .int (nI k), .int (nI p)]) (rest := []) S0 hK hg hS hA0 l80_mm rfl (c_MM_fits l D cI cR cJ gm _ mm q hq (nI 0) (nI ((S.1 j).length)) (nI S.2.1.length) (nI S.2.2.1.length) (nI ((hunksOf (S.1 i) (S.1 j)).length)) (nI (min s.2.2.1.length 60)) (nI (tlN s.2.2.1)) (nI S.2.2.2.1.length) v23 (nI S.2.2.2.2.1.length) x k p (S.1 i) (S.1 k) u (F 0) (F 1) fx47 fk55 l80_mm l80_q0 l80_q1 l80_q2 l80_q9 q0 q1 t1k t3k hk_k ex47 hna hnc hhu.1 (by omega) (by omega)) kMM_fits lm_MM_148 (hR.call rfl) rfl hl.1 rfl (Nat.le_of_ble_eq_true rfl) dMM_patch_161 (hR.new (by decide) (by decide)) (fun r_161 g_17 H locs hp_161 hg hS => ?_)
                                        rw [hp_161.1] at hg
                                        replace hp_161 := hp_161.2
                                        rcases hp_161 with ⟨hf9, hq9⟩ | ⟨hf9, hq9⟩
                                        · skip
                                          subst hf9
                                          refine lv_if_eq (tgt := 172) S0.1 S0.2.1 dMM_patch_164 (by decide) (fun c_164 => ?_) (fun c_164 => ?_)
                                          · skip
                                            rw [← nI_0] at c_164
                                            have c_164 : 1 = 0 := (nI_eq (by omega) (by omega)).mp c_164
                                            exact absurd c_164 (by decide)
                                          · skip
                                            rw [← nI_0] at c_164
                                            have c_164 : ¬ (1 = 0) := fun h => c_164 ((nI_eq (by omega) (by omega)).mpr h)
                                            refine lv_iload S0.1 S0.2.1 dMM_patch_167 (lv_at hl 12 rfl) ?_
                                            refine lv_goto (tgt := 174) S0.1 S0.2.1 dMM_patch_169 (by decide) ?_
                                            refine lv_istore (lv' := [(10, .int (nI p)), (12, .int (nI 1)), (0, .ref mm), (1, .int (nI i)), (2, .int (nI j)), (3, .int (nI k)), (4, .int (nI w)), (5, .int (nI s.1)), (6, .int (iZ s.2.1)), (7, .int (nI s.2.2.2)), (8, .int (nI x)), (9, .int (iZ ((u.1 : Int) + s.2.1))), (11, .int (nI p))]) S0.1 S0.2.1 dMM_patch_174 hl (by decide) rfl (fun ls hl => ?_)
                                            refine lv_iinc (v := nJ p) (lv' := [(11, .int (nJ p)), (10, .int (nI p)), (12, .int (nI 1)), (0, .ref mm), (1, .int (nI i)), (2, .int (nI j)), (3, .int (nI k)), (4, .int (nI w)), (5, .int (nI s.1)), (6, .int (iZ s.2.1)), (7, .int (nI s.2.2.2)), (8, .int (nI x)), (9, .int (iZ ((u.1 : Int) + s.2.1)))]) S0.1 S0.2.1 dMM_patch_176 hl (k := 12) rfl (by exact nJ_dec _) (by decide) rfl (fun ls hl => ?_)
                                            refine lv_goto (tgt := 114) S0.1 S0.2.1 dMM_patch_179 (by decide) ?_
                                            exact ih_114 p (some p) _ _ _ (by omega) (by omega) (by omega) (isN_new0 hN (by omega) hq9) hg hS (lv_sub hl [3, 4, 5, 6, 7, 8, 9, 10, 11, 12, 1, 0] rfl)
                                        · skip
                                          subst hf9
                                          refine lv_if_eq (tgt := 172) S0.1 S0.2.1 dMM_patch_164 (by decide) (fun c_164 => ?_) (fun c_164 => ?_)
                                          · skip
                                            rw [← nI_0] at c_164
                                            have c_164 : 0 = 0 := (nI_eq (by omega) (by omega)).mp c_164
                                            refine lv_iload S0.1 S0.2.1 dMM_patch_172 (lv_at hl 11 rfl) ?_
                                            refine lv_istore (lv' := [(10, .int (-1)), (12, .int (nI 1)), (0, .ref mm), (1, .int (nI i)), (2, .int (nI j)), (3, .int (nI k)), (4, .int (nI w)), (5, .int (nI s.1)), (6, .int (iZ s.2.1)), (7, .int (nI s.2.2.2)), (8, .int (nI x)), (9, .int (iZ ((u.1 : Int) + s.2.1))), (11, .int (nI p))]) S0.1 S0.2.1 dMM_patch_174 hl (by decide) rfl (fun ls hl => ?_)
                                            refine lv_iinc (v := nJ p) (lv' := [(11, .int (nJ p)), (10, .int (-1)), (12, .int (nI 1)), (0, .ref mm), (1, .int (nI i)), (2, .int (nI j)), (3, .int (nI k)), (4, .int (nI w)), (5, .int (nI s.1)), (6, .int (iZ s.2.1)), (7, .int (nI s.2.2.2)), (8, .int (nI x)), (9, .int (iZ ((u.1 : Int) + s.2.1)))]) S0.1 S0.2.1 dMM_patch_176 hl (k := 12) rfl (by exact nJ_dec _) (by decide) rfl (fun ls hl => ?_)
                                            refine lv_goto (tgt := 114) S0.1 S0.2.1 dMM_patch_179 (by decide) ?_
                                            exact ih_114 p none _ _ _ (by omega) (by omega) (by omega) (isN_no hN hq9) hg hS (lv_sub hl [3, 4, 5, 6, 7, 8, 9, 10, 11, 12, 1, 0] rfl)
                                          · skip
                                            rw [← nI_0] at c_164
                                            have c_164 : ¬ (0 = 0) := fun h => c_164 ((nI_eq (by omega) (by omega)).mpr h)
                                            exact absurd c_164 (by decide)
                                    · skip
                                      exact absurd (by decide +kernel) c_123
                                  · skip
                                    have hl : lv_has ls 13 [(0, .ref mm), (1, .int (nI i)), (2, .int (nI j)), (3, .int (nI k)), (4, .int (nI w)), (5, .int (nI s.1)), (6, .int (iZ s.2.1)), (7, .int (nI s.2.2.2)), (8, .int (nI x)), (9, .int (iZ ((u.1 : Int) + s.2.1))), (10, .int (nI b9)), (11, .int (nI p))] := hl
                                    have hN2 := id hN
                                    obtain ⟨n1, n2, n3, -⟩ := hN2
                                    refine lv_iload S0.1 S0.2.1 dMM_patch_121 (lv_at hl 10 rfl) ?_
                                    refine lv_if_lt (tgt := 143) S0.1 S0.2.1 dMM_patch_123 (by decide) (fun c_123 => ?_) (fun c_123 => ?_)
                                    · skip
                                      rw [← nI_0] at c_123
                                      have c_123 : b9 < 0 := (nI_ltI (by omega) (by omega)).mp c_123
                                      omega
                                    · skip
                                      rw [← nI_0] at c_123
                                      have c_123 : ¬ (b9 < 0) := fun h => c_123 ((nI_ltI (by omega) (by omega)).mpr h)
                                      refine lv_iload S0.1 S0.2.1 dMM_patch_126 (lv_at hl 11 rfl) ?_
                                      refine hw_top (iZ (p : Int)) (iZ_nat p) ?_
                                      refine lv_iload S0.1 S0.2.1 dMM_patch_128 (lv_at hl 9 rfl) ?_
                                      refine hw_Si (As := [.int (iZ (p : Int)), .int (iZ ((u.1 : Int) + s.2.1))]) (rest := []) S0 hK hg hS hA0 (c_MM_apart l D cI cR cJ gm _ (p : Int) ((u.1 : Int) + s.2.1) (by omega) (by omega) (by omega) (by omega)) kMM_apart lm_MM_144 (hR.call rfl) rfl hl.1 rfl (Nat.le_of_ble_eq_true rfl) dMM_patch_130 (hR.new (by decide) (by decide)) (fun r_130 g_18 H locs hp_130 hg hS => ?_)
                                      rw [hp_130.1] at hg
                                      replace hp_130 := hp_130.2
                                      subst hp_130
                                      refine lv_iload S0.1 S0.2.1 dMM_patch_133 (lv_at hl 10 rfl) ?_
                                      refine hw_top (iZ (b9 : Int)) (iZ_nat b9) ?_
                                      refine lv_iload S0.1 S0.2.1 dMM_patch_135 (lv_at hl 9 rfl) ?_
                                      refine hw_Si (As := [.int (iZ (b9 : Int)), .int (iZ ((u.1 : Int) + s.2.1))]) (rest := [.int (nI (((p : Int) - ((u.1 : Int) + s.2.1)).natAbs))]) S0 hK hg hS hA0 (c_MM_apart l D cI cR cJ gm _ (b9 : Int) ((u.1 : Int) + s.2.1) (by omega) (by omega) (by omega) (by omega)) kMM_apart lm_MM_144 (hR.call rfl) rfl hl.1 rfl (Nat.le_of_ble_eq_true rfl) dMM_patch_137 (hR.new (by decide) (by decide)) (fun r_137 g_19 H locs hp_137 hg hS => ?_)
                                      rw [hp_137.1] at hg
                                      replace hp_137 := hp_137.2
                                      subst hp_137
                                      refine lv_icmp_gt (tgt := 147) S0.1 S0.2.1 dMM_patch_140 (by decide) (fun c_140 => ?_) (fun c_140 => ?_)
                                      · skip
                                        have c_140 : (((b9 : Int) - ((u.1 : Int) + s.2.1)).natAbs) < (((p : Int) - ((u.1 : Int) + s.2.1)).natAbs) := (nI_ltI (by omega) (by omega)).mp c_140
                                        refine lv_iconst (v := nI 0) S0.1 S0.2.1 dMM_patch_147 (by decide) ?_
                                        refine lv_istore (lv' := [(12, .int (nI 0)), (0, .ref mm), (1, .int (nI i)), (2, .int (nI j)), (3, .int (nI k)), (4, .int (nI w)), (5, .int (nI s.1)), (6, .int (iZ s.2.1)), (7, .int (nI s.2.2.2)), (8, .int (nI x)), (9, .int (iZ ((u.1 : Int) + s.2.1))), (10, .int (nI b9)), (11, .int (nI p))]) S0.1 S0.2.1 dMM_patch_148 hl (by decide) rfl (fun ls hl => ?_)
                                        refine lv_iload S0.1 S0.2.1 dMM_patch_150 (lv_at hl 0 rfl) ?_
                                        refine lv_if_eq (tgt := 172) S0.1 S0.2.1 dMM_patch_152 (by decide) (fun c_152 => ?_) (fun c_152 => ?_)
                                        · skip
                                          rw [← nI_0] at c_152
                                          have c_152 : 0 = 0 := (nI_eq (by omega) (by omega)).mp c_152
                                          refine lv_iload S0.1 S0.2.1 dMM_patch_172 (lv_at hl 11 rfl) ?_
                                          refine lv_istore (lv' := [(10, .int (nI b9)), (12, .int (nI 0)), (0, .ref mm), (1, .int (nI i)), (2, .int (nI j)), (3, .int (nI k)), (4, .int (nI w)), (5, .int (nI s.1)), (6, .int (iZ s.2.1)), (7, .int (nI s.2.2.2)), (8, .int (nI x)), (9, .int (iZ ((u.1 : Int) + s.2.1))), (11, .int (nI p))]) S0.1 S0.2.1 dMM_patch_174 hl (by decide) rfl (fun ls hl => ?_)
                                          refine lv_iinc (v := nJ p) (lv' := [(11, .int (nJ p)), (10, .int (nI b9)), (12, .int (nI 0)), (0, .ref mm), (1, .int (nI i)), (2, .int (nI j)), (3, .int (nI k)), (4, .int (nI w)), (5, .int (nI s.1)), (6, .int (iZ s.2.1)), (7, .int (nI s.2.2.2)), (8, .int (nI x)), (9, .int (iZ ((u.1 : Int) + s.2.1)))]) S0.1 S0.2.1 dMM_patch_176 hl (k := 12) rfl (by exact nJ_dec _) (by decide) rfl (fun ls hl => ?_)
                                          refine lv_goto (tgt := 114) S0.1 S0.2.1 dMM_patch_179 (by decide) ?_
                                          exact ih_114 p (some b9) _ _ _ (by omega) (by omega) (by omega) (isN_far hN (by omega)) hg hS (lv_sub hl [3, 4, 5, 6, 7, 8, 9, 10, 11, 12, 1, 0] rfl)
                                        · skip
                                          rw [← nI_0] at c_152
                                          have c_152 : ¬ (0 = 0) := fun h => c_152 ((nI_eq (by omega) (by omega)).mpr h)
                                          exact absurd c_152 (by decide)
                                      · skip
                                        have c_140 : ¬ ((((b9 : Int) - ((u.1 : Int) + s.2.1)).natAbs) < (((p : Int) - ((u.1 : Int) + s.2.1)).natAbs)) := fun h => c_140 ((nI_ltI (by omega) (by omega)).mpr h)
                                        refine lv_iconst (v := nI 1) S0.1 S0.2.1 dMM_patch_143 (by decide) ?_
                                        refine lv_goto (tgt := 148) S0.1 S0.2.1 dMM_patch_144 (by decide) ?_
                                        refine lv_istore (lv' := [(12, .int (nI 1)), (0, .ref mm), (1, .int (nI i)), (2, .int (nI j)), (3, .int (nI k)), (4, .int (nI w)), (5, .int (nI s.1)), (6, .int (iZ s.2.1)), (7, .int (nI s.2.2.2)), (8, .int (nI x)), (9, .int (iZ ((u.1 : Int) + s.2.1))), (10, .int (nI b9)), (11, .int (nI p))]) S0.1 S0.2.1 dMM_patch_148 hl (by decide) rfl (fun ls hl => ?_)
                                        refine lv_iload S0.1 S0.2.1 dMM_patch_150 (lv_at hl 0 rfl) ?_
                                        refine lv_if_eq (tgt := 172) S0.1 S0.2.1 dMM_patch_152 (by decide) (fun c_152 => ?_) (fun c_152 => ?_)
                                        · skip
                                          rw [← nI_0] at c_152
                                          have c_152 : 1 = 0 := (nI_eq (by omega) (by omega)).mp c_152
                                          exact absurd c_152 (by decide)
                                        · skip
                                          rw [← nI_0] at c_152
                                          have c_152 : ¬ (1 = 0) := fun h => c_152 ((nI_eq (by omega) (by omega)).mpr h)
                                          refine lv_aload_n S0.1 S0.2.1 dMM_patch_155 rfl (lv_at hl 1 rfl) ?_
                                          refine lv_iload S0.1 S0.2.1 dMM_patch_156 (lv_at hl 9 rfl) ?_
                                          refine lv_iload_n S0.1 S0.2.1 dMM_patch_158 rfl (lv_at hl 4 rfl) ?_
                                          refine lv_iload S0.1 S0.2.1 dMM_patch_159 (lv_at hl 12 rfl) ?_
                                          refine hw_Vi (As := [.int (nI x), .int (nI k), .int (nI p)]) (rest := []) S0 hK hg hS hA0 l80_mm rfl (c_MM_fits l D cI cR cJ gm _ mm q hq (nI 0) (nI ((S.1 j).length)) (nI S.2.1.length) (nI S.2.2.1.length) (nI ((hunksOf (S.1 i) (S.1 j)).length)) (nI (min s.2.2.1.length 60)) (nI (tlN s.2.2.1)) (nI S.2.2.2.1.length) v23 (nI S.2.2.2.2.1.length) x k p (S.1 i) (S.1 k) u (F 0) (F 1) fx47 fk55 l80_mm l80_q0 l80_q1 l80_q2 l80_q9 q0 q1 t1k t3k hk_k ex47 hna hnc hhu.1 (by omega) (by omega)) kMM_fits lm_MM_148 (hR.call rfl) rfl hl.1 rfl (Nat.le_of_ble_eq_true rfl) dMM_patch_161 (hR.new (by decide) (by decide)) (fun r_161 g_20 H locs hp_161 hg hS => ?_)
                                          rw [hp_161.1] at hg
                                          replace hp_161 := hp_161.2
                                          rcases hp_161 with ⟨hf9, hq9⟩ | ⟨hf9, hq9⟩
                                          · skip
                                            subst hf9
                                            refine lv_if_eq (tgt := 172) S0.1 S0.2.1 dMM_patch_164 (by decide) (fun c_164 => ?_) (fun c_164 => ?_)
                                            · skip
                                              rw [← nI_0] at c_164
                                              have c_164 : 1 = 0 := (nI_eq (by omega) (by omega)).mp c_164
                                              exact absurd c_164 (by decide)
                                            · skip
                                              rw [← nI_0] at c_164
                                              have c_164 : ¬ (1 = 0) := fun h => c_164 ((nI_eq (by omega) (by omega)).mpr h)
                                              refine lv_iload S0.1 S0.2.1 dMM_patch_167 (lv_at hl 12 rfl) ?_
                                              refine lv_goto (tgt := 174) S0.1 S0.2.1 dMM_patch_169 (by decide) ?_
                                              refine lv_istore (lv' := [(10, .int (nI p)), (12, .int (nI 1)), (0, .ref mm), (1, .int (nI i)), (2, .int (nI j)), (3, .int (nI k)), (4, .int (nI w)), (5, .int (nI s.1)), (6, .int (iZ s.2.1)), (7, .int (nI s.2.2.2)), (8, .int (nI x)), (9, .int (iZ ((u.1 : Int) + s.2.1))), (11, .int (nI p))]) S0.1 S0.2.1 dMM_patch_174 hl (by decide) rfl (fun ls hl => ?_)
                                              refine lv_iinc (v := nJ p) (lv' := [(11, .int (nJ p)), (10, .int (nI p)), (12, .int (nI 1)), (0, .ref mm), (1, .int (nI i)), (2, .int (nI j)), (3, .int (nI k)), (4, .int (nI w)), (5, .int (nI s.1)), (6, .int (iZ s.2.1)), (7, .int (nI s.2.2.2)), (8, .int (nI x)), (9, .int (iZ ((u.1 : Int) + s.2.1)))]) S0.1 S0.2.1 dMM_patch_176 hl (k := 12) rfl (by exact nJ_dec _) (by decide) rfl (fun ls hl => ?_)
                                              refine lv_goto (tgt := 114) S0.1 S0.2.1 dMM_patch_179 (by decide) ?_
                                              exact ih_114 p (some p) _ _ _ (by omega) (by omega) (by omega) (isN_new1 hN (by omega) hq9 (by omega)) hg hS (lv_sub hl [3, 4, 5, 6, 7, 8, 9, 10, 11, 12, 1, 0] rfl)
                                          · skip
                                            subst hf9
                                            refine lv_if_eq (tgt := 172) S0.1 S0.2.1 dMM_patch_164 (by decide) (fun c_164 => ?_) (fun c_164 => ?_)
                                            · skip
                                              rw [← nI_0] at c_164
                                              have c_164 : 0 = 0 := (nI_eq (by omega) (by omega)).mp c_164
                                              refine lv_iload S0.1 S0.2.1 dMM_patch_172 (lv_at hl 11 rfl) ?_
                                              refine lv_istore (lv' := [(10, .int (nI b9)), (12, .int (nI 1)), (0, .ref mm), (1, .int (nI i)), (2, .int (nI j)), (3, .int (nI k)), (4, .int (nI w)), (5, .int (nI s.1)), (6, .int (iZ s.2.1)), (7, .int (nI s.2.2.2)), (8, .int (nI x)), (9, .int (iZ ((u.1 : Int) + s.2.1))), (11, .int (nI p))]) S0.1 S0.2.1 dMM_patch_174 hl (by decide) rfl (fun ls hl => ?_)
                                              refine lv_iinc (v := nJ p) (lv' := [(11, .int (nJ p)), (10, .int (nI b9)), (12, .int (nI 1)), (0, .ref mm), (1, .int (nI i)), (2, .int (nI j)), (3, .int (nI k)), (4, .int (nI w)), (5, .int (nI s.1)), (6, .int (iZ s.2.1)), (7, .int (nI s.2.2.2)), (8, .int (nI x)), (9, .int (iZ ((u.1 : Int) + s.2.1)))]) S0.1 S0.2.1 dMM_patch_176 hl (k := 12) rfl (by exact nJ_dec _) (by decide) rfl (fun ls hl => ?_)
                                              refine lv_goto (tgt := 114) S0.1 S0.2.1 dMM_patch_179 (by decide) ?_
                                              exact ih_114 p (some b9) _ _ _ (by omega) (by omega) (by omega) (isN_no hN hq9) hg hS (lv_sub hl [3, 4, 5, 6, 7, 8, 9, 10, 11, 12, 1, 0] rfl)
                                            · skip
                                              rw [← nI_0] at c_164
                                              have c_164 : ¬ (0 = 0) := fun h => c_164 ((nI_eq (by omega) (by omega)).mpr h)
                                              exact absurd c_164 (by decide)
                            exact loop_114 _ ((S.1 k).length + 1) none _ _ _ (Nat.lt_succ_self _) (by omega) (Nat.le_refl _) (fun y h1 h2 => by omega) hg hS (lv_sub hl [3, 4, 5, 6, 7, 8, 9, 10, 11, 2, 1, 0] rfl)
                      exact loop_80 _ 0 (0, 0, [], 0) (F 10) g_10 _ _ _ (Nat.lt_succ_self _) (Nat.zero_le _) rfl (fun y h => absurd h (Nat.not_lt_zero y)) fr f10_0 f10_1 f10_2 f10_3 f10_4 f10_5 f10_6 f10_7 f10_8 hg hS (lv_sub hl [4, 5, 6, 7, 8, 3, 2, 1, 0] rfl)
                    · skip
                      rw [← nI_0] at c_39
                      have c_39 : ¬ (0 = 0) := fun h => c_39 ((nI_eq (by omega) (by omega)).mpr h)
                      exact absurd c_39 (by decide)
                · skip
                  rw [← nI_0] at c_27
                  have c_27 : 1 = 0 := (nI_eq (by omega) (by omega)).mp c_27
                  exact absurd c_27 (by decide)
              · skip
                obtain ⟨ho, hn_w⟩ := hp_24
                subst ho
                have e_w : ix po 6 = none := ix_none hn_w
                refine lv_if_ne (tgt := 34) S0.1 S0.2.1 dMM_patch_27 (by decide) (fun c_27 => ?_) (fun c_27 => ?_)
                · skip
                  rw [← nI_0] at c_27
                  have c_27 : ¬ (0 = 0) := fun h => c_27 ((nI_eq (by omega) (by omega)).mpr h)
                  exact absurd c_27 (by decide)
                · skip
                  rw [← nI_0] at c_27
                  have c_27 : 0 = 0 := (nI_eq (by omega) (by omega)).mp c_27
                  refine lv_iconst (v := nI 1) S0.1 S0.2.1 dMM_patch_30 (by decide) ?_
                  refine lv_goto (tgt := 35) S0.1 S0.2.1 dMM_patch_31 (by decide) ?_
                  refine lv_iconst (v := nI 0) S0.1 S0.2.1 dMM_patch_35 (by decide) ?_
                  refine hw_Vi (As := [.int (nI 1), .int (nI 0)]) (rest := []) S0 hK hg hS hA0 h0 rfl (c_MM_refuse l D cI cR cJ g _ mm q hq (nI t) v3 v4 (nI S.2.1.length) (nI S.2.2.1.length) v14 v16 v17 (nI S.2.2.2.1.length) v23 (nI S.2.2.2.2.1.length) 1 0 (by decide) (by decide) h0) kMM_refuse lm_MM_72 (hR.call rfl) rfl hl.1 rfl (Nat.le_of_ble_eq_true rfl) dMM_patch_36 (hR.new (by decide) (by decide)) (fun r_36 g_21 H locs hp_36 hg hS => ?_)
                  obtain ⟨frr, rm_, hp_36⟩ := hp_36
                  have rm_ : g_21 mm = some (mmC q (nI 1) v3 v4 (nI S.2.1.length) (nI S.2.2.1.length) v14 v16 v17 (nI S.2.2.2.1.length) v23 (nI S.2.2.2.2.1.length)) := rm_
                  have k21_0 := frr.at (h_nm (h_ne hsizes h0 (fun h => by cases h)) h_n0) hsizes
                  have k21_1 := frr.at (h_nm (h_ne hlines h0 (fun h => by cases h)) h_n0) hlines
                  have k21_2 := frr.at (h_nm (h_ne hfresh h0 (fun h => by cases h)) h_n0) hfresh
                  have k21_3 := frr.at (h_nm (h_ne hpart h0 (fun h => by cases h)) h_n0) hpart
                  have k21_4 := frr.at (h_nm (h_ne hx h0 (fun h => by cases h)) h_n0) hx
                  have k21_5 := frr.at (h_nm (h_ne hy h0 (fun h => by cases h)) h_n0) hy
                  have k21_6 := frr.at (h_nm (h_ne hbest h0 (fun h => by cases h)) h_n0) hbest
                  have k21_7 := frr.at (h_nm (h_ne hpartner h0 (fun h => by cases h)) h_n0) hpartner
                  have fr := fr.call frr (by simp)
                  rcases hp_36 with ⟨ho, hr_⟩ | ⟨ho, hr_⟩
                  · skip
                    subst ho
                    refine lv_if_eq (tgt := 44) S0.1 S0.2.1 dMM_patch_39 (by decide) (fun c_39 => ?_) (fun c_39 => ?_)
                    · skip
                      rw [← nI_0] at c_39
                      have c_39 : 1 = 0 := (nI_eq (by omega) (by omega)).mp c_39
                      exact absurd c_39 (by decide)
                    · skip
                      rw [← nI_0] at c_39
                      have c_39 : ¬ (1 = 0) := fun h => c_39 ((nI_eq (by omega) (by omega)).mpr h)
                      refine lv_iconst (v := nI 0) S0.1 S0.2.1 dMM_patch_42 (by decide) ?_
                      have eop : o_patch (nI i) (nI j) (nI k) po S = (1, 0, S) := by unfold o_patch; rw [e_i, e_j, e_k, e_w]
                      have hF2 : ∀ i, i < 18 → g_21 (q i) = some (.inl (cI, mSz i, .inl ((fun i => match i with | 0 => F 0 | 1 => F 1 | 10 => F 10 | 9 => F 9 | 2 => F 2 | 3 => F 3 | 4 => F 4 | 5 => F 5 | i => F i) i))) := by
                        intro i hi
                        match i, hi with
                        | 0, _ => exact k21_0
                        | 1, _ => exact k21_1
                        | 2, _ => exact k21_4
                        | 3, _ => exact k21_5
                        | 4, _ => exact k21_6
                        | 5, _ => exact k21_7
                        | 6, _ => exact fr.at (h_nm (h_ne (hF 6 (by decide)) h0 (fun h => by cases h)) (h_nm (qne hq (by decide) (by decide) (by decide)) (h_nm (qne hq (by decide) (by decide) (by decide)) (h_nm (qne hq (by decide) (by decide) (by decide)) (h_nm (qne hq (by decide) (by decide) (by decide)) (h_nm (qne hq (by decide) (by decide) (by decide)) (h_nm (qne hq (by decide) (by decide) (by decide)) (h_nm (qne hq (by decide) (by decide) (by decide)) (h_nm (qne hq (by decide) (by decide) (by decide)) h_n0))))))))) (hF 6 (by decide))
                        | 7, _ => exact fr.at (h_nm (h_ne (hF 7 (by decide)) h0 (fun h => by cases h)) (h_nm (qne hq (by decide) (by decide) (by decide)) (h_nm (qne hq (by decide) (by decide) (by decide)) (h_nm (qne hq (by decide) (by decide) (by decide)) (h_nm (qne hq (by decide) (by decide) (by decide)) (h_nm (qne hq (by decide) (by decide) (by decide)) (h_nm (qne hq (by decide) (by decide) (by decide)) (h_nm (qne hq (by decide) (by decide) (by decide)) (h_nm (qne hq (by decide) (by decide) (by decide)) h_n0))))))))) (hF 7 (by decide))
                        | 8, _ => exact fr.at (h_nm (h_ne (hF 8 (by decide)) h0 (fun h => by cases h)) (h_nm (qne hq (by decide) (by decide) (by decide)) (h_nm (qne hq (by decide) (by decide) (by decide)) (h_nm (qne hq (by decide) (by decide) (by decide)) (h_nm (qne hq (by decide) (by decide) (by decide)) (h_nm (qne hq (by decide) (by decide) (by decide)) (h_nm (qne hq (by decide) (by decide) (by decide)) (h_nm (qne hq (by decide) (by decide) (by decide)) (h_nm (qne hq (by decide) (by decide) (by decide)) h_n0))))))))) (hF 8 (by decide))
                        | 9, _ => exact k21_3
                        | 10, _ => exact k21_2
                        | 11, _ => exact fr.at (h_nm (h_ne (hF 11 (by decide)) h0 (fun h => by cases h)) (h_nm (qne hq (by decide) (by decide) (by decide)) (h_nm (qne hq (by decide) (by decide) (by decide)) (h_nm (qne hq (by decide) (by decide) (by decide)) (h_nm (qne hq (by decide) (by decide) (by decide)) (h_nm (qne hq (by decide) (by decide) (by decide)) (h_nm (qne hq (by decide) (by decide) (by decide)) (h_nm (qne hq (by decide) (by decide) (by decide)) (h_nm (qne hq (by decide) (by decide) (by decide)) h_n0))))))))) (hF 11 (by decide))
                        | 12, _ => exact fr.at (h_nm (h_ne (hF 12 (by decide)) h0 (fun h => by cases h)) (h_nm (qne hq (by decide) (by decide) (by decide)) (h_nm (qne hq (by decide) (by decide) (by decide)) (h_nm (qne hq (by decide) (by decide) (by decide)) (h_nm (qne hq (by decide) (by decide) (by decide)) (h_nm (qne hq (by decide) (by decide) (by decide)) (h_nm (qne hq (by decide) (by decide) (by decide)) (h_nm (qne hq (by decide) (by decide) (by decide)) (h_nm (qne hq (by decide) (by decide) (by decide)) h_n0))))))))) (hF 12 (by decide))
                        | 13, _ => exact fr.at (h_nm (h_ne (hF 13 (by decide)) h0 (fun h => by cases h)) (h_nm (qne hq (by decide) (by decide) (by decide)) (h_nm (qne hq (by decide) (by decide) (by decide)) (h_nm (qne hq (by decide) (by decide) (by decide)) (h_nm (qne hq (by decide) (by decide) (by decide)) (h_nm (qne hq (by decide) (by decide) (by decide)) (h_nm (qne hq (by decide) (by decide) (by decide)) (h_nm (qne hq (by decide) (by decide) (by decide)) (h_nm (qne hq (by decide) (by decide) (by decide)) h_n0))))))))) (hF 13 (by decide))
                        | 14, _ => exact fr.at (h_nm (h_ne (hF 14 (by decide)) h0 (fun h => by cases h)) (h_nm (qne hq (by decide) (by decide) (by decide)) (h_nm (qne hq (by decide) (by decide) (by decide)) (h_nm (qne hq (by decide) (by decide) (by decide)) (h_nm (qne hq (by decide) (by decide) (by decide)) (h_nm (qne hq (by decide) (by decide) (by decide)) (h_nm (qne hq (by decide) (by decide) (by decide)) (h_nm (qne hq (by decide) (by decide) (by decide)) (h_nm (qne hq (by decide) (by decide) (by decide)) h_n0))))))))) (hF 14 (by decide))
                        | 15, _ => exact fr.at (h_nm (h_ne (hF 15 (by decide)) h0 (fun h => by cases h)) (h_nm (qne hq (by decide) (by decide) (by decide)) (h_nm (qne hq (by decide) (by decide) (by decide)) (h_nm (qne hq (by decide) (by decide) (by decide)) (h_nm (qne hq (by decide) (by decide) (by decide)) (h_nm (qne hq (by decide) (by decide) (by decide)) (h_nm (qne hq (by decide) (by decide) (by decide)) (h_nm (qne hq (by decide) (by decide) (by decide)) (h_nm (qne hq (by decide) (by decide) (by decide)) h_n0))))))))) (hF 15 (by decide))
                        | 16, _ => exact fr.at (h_nm (h_ne (hF 16 (by decide)) h0 (fun h => by cases h)) (h_nm (qne hq (by decide) (by decide) (by decide)) (h_nm (qne hq (by decide) (by decide) (by decide)) (h_nm (qne hq (by decide) (by decide) (by decide)) (h_nm (qne hq (by decide) (by decide) (by decide)) (h_nm (qne hq (by decide) (by decide) (by decide)) (h_nm (qne hq (by decide) (by decide) (by decide)) (h_nm (qne hq (by decide) (by decide) (by decide)) (h_nm (qne hq (by decide) (by decide) (by decide)) h_n0))))))))) (hF 16 (by decide))
                        | 17, _ => exact fr.at (h_nm (h_ne (hF 17 (by decide)) h0 (fun h => by cases h)) (h_nm (qne hq (by decide) (by decide) (by decide)) (h_nm (qne hq (by decide) (by decide) (by decide)) (h_nm (qne hq (by decide) (by decide) (by decide)) (h_nm (qne hq (by decide) (by decide) (by decide)) (h_nm (qne hq (by decide) (by decide) (by decide)) (h_nm (qne hq (by decide) (by decide) (by decide)) (h_nm (qne hq (by decide) (by decide) (by decide)) (h_nm (qne hq (by decide) (by decide) (by decide)) h_n0))))))))) (hF 17 (by decide))
                        | i + 18, h => omega
                      have hrep : repM cI g_21 mm q (o_patch (nI i) (nI j) (nI k) po S).1 (o_patch (nI i) (nI j) (nI k) po S).2.2 := by rw [eop]; exact ⟨hq, hok, v3, v4, v14, v16, v17, v23, (fun i => match i with | 0 => F 0 | 1 => F 1 | 10 => F 10 | 9 => F 9 | 2 => F 2 | 3 => F 3 | 4 => F 4 | 5 => F 5 | i => F i), rm_, hF2, hR_, hA_, hB_, hH_, hC_, hZ_, hV_, hL_⟩
                      have fr9 : hfr g g_21 (mS mm q) := fr.mono (by simp)
                      exact hend _ _ _ _ _ _ _ _ (by decide) (by decide) rfl (⟨fr9, hrep, fun h9 => by rw [eop] at h9 ⊢; cases h9⟩) hg hS dMM_patch_43
                  · skip
                    exact absurd hr_ (by decide)
          · skip
            obtain ⟨ho, hn_k⟩ := hp_16
            subst ho
            have e_k : ix pc 6 = none := ix_none hn_k
            refine lv_if_eq (tgt := 30) S0.1 S0.2.1 dMM_patch_19 (by decide) (fun c_19 => ?_) (fun c_19 => ?_)
            · skip
              rw [← nI_0] at c_19
              have c_19 : 0 = 0 := (nI_eq (by omega) (by omega)).mp c_19
              refine lv_iconst (v := nI 1) S0.1 S0.2.1 dMM_patch_30 (by decide) ?_
              refine lv_goto (tgt := 35) S0.1 S0.2.1 dMM_patch_31 (by decide) ?_
              refine lv_iconst (v := nI 0) S0.1 S0.2.1 dMM_patch_35 (by decide) ?_
              refine hw_Vi (As := [.int (nI 1), .int (nI 0)]) (rest := []) S0 hK hg hS hA0 h0 rfl (c_MM_refuse l D cI cR cJ g _ mm q hq (nI t) v3 v4 (nI S.2.1.length) (nI S.2.2.1.length) v14 v16 v17 (nI S.2.2.2.1.length) v23 (nI S.2.2.2.2.1.length) 1 0 (by decide) (by decide) h0) kMM_refuse lm_MM_72 (hR.call rfl) rfl hl.1 rfl (Nat.le_of_ble_eq_true rfl) dMM_patch_36 (hR.new (by decide) (by decide)) (fun r_36 g_22 H locs hp_36 hg hS => ?_)
              obtain ⟨frr, rm_, hp_36⟩ := hp_36
              have rm_ : g_22 mm = some (mmC q (nI 1) v3 v4 (nI S.2.1.length) (nI S.2.2.1.length) v14 v16 v17 (nI S.2.2.2.1.length) v23 (nI S.2.2.2.2.1.length)) := rm_
              have k22_0 := frr.at (h_nm (h_ne hsizes h0 (fun h => by cases h)) h_n0) hsizes
              have k22_1 := frr.at (h_nm (h_ne hlines h0 (fun h => by cases h)) h_n0) hlines
              have k22_2 := frr.at (h_nm (h_ne hfresh h0 (fun h => by cases h)) h_n0) hfresh
              have k22_3 := frr.at (h_nm (h_ne hpart h0 (fun h => by cases h)) h_n0) hpart
              have k22_4 := frr.at (h_nm (h_ne hx h0 (fun h => by cases h)) h_n0) hx
              have k22_5 := frr.at (h_nm (h_ne hy h0 (fun h => by cases h)) h_n0) hy
              have k22_6 := frr.at (h_nm (h_ne hbest h0 (fun h => by cases h)) h_n0) hbest
              have k22_7 := frr.at (h_nm (h_ne hpartner h0 (fun h => by cases h)) h_n0) hpartner
              have fr := fr.call frr (by simp)
              rcases hp_36 with ⟨ho, hr_⟩ | ⟨ho, hr_⟩
              · skip
                subst ho
                refine lv_if_eq (tgt := 44) S0.1 S0.2.1 dMM_patch_39 (by decide) (fun c_39 => ?_) (fun c_39 => ?_)
                · skip
                  rw [← nI_0] at c_39
                  have c_39 : 1 = 0 := (nI_eq (by omega) (by omega)).mp c_39
                  exact absurd c_39 (by decide)
                · skip
                  rw [← nI_0] at c_39
                  have c_39 : ¬ (1 = 0) := fun h => c_39 ((nI_eq (by omega) (by omega)).mpr h)
                  refine lv_iconst (v := nI 0) S0.1 S0.2.1 dMM_patch_42 (by decide) ?_
                  have eop : o_patch (nI i) (nI j) pc po S = (1, 0, S) := by unfold o_patch; rw [e_i, e_j, e_k]
                  have hF2 : ∀ i, i < 18 → g_22 (q i) = some (.inl (cI, mSz i, .inl ((fun i => match i with | 0 => F 0 | 1 => F 1 | 10 => F 10 | 9 => F 9 | 2 => F 2 | 3 => F 3 | 4 => F 4 | 5 => F 5 | i => F i) i))) := by
                    intro i hi
                    match i, hi with
                    | 0, _ => exact k22_0
                    | 1, _ => exact k22_1
                    | 2, _ => exact k22_4
                    | 3, _ => exact k22_5
                    | 4, _ => exact k22_6
                    | 5, _ => exact k22_7
                    | 6, _ => exact fr.at (h_nm (h_ne (hF 6 (by decide)) h0 (fun h => by cases h)) (h_nm (qne hq (by decide) (by decide) (by decide)) (h_nm (qne hq (by decide) (by decide) (by decide)) (h_nm (qne hq (by decide) (by decide) (by decide)) (h_nm (qne hq (by decide) (by decide) (by decide)) (h_nm (qne hq (by decide) (by decide) (by decide)) (h_nm (qne hq (by decide) (by decide) (by decide)) (h_nm (qne hq (by decide) (by decide) (by decide)) (h_nm (qne hq (by decide) (by decide) (by decide)) h_n0))))))))) (hF 6 (by decide))
                    | 7, _ => exact fr.at (h_nm (h_ne (hF 7 (by decide)) h0 (fun h => by cases h)) (h_nm (qne hq (by decide) (by decide) (by decide)) (h_nm (qne hq (by decide) (by decide) (by decide)) (h_nm (qne hq (by decide) (by decide) (by decide)) (h_nm (qne hq (by decide) (by decide) (by decide)) (h_nm (qne hq (by decide) (by decide) (by decide)) (h_nm (qne hq (by decide) (by decide) (by decide)) (h_nm (qne hq (by decide) (by decide) (by decide)) (h_nm (qne hq (by decide) (by decide) (by decide)) h_n0))))))))) (hF 7 (by decide))
                    | 8, _ => exact fr.at (h_nm (h_ne (hF 8 (by decide)) h0 (fun h => by cases h)) (h_nm (qne hq (by decide) (by decide) (by decide)) (h_nm (qne hq (by decide) (by decide) (by decide)) (h_nm (qne hq (by decide) (by decide) (by decide)) (h_nm (qne hq (by decide) (by decide) (by decide)) (h_nm (qne hq (by decide) (by decide) (by decide)) (h_nm (qne hq (by decide) (by decide) (by decide)) (h_nm (qne hq (by decide) (by decide) (by decide)) (h_nm (qne hq (by decide) (by decide) (by decide)) h_n0))))))))) (hF 8 (by decide))
                    | 9, _ => exact k22_3
                    | 10, _ => exact k22_2
                    | 11, _ => exact fr.at (h_nm (h_ne (hF 11 (by decide)) h0 (fun h => by cases h)) (h_nm (qne hq (by decide) (by decide) (by decide)) (h_nm (qne hq (by decide) (by decide) (by decide)) (h_nm (qne hq (by decide) (by decide) (by decide)) (h_nm (qne hq (by decide) (by decide) (by decide)) (h_nm (qne hq (by decide) (by decide) (by decide)) (h_nm (qne hq (by decide) (by decide) (by decide)) (h_nm (qne hq (by decide) (by decide) (by decide)) (h_nm (qne hq (by decide) (by decide) (by decide)) h_n0))))))))) (hF 11 (by decide))
                    | 12, _ => exact fr.at (h_nm (h_ne (hF 12 (by decide)) h0 (fun h => by cases h)) (h_nm (qne hq (by decide) (by decide) (by decide)) (h_nm (qne hq (by decide) (by decide) (by decide)) (h_nm (qne hq (by decide) (by decide) (by decide)) (h_nm (qne hq (by decide) (by decide) (by decide)) (h_nm (qne hq (by decide) (by decide) (by decide)) (h_nm (qne hq (by decide) (by decide) (by decide)) (h_nm (qne hq (by decide) (by decide) (by decide)) (h_nm (qne hq (by decide) (by decide) (by decide)) h_n0))))))))) (hF 12 (by decide))
                    | 13, _ => exact fr.at (h_nm (h_ne (hF 13 (by decide)) h0 (fun h => by cases h)) (h_nm (qne hq (by decide) (by decide) (by decide)) (h_nm (qne hq (by decide) (by decide) (by decide)) (h_nm (qne hq (by decide) (by decide) (by decide)) (h_nm (qne hq (by decide) (by decide) (by decide)) (h_nm (qne hq (by decide) (by decide) (by decide)) (h_nm (qne hq (by decide) (by decide) (by decide)) (h_nm (qne hq (by decide) (by decide) (by decide)) (h_nm (qne hq (by decide) (by decide) (by decide)) h_n0))))))))) (hF 13 (by decide))
                    | 14, _ => exact fr.at (h_nm (h_ne (hF 14 (by decide)) h0 (fun h => by cases h)) (h_nm (qne hq (by decide) (by decide) (by decide)) (h_nm (qne hq (by decide) (by decide) (by decide)) (h_nm (qne hq (by decide) (by decide) (by decide)) (h_nm (qne hq (by decide) (by decide) (by decide)) (h_nm (qne hq (by decide) (by decide) (by decide)) (h_nm (qne hq (by decide) (by decide) (by decide)) (h_nm (qne hq (by decide) (by decide) (by decide)) (h_nm (qne hq (by decide) (by decide) (by decide)) h_n0))))))))) (hF 14 (by decide))
                    | 15, _ => exact fr.at (h_nm (h_ne (hF 15 (by decide)) h0 (fun h => by cases h)) (h_nm (qne hq (by decide) (by decide) (by decide)) (h_nm (qne hq (by decide) (by decide) (by decide)) (h_nm (qne hq (by decide) (by decide) (by decide)) (h_nm (qne hq (by decide) (by decide) (by decide)) (h_nm (qne hq (by decide) (by decide) (by decide)) (h_nm (qne hq (by decide) (by decide) (by decide)) (h_nm (qne hq (by decide) (by decide) (by decide)) (h_nm (qne hq (by decide) (by decide) (by decide)) h_n0))))))))) (hF 15 (by decide))
                    | 16, _ => exact fr.at (h_nm (h_ne (hF 16 (by decide)) h0 (fun h => by cases h)) (h_nm (qne hq (by decide) (by decide) (by decide)) (h_nm (qne hq (by decide) (by decide) (by decide)) (h_nm (qne hq (by decide) (by decide) (by decide)) (h_nm (qne hq (by decide) (by decide) (by decide)) (h_nm (qne hq (by decide) (by decide) (by decide)) (h_nm (qne hq (by decide) (by decide) (by decide)) (h_nm (qne hq (by decide) (by decide) (by decide)) (h_nm (qne hq (by decide) (by decide) (by decide)) h_n0))))))))) (hF 16 (by decide))
                    | 17, _ => exact fr.at (h_nm (h_ne (hF 17 (by decide)) h0 (fun h => by cases h)) (h_nm (qne hq (by decide) (by decide) (by decide)) (h_nm (qne hq (by decide) (by decide) (by decide)) (h_nm (qne hq (by decide) (by decide) (by decide)) (h_nm (qne hq (by decide) (by decide) (by decide)) (h_nm (qne hq (by decide) (by decide) (by decide)) (h_nm (qne hq (by decide) (by decide) (by decide)) (h_nm (qne hq (by decide) (by decide) (by decide)) (h_nm (qne hq (by decide) (by decide) (by decide)) h_n0))))))))) (hF 17 (by decide))
                    | i + 18, h => omega
                  have hrep : repM cI g_22 mm q (o_patch (nI i) (nI j) pc po S).1 (o_patch (nI i) (nI j) pc po S).2.2 := by rw [eop]; exact ⟨hq, hok, v3, v4, v14, v16, v17, v23, (fun i => match i with | 0 => F 0 | 1 => F 1 | 10 => F 10 | 9 => F 9 | 2 => F 2 | 3 => F 3 | 4 => F 4 | 5 => F 5 | i => F i), rm_, hF2, hR_, hA_, hB_, hH_, hC_, hZ_, hV_, hL_⟩
                  have fr9 : hfr g g_22 (mS mm q) := fr.mono (by simp)
                  exact hend _ _ _ _ _ _ _ _ (by decide) (by decide) rfl (⟨fr9, hrep, fun h9 => by rw [eop] at h9 ⊢; cases h9⟩) hg hS dMM_patch_43
              · skip
                exact absurd hr_ (by decide)
            · skip
              rw [← nI_0] at c_19
              have c_19 : ¬ (0 = 0) := fun h => c_19 ((nI_eq (by omega) (by omega)).mpr h)
              exact absurd c_19 (by decide)
      · skip
        obtain ⟨ho, hn_j⟩ := hp_9
        subst ho
        have e_j : ix pb 6 = none := ix_none hn_j
        refine lv_if_eq (tgt := 30) S0.1 S0.2.1 dMM_patch_12 (by decide) (fun c_12 => ?_) (fun c_12 => ?_)
        · skip
          rw [← nI_0] at c_12
          have c_12 : 0 = 0 := (nI_eq (by omega) (by omega)).mp c_12
          refine lv_iconst (v := nI 1) S0.1 S0.2.1 dMM_patch_30 (by decide) ?_
          refine lv_goto (tgt := 35) S0.1 S0.2.1 dMM_patch_31 (by decide) ?_
          refine lv_iconst (v := nI 0) S0.1 S0.2.1 dMM_patch_35 (by decide) ?_
          refine hw_Vi (As := [.int (nI 1), .int (nI 0)]) (rest := []) S0 hK hg hS hA0 h0 rfl (c_MM_refuse l D cI cR cJ g _ mm q hq (nI t) v3 v4 (nI S.2.1.length) (nI S.2.2.1.length) v14 v16 v17 (nI S.2.2.2.1.length) v23 (nI S.2.2.2.2.1.length) 1 0 (by decide) (by decide) h0) kMM_refuse lm_MM_72 (hR.call rfl) rfl hl.1 rfl (Nat.le_of_ble_eq_true rfl) dMM_patch_36 (hR.new (by decide) (by decide)) (fun r_36 g_23 H locs hp_36 hg hS => ?_)
          obtain ⟨frr, rm_, hp_36⟩ := hp_36
          have rm_ : g_23 mm = some (mmC q (nI 1) v3 v4 (nI S.2.1.length) (nI S.2.2.1.length) v14 v16 v17 (nI S.2.2.2.1.length) v23 (nI S.2.2.2.2.1.length)) := rm_
          have k23_0 := frr.at (h_nm (h_ne hsizes h0 (fun h => by cases h)) h_n0) hsizes
          have k23_1 := frr.at (h_nm (h_ne hlines h0 (fun h => by cases h)) h_n0) hlines
          have k23_2 := frr.at (h_nm (h_ne hfresh h0 (fun h => by cases h)) h_n0) hfresh
          have k23_3 := frr.at (h_nm (h_ne hpart h0 (fun h => by cases h)) h_n0) hpart
          have k23_4 := frr.at (h_nm (h_ne hx h0 (fun h => by cases h)) h_n0) hx
          have k23_5 := frr.at (h_nm (h_ne hy h0 (fun h => by cases h)) h_n0) hy
          have k23_6 := frr.at (h_nm (h_ne hbest h0 (fun h => by cases h)) h_n0) hbest
          have k23_7 := frr.at (h_nm (h_ne hpartner h0 (fun h => by cases h)) h_n0) hpartner
          have fr := fr.call frr (by simp)
          rcases hp_36 with ⟨ho, hr_⟩ | ⟨ho, hr_⟩
          · skip
            subst ho
            refine lv_if_eq (tgt := 44) S0.1 S0.2.1 dMM_patch_39 (by decide) (fun c_39 => ?_) (fun c_39 => ?_)
            · skip
              rw [← nI_0] at c_39
              have c_39 : 1 = 0 := (nI_eq (by omega) (by omega)).mp c_39
              exact absurd c_39 (by decide)
            · skip
              rw [← nI_0] at c_39
              have c_39 : ¬ (1 = 0) := fun h => c_39 ((nI_eq (by omega) (by omega)).mpr h)
              refine lv_iconst (v := nI 0) S0.1 S0.2.1 dMM_patch_42 (by decide) ?_
              have eop : o_patch (nI i) pb pc po S = (1, 0, S) := by unfold o_patch; rw [e_i, e_j]
              have hF2 : ∀ i, i < 18 → g_23 (q i) = some (.inl (cI, mSz i, .inl ((fun i => match i with | 0 => F 0 | 1 => F 1 | 10 => F 10 | 9 => F 9 | 2 => F 2 | 3 => F 3 | 4 => F 4 | 5 => F 5 | i => F i) i))) := by
                intro i hi
                match i, hi with
                | 0, _ => exact k23_0
                | 1, _ => exact k23_1
                | 2, _ => exact k23_4
                | 3, _ => exact k23_5
                | 4, _ => exact k23_6
                | 5, _ => exact k23_7
                | 6, _ => exact fr.at (h_nm (h_ne (hF 6 (by decide)) h0 (fun h => by cases h)) (h_nm (qne hq (by decide) (by decide) (by decide)) (h_nm (qne hq (by decide) (by decide) (by decide)) (h_nm (qne hq (by decide) (by decide) (by decide)) (h_nm (qne hq (by decide) (by decide) (by decide)) (h_nm (qne hq (by decide) (by decide) (by decide)) (h_nm (qne hq (by decide) (by decide) (by decide)) (h_nm (qne hq (by decide) (by decide) (by decide)) (h_nm (qne hq (by decide) (by decide) (by decide)) h_n0))))))))) (hF 6 (by decide))
                | 7, _ => exact fr.at (h_nm (h_ne (hF 7 (by decide)) h0 (fun h => by cases h)) (h_nm (qne hq (by decide) (by decide) (by decide)) (h_nm (qne hq (by decide) (by decide) (by decide)) (h_nm (qne hq (by decide) (by decide) (by decide)) (h_nm (qne hq (by decide) (by decide) (by decide)) (h_nm (qne hq (by decide) (by decide) (by decide)) (h_nm (qne hq (by decide) (by decide) (by decide)) (h_nm (qne hq (by decide) (by decide) (by decide)) (h_nm (qne hq (by decide) (by decide) (by decide)) h_n0))))))))) (hF 7 (by decide))
                | 8, _ => exact fr.at (h_nm (h_ne (hF 8 (by decide)) h0 (fun h => by cases h)) (h_nm (qne hq (by decide) (by decide) (by decide)) (h_nm (qne hq (by decide) (by decide) (by decide)) (h_nm (qne hq (by decide) (by decide) (by decide)) (h_nm (qne hq (by decide) (by decide) (by decide)) (h_nm (qne hq (by decide) (by decide) (by decide)) (h_nm (qne hq (by decide) (by decide) (by decide)) (h_nm (qne hq (by decide) (by decide) (by decide)) (h_nm (qne hq (by decide) (by decide) (by decide)) h_n0))))))))) (hF 8 (by decide))
                | 9, _ => exact k23_3
                | 10, _ => exact k23_2
                | 11, _ => exact fr.at (h_nm (h_ne (hF 11 (by decide)) h0 (fun h => by cases h)) (h_nm (qne hq (by decide) (by decide) (by decide)) (h_nm (qne hq (by decide) (by decide) (by decide)) (h_nm (qne hq (by decide) (by decide) (by decide)) (h_nm (qne hq (by decide) (by decide) (by decide)) (h_nm (qne hq (by decide) (by decide) (by decide)) (h_nm (qne hq (by decide) (by decide) (by decide)) (h_nm (qne hq (by decide) (by decide) (by decide)) (h_nm (qne hq (by decide) (by decide) (by decide)) h_n0))))))))) (hF 11 (by decide))
                | 12, _ => exact fr.at (h_nm (h_ne (hF 12 (by decide)) h0 (fun h => by cases h)) (h_nm (qne hq (by decide) (by decide) (by decide)) (h_nm (qne hq (by decide) (by decide) (by decide)) (h_nm (qne hq (by decide) (by decide) (by decide)) (h_nm (qne hq (by decide) (by decide) (by decide)) (h_nm (qne hq (by decide) (by decide) (by decide)) (h_nm (qne hq (by decide) (by decide) (by decide)) (h_nm (qne hq (by decide) (by decide) (by decide)) (h_nm (qne hq (by decide) (by decide) (by decide)) h_n0))))))))) (hF 12 (by decide))
                | 13, _ => exact fr.at (h_nm (h_ne (hF 13 (by decide)) h0 (fun h => by cases h)) (h_nm (qne hq (by decide) (by decide) (by decide)) (h_nm (qne hq (by decide) (by decide) (by decide)) (h_nm (qne hq (by decide) (by decide) (by decide)) (h_nm (qne hq (by decide) (by decide) (by decide)) (h_nm (qne hq (by decide) (by decide) (by decide)) (h_nm (qne hq (by decide) (by decide) (by decide)) (h_nm (qne hq (by decide) (by decide) (by decide)) (h_nm (qne hq (by decide) (by decide) (by decide)) h_n0))))))))) (hF 13 (by decide))
                | 14, _ => exact fr.at (h_nm (h_ne (hF 14 (by decide)) h0 (fun h => by cases h)) (h_nm (qne hq (by decide) (by decide) (by decide)) (h_nm (qne hq (by decide) (by decide) (by decide)) (h_nm (qne hq (by decide) (by decide) (by decide)) (h_nm (qne hq (by decide) (by decide) (by decide)) (h_nm (qne hq (by decide) (by decide) (by decide)) (h_nm (qne hq (by decide) (by decide) (by decide)) (h_nm (qne hq (by decide) (by decide) (by decide)) (h_nm (qne hq (by decide) (by decide) (by decide)) h_n0))))))))) (hF 14 (by decide))
                | 15, _ => exact fr.at (h_nm (h_ne (hF 15 (by decide)) h0 (fun h => by cases h)) (h_nm (qne hq (by decide) (by decide) (by decide)) (h_nm (qne hq (by decide) (by decide) (by decide)) (h_nm (qne hq (by decide) (by decide) (by decide)) (h_nm (qne hq (by decide) (by decide) (by decide)) (h_nm (qne hq (by decide) (by decide) (by decide)) (h_nm (qne hq (by decide) (by decide) (by decide)) (h_nm (qne hq (by decide) (by decide) (by decide)) (h_nm (qne hq (by decide) (by decide) (by decide)) h_n0))))))))) (hF 15 (by decide))
                | 16, _ => exact fr.at (h_nm (h_ne (hF 16 (by decide)) h0 (fun h => by cases h)) (h_nm (qne hq (by decide) (by decide) (by decide)) (h_nm (qne hq (by decide) (by decide) (by decide)) (h_nm (qne hq (by decide) (by decide) (by decide)) (h_nm (qne hq (by decide) (by decide) (by decide)) (h_nm (qne hq (by decide) (by decide) (by decide)) (h_nm (qne hq (by decide) (by decide) (by decide)) (h_nm (qne hq (by decide) (by decide) (by decide)) (h_nm (qne hq (by decide) (by decide) (by decide)) h_n0))))))))) (hF 16 (by decide))
                | 17, _ => exact fr.at (h_nm (h_ne (hF 17 (by decide)) h0 (fun h => by cases h)) (h_nm (qne hq (by decide) (by decide) (by decide)) (h_nm (qne hq (by decide) (by decide) (by decide)) (h_nm (qne hq (by decide) (by decide) (by decide)) (h_nm (qne hq (by decide) (by decide) (by decide)) (h_nm (qne hq (by decide) (by decide) (by decide)) (h_nm (qne hq (by decide) (by decide) (by decide)) (h_nm (qne hq (by decide) (by decide) (by decide)) (h_nm (qne hq (by decide) (by decide) (by decide)) h_n0))))))))) (hF 17 (by decide))
                | i + 18, h => omega
              have hrep : repM cI g_23 mm q (o_patch (nI i) pb pc po S).1 (o_patch (nI i) pb pc po S).2.2 := by rw [eop]; exact ⟨hq, hok, v3, v4, v14, v16, v17, v23, (fun i => match i with | 0 => F 0 | 1 => F 1 | 10 => F 10 | 9 => F 9 | 2 => F 2 | 3 => F 3 | 4 => F 4 | 5 => F 5 | i => F i), rm_, hF2, hR_, hA_, hB_, hH_, hC_, hZ_, hV_, hL_⟩
              have fr9 : hfr g g_23 (mS mm q) := fr.mono (by simp)
              exact hend _ _ _ _ _ _ _ _ (by decide) (by decide) rfl (⟨fr9, hrep, fun h9 => by rw [eop] at h9 ⊢; cases h9⟩) hg hS dMM_patch_43
          · skip
            exact absurd hr_ (by decide)
        · skip
          rw [← nI_0] at c_12
          have c_12 : ¬ (0 = 0) := fun h => c_12 ((nI_eq (by omega) (by omega)).mpr h)
          exact absurd c_12 (by decide)
  · skip
    obtain ⟨ho, hn_i⟩ := hp_2
    subst ho
    have e_i : ix pa 6 = none := ix_none hn_i
    refine lv_if_eq (tgt := 30) S0.1 S0.2.1 dMM_patch_5 (by decide) (fun c_5 => ?_) (fun c_5 => ?_)
    · skip
      rw [← nI_0] at c_5
      have c_5 : 0 = 0 := (nI_eq (by omega) (by omega)).mp c_5
      refine lv_iconst (v := nI 1) S0.1 S0.2.1 dMM_patch_30 (by decide) ?_
      refine lv_goto (tgt := 35) S0.1 S0.2.1 dMM_patch_31 (by decide) ?_
      refine lv_iconst (v := nI 0) S0.1 S0.2.1 dMM_patch_35 (by decide) ?_
      refine hw_Vi (As := [.int (nI 1), .int (nI 0)]) (rest := []) S0 hK hg hS hA0 h0 rfl (c_MM_refuse l D cI cR cJ g _ mm q hq (nI t) v3 v4 (nI S.2.1.length) (nI S.2.2.1.length) v14 v16 v17 (nI S.2.2.2.1.length) v23 (nI S.2.2.2.2.1.length) 1 0 (by decide) (by decide) h0) kMM_refuse lm_MM_72 (hR.call rfl) rfl hl.1 rfl (Nat.le_of_ble_eq_true rfl) dMM_patch_36 (hR.new (by decide) (by decide)) (fun r_36 g_24 H locs hp_36 hg hS => ?_)
      obtain ⟨frr, rm_, hp_36⟩ := hp_36
      have rm_ : g_24 mm = some (mmC q (nI 1) v3 v4 (nI S.2.1.length) (nI S.2.2.1.length) v14 v16 v17 (nI S.2.2.2.1.length) v23 (nI S.2.2.2.2.1.length)) := rm_
      have k24_0 := frr.at (h_nm (h_ne hsizes h0 (fun h => by cases h)) h_n0) hsizes
      have k24_1 := frr.at (h_nm (h_ne hlines h0 (fun h => by cases h)) h_n0) hlines
      have k24_2 := frr.at (h_nm (h_ne hfresh h0 (fun h => by cases h)) h_n0) hfresh
      have k24_3 := frr.at (h_nm (h_ne hpart h0 (fun h => by cases h)) h_n0) hpart
      have k24_4 := frr.at (h_nm (h_ne hx h0 (fun h => by cases h)) h_n0) hx
      have k24_5 := frr.at (h_nm (h_ne hy h0 (fun h => by cases h)) h_n0) hy
      have k24_6 := frr.at (h_nm (h_ne hbest h0 (fun h => by cases h)) h_n0) hbest
      have k24_7 := frr.at (h_nm (h_ne hpartner h0 (fun h => by cases h)) h_n0) hpartner
      have fr := fr.call frr (by simp)
      rcases hp_36 with ⟨ho, hr_⟩ | ⟨ho, hr_⟩
      · skip
        subst ho
        refine lv_if_eq (tgt := 44) S0.1 S0.2.1 dMM_patch_39 (by decide) (fun c_39 => ?_) (fun c_39 => ?_)
        · skip
          rw [← nI_0] at c_39
          have c_39 : 1 = 0 := (nI_eq (by omega) (by omega)).mp c_39
          exact absurd c_39 (by decide)
        · skip
          rw [← nI_0] at c_39
          have c_39 : ¬ (1 = 0) := fun h => c_39 ((nI_eq (by omega) (by omega)).mpr h)
          refine lv_iconst (v := nI 0) S0.1 S0.2.1 dMM_patch_42 (by decide) ?_
          have eop : o_patch pa pb pc po S = (1, 0, S) := by unfold o_patch; rw [e_i]
          have hF2 : ∀ i, i < 18 → g_24 (q i) = some (.inl (cI, mSz i, .inl ((fun i => match i with | 0 => F 0 | 1 => F 1 | 10 => F 10 | 9 => F 9 | 2 => F 2 | 3 => F 3 | 4 => F 4 | 5 => F 5 | i => F i) i))) := by
            intro i hi
            match i, hi with
            | 0, _ => exact k24_0
            | 1, _ => exact k24_1
            | 2, _ => exact k24_4
            | 3, _ => exact k24_5
            | 4, _ => exact k24_6
            | 5, _ => exact k24_7
            | 6, _ => exact fr.at (h_nm (h_ne (hF 6 (by decide)) h0 (fun h => by cases h)) (h_nm (qne hq (by decide) (by decide) (by decide)) (h_nm (qne hq (by decide) (by decide) (by decide)) (h_nm (qne hq (by decide) (by decide) (by decide)) (h_nm (qne hq (by decide) (by decide) (by decide)) (h_nm (qne hq (by decide) (by decide) (by decide)) (h_nm (qne hq (by decide) (by decide) (by decide)) (h_nm (qne hq (by decide) (by decide) (by decide)) (h_nm (qne hq (by decide) (by decide) (by decide)) h_n0))))))))) (hF 6 (by decide))
            | 7, _ => exact fr.at (h_nm (h_ne (hF 7 (by decide)) h0 (fun h => by cases h)) (h_nm (qne hq (by decide) (by decide) (by decide)) (h_nm (qne hq (by decide) (by decide) (by decide)) (h_nm (qne hq (by decide) (by decide) (by decide)) (h_nm (qne hq (by decide) (by decide) (by decide)) (h_nm (qne hq (by decide) (by decide) (by decide)) (h_nm (qne hq (by decide) (by decide) (by decide)) (h_nm (qne hq (by decide) (by decide) (by decide)) (h_nm (qne hq (by decide) (by decide) (by decide)) h_n0))))))))) (hF 7 (by decide))
            | 8, _ => exact fr.at (h_nm (h_ne (hF 8 (by decide)) h0 (fun h => by cases h)) (h_nm (qne hq (by decide) (by decide) (by decide)) (h_nm (qne hq (by decide) (by decide) (by decide)) (h_nm (qne hq (by decide) (by decide) (by decide)) (h_nm (qne hq (by decide) (by decide) (by decide)) (h_nm (qne hq (by decide) (by decide) (by decide)) (h_nm (qne hq (by decide) (by decide) (by decide)) (h_nm (qne hq (by decide) (by decide) (by decide)) (h_nm (qne hq (by decide) (by decide) (by decide)) h_n0))))))))) (hF 8 (by decide))
            | 9, _ => exact k24_3
            | 10, _ => exact k24_2
            | 11, _ => exact fr.at (h_nm (h_ne (hF 11 (by decide)) h0 (fun h => by cases h)) (h_nm (qne hq (by decide) (by decide) (by decide)) (h_nm (qne hq (by decide) (by decide) (by decide)) (h_nm (qne hq (by decide) (by decide) (by decide)) (h_nm (qne hq (by decide) (by decide) (by decide)) (h_nm (qne hq (by decide) (by decide) (by decide)) (h_nm (qne hq (by decide) (by decide) (by decide)) (h_nm (qne hq (by decide) (by decide) (by decide)) (h_nm (qne hq (by decide) (by decide) (by decide)) h_n0))))))))) (hF 11 (by decide))
            | 12, _ => exact fr.at (h_nm (h_ne (hF 12 (by decide)) h0 (fun h => by cases h)) (h_nm (qne hq (by decide) (by decide) (by decide)) (h_nm (qne hq (by decide) (by decide) (by decide)) (h_nm (qne hq (by decide) (by decide) (by decide)) (h_nm (qne hq (by decide) (by decide) (by decide)) (h_nm (qne hq (by decide) (by decide) (by decide)) (h_nm (qne hq (by decide) (by decide) (by decide)) (h_nm (qne hq (by decide) (by decide) (by decide)) (h_nm (qne hq (by decide) (by decide) (by decide)) h_n0))))))))) (hF 12 (by decide))
            | 13, _ => exact fr.at (h_nm (h_ne (hF 13 (by decide)) h0 (fun h => by cases h)) (h_nm (qne hq (by decide) (by decide) (by decide)) (h_nm (qne hq (by decide) (by decide) (by decide)) (h_nm (qne hq (by decide) (by decide) (by decide)) (h_nm (qne hq (by decide) (by decide) (by decide)) (h_nm (qne hq (by decide) (by decide) (by decide)) (h_nm (qne hq (by decide) (by decide) (by decide)) (h_nm (qne hq (by decide) (by decide) (by decide)) (h_nm (qne hq (by decide) (by decide) (by decide)) h_n0))))))))) (hF 13 (by decide))
            | 14, _ => exact fr.at (h_nm (h_ne (hF 14 (by decide)) h0 (fun h => by cases h)) (h_nm (qne hq (by decide) (by decide) (by decide)) (h_nm (qne hq (by decide) (by decide) (by decide)) (h_nm (qne hq (by decide) (by decide) (by decide)) (h_nm (qne hq (by decide) (by decide) (by decide)) (h_nm (qne hq (by decide) (by decide) (by decide)) (h_nm (qne hq (by decide) (by decide) (by decide)) (h_nm (qne hq (by decide) (by decide) (by decide)) (h_nm (qne hq (by decide) (by decide) (by decide)) h_n0))))))))) (hF 14 (by decide))
            | 15, _ => exact fr.at (h_nm (h_ne (hF 15 (by decide)) h0 (fun h => by cases h)) (h_nm (qne hq (by decide) (by decide) (by decide)) (h_nm (qne hq (by decide) (by decide) (by decide)) (h_nm (qne hq (by decide) (by decide) (by decide)) (h_nm (qne hq (by decide) (by decide) (by decide)) (h_nm (qne hq (by decide) (by decide) (by decide)) (h_nm (qne hq (by decide) (by decide) (by decide)) (h_nm (qne hq (by decide) (by decide) (by decide)) (h_nm (qne hq (by decide) (by decide) (by decide)) h_n0))))))))) (hF 15 (by decide))
            | 16, _ => exact fr.at (h_nm (h_ne (hF 16 (by decide)) h0 (fun h => by cases h)) (h_nm (qne hq (by decide) (by decide) (by decide)) (h_nm (qne hq (by decide) (by decide) (by decide)) (h_nm (qne hq (by decide) (by decide) (by decide)) (h_nm (qne hq (by decide) (by decide) (by decide)) (h_nm (qne hq (by decide) (by decide) (by decide)) (h_nm (qne hq (by decide) (by decide) (by decide)) (h_nm (qne hq (by decide) (by decide) (by decide)) (h_nm (qne hq (by decide) (by decide) (by decide)) h_n0))))))))) (hF 16 (by decide))
            | 17, _ => exact fr.at (h_nm (h_ne (hF 17 (by decide)) h0 (fun h => by cases h)) (h_nm (qne hq (by decide) (by decide) (by decide)) (h_nm (qne hq (by decide) (by decide) (by decide)) (h_nm (qne hq (by decide) (by decide) (by decide)) (h_nm (qne hq (by decide) (by decide) (by decide)) (h_nm (qne hq (by decide) (by decide) (by decide)) (h_nm (qne hq (by decide) (by decide) (by decide)) (h_nm (qne hq (by decide) (by decide) (by decide)) (h_nm (qne hq (by decide) (by decide) (by decide)) h_n0))))))))) (hF 17 (by decide))
            | i + 18, h => omega
          have hrep : repM cI g_24 mm q (o_patch pa pb pc po S).1 (o_patch pa pb pc po S).2.2 := by rw [eop]; exact ⟨hq, hok, v3, v4, v14, v16, v17, v23, (fun i => match i with | 0 => F 0 | 1 => F 1 | 10 => F 10 | 9 => F 9 | 2 => F 2 | 3 => F 3 | 4 => F 4 | 5 => F 5 | i => F i), rm_, hF2, hR_, hA_, hB_, hH_, hC_, hZ_, hV_, hL_⟩
          have fr9 : hfr g g_24 (mS mm q) := fr.mono (by simp)
          exact hend _ _ _ _ _ _ _ _ (by decide) (by decide) rfl (⟨fr9, hrep, fun h9 => by rw [eop] at h9 ⊢; cases h9⟩) hg hS dMM_patch_43
      · skip
        exact absurd hr_ (by decide)
    · skip
      rw [← nI_0] at c_5
      have c_5 : ¬ (0 = 0) := fun h => c_5 ((nI_eq (by omega) (by omega)).mpr h)
      exact absurd c_5 (by decide)
