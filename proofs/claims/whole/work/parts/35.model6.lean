/-! THE REFERENCE, on: merge, patch -/
theorem cfm_id {cf : List N3} (h : ∀ x ∈ cf, x.1 ≤ 60) : cfm cf = cf := by
  unfold cfm
  induction cf with
  | nil => rfl
  | cons x t ih =>
    rw [List.map_cons, ih (fun y hy => h y (List.mem_cons_of_mem _ hy))]
    have := h x (List.mem_cons_self)
    rw [show min x.1 60 = x.1 by omega]
set_option maxRecDepth 100000 in
set_option maxHeartbeats 4000000 in
theorem c_MM_merge (l : Launch) (D : va_G) (cI cR cJ : ClassId) (g : Nat → Option va_E) (sz : Nat) (mm : Nat) (q : Nat → Nat) (t : Nat) (S : ST) (pa pb pc po : Int32) (HM : repM cI g mm q t S) : hMi l yMM_merge cMM_merge 9 .int (hRm 3 110 0 0) D (hT cI cR cJ) g sz [.ref mm, .int pa, .int pb, .int pc, .int po] (fun o g1 => hfr g g1 (mS mm q) ∧ repM cI g1 mm q (o_merge pa pb pc po S).1 (o_merge pa pb pc po S).2.2 ∧ ((o_merge pa pb pc po S).1 = 0 → o = (o_merge pa pb pc po S).2.1)) := by
  refine hMi_of (by decide +kernel) (Nat.le_of_ble_eq_true rfl) ?_
  intro pX eX RX sX mX argsX belowX methX cX QX AX hR S0 hnm hsz hg hK hS hA0 hend ls hl
  have hl : lv_has ls 9 [(0, .ref mm), (1, .int pa), (2, .int pb), (3, .int pc), (4, .int po)] := hl
  obtain ⟨hq, hok, v3, v4, v14, v16, v17, v23, F, h0, hF, hR_, hA_, hB_, hH_, hC_, hZ_, hV_, hL_⟩ := HM
  have hsizes : g (q 0) = some (.inl (cI, 6, .inl (F 0))) := hF 0 (by decide)
  have hlines : g (q 1) = some (.inl (cI, 360, .inl (F 1))) := hF 1 (by decide)
  have hleft : g (q 11) = some (.inl (cI, 60, .inl (F 11))) := hF 11 (by decide)
  have hright : g (q 12) = some (.inl (cI, 60, .inl (F 12))) := hF 12 (by decide)
  have hfresh : g (q 10) = some (.inl (cI, 60, .inl (F 10))) := hF 10 (by decide)
  have hnewConflict : g (q 14) = some (.inl (cI, 400, .inl (F 14))) := hF 14 (by decide)
  have hconflict : g (q 13) = some (.inl (cI, 400, .inl (F 13))) := hF 13 (by decide)
  have hx : g (q 2) = some (.inl (cI, 60, .inl (F 2))) := hF 2 (by decide)
  have hy : g (q 3) = some (.inl (cI, 60, .inl (F 3))) := hF 3 (by decide)
  have hbest : g (q 4) = some (.inl (cI, 3721, .inl (F 4))) := hF 4 (by decide)
  have hpartner : g (q 5) = some (.inl (cI, 60, .inl (F 5))) := hF 5 (by decide)
  have fr : hfr g g [mm, q 0, q 1, q 11, q 12, q 10, q 14, q 13, q 2, q 3, q 4, q 5] := hfr.rf
  refine lv_aload_n S0.1 S0.2.1 dMM_merge_0 rfl (lv_at hl 0 rfl) ?_
  refine lv_iload_n S0.1 S0.2.1 dMM_merge_1 rfl (lv_at hl 1 rfl) ?_
  refine hw_Si (As := [.int pa]) (rest := [.ref mm]) S0 hK hg hS hA0 (c_MM_isRow l D cI cR cJ g _ pa) kMM_isRow lm_MM_68 (hR.call rfl) rfl hl.1 rfl (Nat.le_of_ble_eq_true rfl) dMM_merge_2 (hR.new (by decide) (by decide)) (fun r_2 g_1 H locs hp_2 hg hS => ?_)
  rw [hp_2.1] at hg
  replace hp_2 := hp_2.2
  rcases hp_2 with hp_2 | hp_2
  · skip
    obtain ⟨ho, i, hk_i, rfl⟩ := hp_2
    subst ho
    have e_i : ix (nI i) 6 = some i := ix_some hk_i (by decide)
    refine lv_if_eq (tgt := 30) S0.1 S0.2.1 dMM_merge_5 (by decide) (fun c_5 => ?_) (fun c_5 => ?_)
    · skip
      rw [← nI_0] at c_5
      have c_5 : 1 = 0 := (nI_eq (by omega) (by omega)).mp c_5
      exact absurd c_5 (by decide)
    · skip
      rw [← nI_0] at c_5
      have c_5 : ¬ (1 = 0) := fun h => c_5 ((nI_eq (by omega) (by omega)).mpr h)
      refine lv_iload_n S0.1 S0.2.1 dMM_merge_8 rfl (lv_at hl 2 rfl) ?_
      refine hw_Si (As := [.int pb]) (rest := [.ref mm]) S0 hK hg hS hA0 (c_MM_isRow l D cI cR cJ g _ pb) kMM_isRow lm_MM_68 (hR.call rfl) rfl hl.1 rfl (Nat.le_of_ble_eq_true rfl) dMM_merge_9 (hR.new (by decide) (by decide)) (fun r_9 g_2 H locs hp_9 hg hS => ?_)
      rw [hp_9.1] at hg
      replace hp_9 := hp_9.2
      rcases hp_9 with hp_9 | hp_9
      · skip
        obtain ⟨ho, j, hk_j, rfl⟩ := hp_9
        subst ho
        have e_j : ix (nI j) 6 = some j := ix_some hk_j (by decide)
        refine lv_if_eq (tgt := 30) S0.1 S0.2.1 dMM_merge_12 (by decide) (fun c_12 => ?_) (fun c_12 => ?_)
        · skip
          rw [← nI_0] at c_12
          have c_12 : 1 = 0 := (nI_eq (by omega) (by omega)).mp c_12
          exact absurd c_12 (by decide)
        · skip
          rw [← nI_0] at c_12
          have c_12 : ¬ (1 = 0) := fun h => c_12 ((nI_eq (by omega) (by omega)).mpr h)
          refine lv_iload_n S0.1 S0.2.1 dMM_merge_15 rfl (lv_at hl 3 rfl) ?_
          refine hw_Si (As := [.int pc]) (rest := [.ref mm]) S0 hK hg hS hA0 (c_MM_isRow l D cI cR cJ g _ pc) kMM_isRow lm_MM_68 (hR.call rfl) rfl hl.1 rfl (Nat.le_of_ble_eq_true rfl) dMM_merge_16 (hR.new (by decide) (by decide)) (fun r_16 g_3 H locs hp_16 hg hS => ?_)
          rw [hp_16.1] at hg
          replace hp_16 := hp_16.2
          rcases hp_16 with hp_16 | hp_16
          · skip
            obtain ⟨ho, k, hk_k, rfl⟩ := hp_16
            subst ho
            have e_k : ix (nI k) 6 = some k := ix_some hk_k (by decide)
            refine lv_if_eq (tgt := 30) S0.1 S0.2.1 dMM_merge_19 (by decide) (fun c_19 => ?_) (fun c_19 => ?_)
            · skip
              rw [← nI_0] at c_19
              have c_19 : 1 = 0 := (nI_eq (by omega) (by omega)).mp c_19
              exact absurd c_19 (by decide)
            · skip
              rw [← nI_0] at c_19
              have c_19 : ¬ (1 = 0) := fun h => c_19 ((nI_eq (by omega) (by omega)).mpr h)
              refine lv_iload S0.1 S0.2.1 dMM_merge_22 (lv_at hl 4 rfl) ?_
              refine hw_Si (As := [.int po]) (rest := [.ref mm]) S0 hK hg hS hA0 (c_MM_isRow l D cI cR cJ g _ po) kMM_isRow lm_MM_68 (hR.call rfl) rfl hl.1 rfl (Nat.le_of_ble_eq_true rfl) dMM_merge_24 (hR.new (by decide) (by decide)) (fun r_24 g_4 H locs hp_24 hg hS => ?_)
              rw [hp_24.1] at hg
              replace hp_24 := hp_24.2
              rcases hp_24 with hp_24 | hp_24
              · skip
                obtain ⟨ho, w, hk_w, rfl⟩ := hp_24
                subst ho
                have e_w : ix (nI w) 6 = some w := ix_some hk_w (by decide)
                refine lv_if_ne (tgt := 34) S0.1 S0.2.1 dMM_merge_27 (by decide) (fun c_27 => ?_) (fun c_27 => ?_)
                · skip
                  rw [← nI_0] at c_27
                  have c_27 : ¬ (1 = 0) := fun h => c_27 ((nI_eq (by omega) (by omega)).mpr h)
                  refine lv_iconst (v := nI 0) S0.1 S0.2.1 dMM_merge_34 (by decide) ?_
                  refine lv_iconst (v := nI 0) S0.1 S0.2.1 dMM_merge_35 (by decide) ?_
                  refine hw_Vi (As := [.int (nI 0), .int (nI 0)]) (rest := []) S0 hK hg hS hA0 h0 rfl (c_MM_refuse l D cI cR cJ g _ mm q hq (nI t) v3 v4 (nI S.2.1.length) (nI S.2.2.1.length) v14 v16 v17 (nI S.2.2.2.1.length) v23 (nI S.2.2.2.2.1.length) 0 0 (by decide) (by decide) h0) kMM_refuse lm_MM_72 (hR.call rfl) rfl hl.1 rfl (Nat.le_of_ble_eq_true rfl) dMM_merge_36 (hR.new (by decide) (by decide)) (fun r_36 g_5 H locs hp_36 hg hS => ?_)
                  obtain ⟨frr, rm_, hp_36⟩ := hp_36
                  have rm_ : g_5 mm = some (mmC q (nI 0) v3 v4 (nI S.2.1.length) (nI S.2.2.1.length) v14 v16 v17 (nI S.2.2.2.1.length) v23 (nI S.2.2.2.2.1.length)) := rm_
                  have k5_0 := frr.at (h_nm (h_ne hsizes h0 (fun h => by cases h)) h_n0) hsizes
                  have k5_1 := frr.at (h_nm (h_ne hlines h0 (fun h => by cases h)) h_n0) hlines
                  have k5_2 := frr.at (h_nm (h_ne hleft h0 (fun h => by cases h)) h_n0) hleft
                  have k5_3 := frr.at (h_nm (h_ne hright h0 (fun h => by cases h)) h_n0) hright
                  have k5_4 := frr.at (h_nm (h_ne hfresh h0 (fun h => by cases h)) h_n0) hfresh
                  have k5_5 := frr.at (h_nm (h_ne hnewConflict h0 (fun h => by cases h)) h_n0) hnewConflict
                  have k5_6 := frr.at (h_nm (h_ne hconflict h0 (fun h => by cases h)) h_n0) hconflict
                  have k5_7 := frr.at (h_nm (h_ne hx h0 (fun h => by cases h)) h_n0) hx
                  have k5_8 := frr.at (h_nm (h_ne hy h0 (fun h => by cases h)) h_n0) hy
                  have k5_9 := frr.at (h_nm (h_ne hbest h0 (fun h => by cases h)) h_n0) hbest
                  have k5_10 := frr.at (h_nm (h_ne hpartner h0 (fun h => by cases h)) h_n0) hpartner
                  have fr := fr.call frr (by simp)
                  rcases hp_36 with ⟨ho, hr_⟩ | ⟨ho, hr_⟩
                  · skip
                    exact absurd hr_ (by decide)
                  · skip
                    subst ho
                    refine lv_if_eq (tgt := 44) S0.1 S0.2.1 dMM_merge_39 (by decide) (fun c_39 => ?_) (fun c_39 => ?_)
                    · skip
                      rw [← nI_0] at c_39
                      have c_39 : 0 = 0 := (nI_eq (by omega) (by omega)).mp c_39
                      obtain ⟨t1i, t2i, t3i⟩ := hR_ i hk_i
                      obtain ⟨t1j, t2j, t3j⟩ := hR_ j hk_j
                      obtain ⟨t1k, t2k, t3k⟩ := hR_ k hk_k
                      refine lv_aload_n S0.1 S0.2.1 dMM_merge_44 rfl (lv_at hl 0 rfl) ?_
                      refine lv_iload_n S0.1 S0.2.1 dMM_merge_45 rfl (lv_at hl 1 rfl) ?_
                      refine lv_iload_n S0.1 S0.2.1 dMM_merge_46 rfl (lv_at hl 2 rfl) ?_
                      refine hw_Vv (As := [.int (nI i), .int (nI j)]) (rest := []) S0 hK hg hS hA0 rm_ rfl (c_MM_rows l D cI cR cJ g_5 _ mm q hq (nI 0) v3 v4 (nI S.2.1.length) (nI S.2.2.1.length) v14 v16 v17 (nI S.2.2.2.1.length) v23 (nI S.2.2.2.2.1.length) i j S.1 (F 0) (F 1) (F 2) (F 3) rm_ k5_0 k5_1 k5_7 k5_8 hR_ hk_i hk_j) kMM_rows lm_MM_89 (hR.call rfl) rfl hl.1 rfl (Nat.le_of_ble_eq_true rfl) dMM_merge_47 (hR.new (by decide) (by decide)) (fun g_6 H locs hp_47 hg hS => ?_)
                      obtain ⟨frR47, r047, fx47, fy47, r147, r247, ex47, ey47⟩ := hp_47
                      have k6_0 := frR47.at (h_nm (h_ne k5_0 rm_ (fun h => by cases h)) (h_nm (qne hq (by decide) (by decide) (by decide)) (h_nm (qne hq (by decide) (by decide) (by decide)) h_n0))) k5_0
                      have k6_1 := frR47.at (h_nm (h_ne k5_1 rm_ (fun h => by cases h)) (h_nm (qne hq (by decide) (by decide) (by decide)) (h_nm (qne hq (by decide) (by decide) (by decide)) h_n0))) k5_1
                      have k6_2 := frR47.at (h_nm (h_ne k5_2 rm_ (fun h => by cases h)) (h_nm (qne hq (by decide) (by decide) (by decide)) (h_nm (qne hq (by decide) (by decide) (by decide)) h_n0))) k5_2
                      have k6_3 := frR47.at (h_nm (h_ne k5_3 rm_ (fun h => by cases h)) (h_nm (qne hq (by decide) (by decide) (by decide)) (h_nm (qne hq (by decide) (by decide) (by decide)) h_n0))) k5_3
                      have k6_4 := frR47.at (h_nm (h_ne k5_4 rm_ (fun h => by cases h)) (h_nm (qne hq (by decide) (by decide) (by decide)) (h_nm (qne hq (by decide) (by decide) (by decide)) h_n0))) k5_4
                      have k6_5 := frR47.at (h_nm (h_ne k5_5 rm_ (fun h => by cases h)) (h_nm (qne hq (by decide) (by decide) (by decide)) (h_nm (qne hq (by decide) (by decide) (by decide)) h_n0))) k5_5
                      have k6_6 := frR47.at (h_nm (h_ne k5_6 rm_ (fun h => by cases h)) (h_nm (qne hq (by decide) (by decide) (by decide)) (h_nm (qne hq (by decide) (by decide) (by decide)) h_n0))) k5_6
                      have k6_7 := frR47.at (h_nm (h_ne k5_9 rm_ (fun h => by cases h)) (h_nm (qne hq (by decide) (by decide) (by decide)) (h_nm (qne hq (by decide) (by decide) (by decide)) h_n0))) k5_9
                      have k6_8 := frR47.at (h_nm (h_ne k5_10 rm_ (fun h => by cases h)) (h_nm (qne hq (by decide) (by decide) (by decide)) (h_nm (qne hq (by decide) (by decide) (by decide)) h_n0))) k5_10
                      have fr := fr.call frR47 (by simp)
                      refine lv_aload_n S0.1 S0.2.1 dMM_merge_50 rfl (lv_at hl 0 rfl) ?_
                      refine hw_Vv (As := []) (rest := []) S0 hK hg hS hA0 r047 rfl (c_MM_compare l D cI cR cJ g_6 _ mm q hq (nI 0) (nI S.2.1.length) (nI S.2.2.1.length) v14 v16 v17 (nI S.2.2.2.1.length) v23 (nI S.2.2.2.2.1.length) (S.1 i) (S.1 j) fx47 fy47 (F 4) (F 5) r047 r147 r247 k6_7 k6_8 ex47 ey47 (hok.1 i hk_i) (hok.1 j hk_j)) kMM_compare lm_MM_93 (hR.call rfl) rfl hl.1 rfl (Nat.le_of_ble_eq_true rfl) dMM_merge_51 (hR.new (by decide) (by decide)) (fun g_7 H locs hp_51 hg hS => ?_)
                      obtain ⟨frC51, fb51, fp51, p151, p251, pp51⟩ := hp_51
                      have k7_0 := frC51.at (h_nm (qne hq (by decide) (by decide) (by decide)) (h_nm (qne hq (by decide) (by decide) (by decide)) h_n0)) k6_0
                      have k7_1 := frC51.at (h_nm (qne hq (by decide) (by decide) (by decide)) (h_nm (qne hq (by decide) (by decide) (by decide)) h_n0)) k6_1
                      have k7_2 := frC51.at (h_nm (qne hq (by decide) (by decide) (by decide)) (h_nm (qne hq (by decide) (by decide) (by decide)) h_n0)) k6_2
                      have k7_3 := frC51.at (h_nm (qne hq (by decide) (by decide) (by decide)) (h_nm (qne hq (by decide) (by decide) (by decide)) h_n0)) k6_3
                      have k7_4 := frC51.at (h_nm (qne hq (by decide) (by decide) (by decide)) (h_nm (qne hq (by decide) (by decide) (by decide)) h_n0)) k6_4
                      have k7_5 := frC51.at (h_nm (qne hq (by decide) (by decide) (by decide)) (h_nm (qne hq (by decide) (by decide) (by decide)) h_n0)) k6_5
                      have k7_6 := frC51.at (h_nm (qne hq (by decide) (by decide) (by decide)) (h_nm (qne hq (by decide) (by decide) (by decide)) h_n0)) k6_6
                      have k7_7 := frC51.at (h_nm (h_ne r047 k6_7 (fun h => by cases h)) (h_nm (h_ne r047 k6_8 (fun h => by cases h)) h_n0)) r047
                      have k7_8 := frC51.at (h_nm (qne hq (by decide) (by decide) (by decide)) (h_nm (qne hq (by decide) (by decide) (by decide)) h_n0)) r147
                      have k7_9 := frC51.at (h_nm (qne hq (by decide) (by decide) (by decide)) (h_nm (qne hq (by decide) (by decide) (by decide)) h_n0)) r247
                      have fr := fr.call frC51 (by simp)
                      refine lv_iconst (v := nI 0) S0.1 S0.2.1 dMM_merge_54 (by decide) ?_
                      refine lv_istore (lv' := [(5, .int (nI 0)), (0, .ref mm), (1, .int (nI i)), (2, .int (nI j)), (3, .int (nI k)), (4, .int (nI w))]) S0.1 S0.2.1 dMM_merge_55 hl (by decide) rfl (fun ls hl => ?_)
                      have loop_57 : ∀ (n_57 : Nat) (x57 : Nat) (fl_ : Nat → Int32) (gl57 : Nat → Option va_E) (H : Heap) (locs : List Loc) (ls : Array Slot), (S.1 i).length - x57 < n_57 → (x57 ≤ (S.1 i).length) → (∀ y, y < x57 → fl_ y = fp51 y) → (hfr g gl57 [mm, q 0, q 1, q 11, q 12, q 10, q 14, q 13, q 2, q 3, q 4, q 5]) → (gl57 (q 0) = some (.inl (cI, 6, .inl (F 0)))) → (gl57 (q 1) = some (.inl (cI, 360, .inl (F 1)))) → (gl57 (q 11) = some (.inl (cI, 60, .inl fl_))) → (gl57 (q 12) = some (.inl (cI, 60, .inl (F 12)))) → (gl57 (q 10) = some (.inl (cI, 60, .inl (F 10)))) → (gl57 (q 14) = some (.inl (cI, 400, .inl (F 14)))) → (gl57 (q 13) = some (.inl (cI, 400, .inl (F 13)))) → (gl57 mm = some (mmC q (nI 0) (nI ((S.1 i).length)) (nI ((S.1 j).length)) (nI S.2.1.length) (nI S.2.2.1.length) v14 v16 v17 (nI S.2.2.2.1.length) v23 (nI S.2.2.2.2.1.length))) → (gl57 (q 2) = some (.inl (cI, 60, .inl fx47))) → (gl57 (q 3) = some (.inl (cI, 60, .inl fy47))) → (gl57 (q 4) = some (.inl (cI, 3721, .inl fb51))) → (gl57 (q 5) = some (.inl (cI, 60, .inl fp51))) → hw D hC AX gl57 H → va_S AX sX.heap H locs → lv_has ls 9 [(0, .ref mm), (1, .int (nI i)), (2, .int (nI j)), (3, .int (nI k)), (4, .int (nI w)), (5, .int (nI x57))] → W pX l eX RX sX mX argsX belowX methX cX H locs 0 0 QX (F0 mX 57 ls []) := by
                        intro n_57
                        induction n_57 with
                        | zero => intros; omega
                        | succ n_57 ih_57 =>
                          intro x57 fl_ gl57 H locs ls hm_57 hx57 hc57 fr l57_q0 l57_q1 l57_q11 l57_q12 l57_q10 l57_q14 l57_q13 l57_mm l57_q2 l57_q3 l57_q4 l57_q5 hg hS hl
                          refine lv_iload S0.1 S0.2.1 dMM_merge_57 (lv_at hl 5 rfl) ?_
                          refine lv_aload_n S0.1 S0.2.1 dMM_merge_59 rfl (lv_at hl 0 rfl) ?_
                          refine hw_get S0 hK hg l57_mm rfl inMM 3 (by decide) lf_MM_76 rfl rfl dMM_merge_60 ?_
                          refine lv_icmp_ge (tgt := 86) S0.1 S0.2.1 dMM_merge_63 (by decide) (fun c_63 => ?_) (fun c_63 => ?_)
                          · skip
                            have c_63 : ((S.1 i).length) ≤ x57 := (nI_leI (by omega) (by omega)).mp c_63
                            have hlf : ∀ y, y < (S.1 i).length → fl_ y = oI (pn (S.1 i) (S.1 j) y) := fun y h => by rw [hc57 y (by omega)]; exact pp51 y h
                            refine lv_aload_n S0.1 S0.2.1 dMM_merge_86 rfl (lv_at hl 0 rfl) ?_
                            refine lv_iload_n S0.1 S0.2.1 dMM_merge_87 rfl (lv_at hl 1 rfl) ?_
                            refine lv_iload_n S0.1 S0.2.1 dMM_merge_88 rfl (lv_at hl 3 rfl) ?_
                            refine hw_Vv (As := [.int (nI i), .int (nI k)]) (rest := []) S0 hK hg hS hA0 l57_mm rfl (c_MM_rows l D cI cR cJ gl57 _ mm q hq (nI 0) (nI ((S.1 i).length)) (nI ((S.1 j).length)) (nI S.2.1.length) (nI S.2.2.1.length) v14 v16 v17 (nI S.2.2.2.1.length) v23 (nI S.2.2.2.2.1.length) i k S.1 (F 0) (F 1) fx47 fy47 l57_mm l57_q0 l57_q1 l57_q2 l57_q3 hR_ hk_i hk_k) kMM_rows lm_MM_89 (hR.call rfl) rfl hl.1 rfl (Nat.le_of_ble_eq_true rfl) dMM_merge_89 (hR.new (by decide) (by decide)) (fun g_8 H locs hp_89 hg hS => ?_)
                            obtain ⟨frR89, r089, fx89, fy89, r189, r289, ex89, ey89⟩ := hp_89
                            have k8_0 := frR89.at (h_nm (h_ne l57_q0 l57_mm (fun h => by cases h)) (h_nm (qne hq (by decide) (by decide) (by decide)) (h_nm (qne hq (by decide) (by decide) (by decide)) h_n0))) l57_q0
                            have k8_1 := frR89.at (h_nm (h_ne l57_q1 l57_mm (fun h => by cases h)) (h_nm (qne hq (by decide) (by decide) (by decide)) (h_nm (qne hq (by decide) (by decide) (by decide)) h_n0))) l57_q1
                            have k8_2 := frR89.at (h_nm (h_ne l57_q11 l57_mm (fun h => by cases h)) (h_nm (qne hq (by decide) (by decide) (by decide)) (h_nm (qne hq (by decide) (by decide) (by decide)) h_n0))) l57_q11
                            have k8_3 := frR89.at (h_nm (h_ne l57_q12 l57_mm (fun h => by cases h)) (h_nm (qne hq (by decide) (by decide) (by decide)) (h_nm (qne hq (by decide) (by decide) (by decide)) h_n0))) l57_q12
                            have k8_4 := frR89.at (h_nm (h_ne l57_q10 l57_mm (fun h => by cases h)) (h_nm (qne hq (by decide) (by decide) (by decide)) (h_nm (qne hq (by decide) (by decide) (by decide)) h_n0))) l57_q10
                            have k8_5 := frR89.at (h_nm (h_ne l57_q14 l57_mm (fun h => by cases h)) (h_nm (qne hq (by decide) (by decide) (by decide)) (h_nm (qne hq (by decide) (by decide) (by decide)) h_n0))) l57_q14
                            have k8_6 := frR89.at (h_nm (h_ne l57_q13 l57_mm (fun h => by cases h)) (h_nm (qne hq (by decide) (by decide) (by decide)) (h_nm (qne hq (by decide) (by decide) (by decide)) h_n0))) l57_q13
                            have k8_7 := frR89.at (h_nm (h_ne l57_q4 l57_mm (fun h => by cases h)) (h_nm (qne hq (by decide) (by decide) (by decide)) (h_nm (qne hq (by decide) (by decide) (by decide)) h_n0))) l57_q4
                            have k8_8 := frR89.at (h_nm (h_ne l57_q5 l57_mm (fun h => by cases h)) (h_nm (qne hq (by decide) (by decide) (by decide)) (h_nm (qne hq (by decide) (by decide) (by decide)) h_n0))) l57_q5
                            have fr := fr.call frR89 (by simp)
                            refine lv_aload_n S0.1 S0.2.1 dMM_merge_92 rfl (lv_at hl 0 rfl) ?_
                            refine hw_Vv (As := []) (rest := []) S0 hK hg hS hA0 r089 rfl (c_MM_compare l D cI cR cJ g_8 _ mm q hq (nI 0) (nI S.2.1.length) (nI S.2.2.1.length) v14 v16 v17 (nI S.2.2.2.1.length) v23 (nI S.2.2.2.2.1.length) (S.1 i) (S.1 k) fx89 fy89 fb51 fp51 r089 r189 r289 k8_7 k8_8 ex89 ey89 (hok.1 i hk_i) (hok.1 k hk_k)) kMM_compare lm_MM_93 (hR.call rfl) rfl hl.1 rfl (Nat.le_of_ble_eq_true rfl) dMM_merge_93 (hR.new (by decide) (by decide)) (fun g_9 H locs hp_93 hg hS => ?_)
                            obtain ⟨frC93, fb93, fp93, p193, p293, pp93⟩ := hp_93
                            have k9_0 := frC93.at (h_nm (qne hq (by decide) (by decide) (by decide)) (h_nm (qne hq (by decide) (by decide) (by decide)) h_n0)) k8_0
                            have k9_1 := frC93.at (h_nm (qne hq (by decide) (by decide) (by decide)) (h_nm (qne hq (by decide) (by decide) (by decide)) h_n0)) k8_1
                            have k9_2 := frC93.at (h_nm (qne hq (by decide) (by decide) (by decide)) (h_nm (qne hq (by decide) (by decide) (by decide)) h_n0)) k8_2
                            have k9_3 := frC93.at (h_nm (qne hq (by decide) (by decide) (by decide)) (h_nm (qne hq (by decide) (by decide) (by decide)) h_n0)) k8_3
                            have k9_4 := frC93.at (h_nm (qne hq (by decide) (by decide) (by decide)) (h_nm (qne hq (by decide) (by decide) (by decide)) h_n0)) k8_4
                            have k9_5 := frC93.at (h_nm (qne hq (by decide) (by decide) (by decide)) (h_nm (qne hq (by decide) (by decide) (by decide)) h_n0)) k8_5
                            have k9_6 := frC93.at (h_nm (qne hq (by decide) (by decide) (by decide)) (h_nm (qne hq (by decide) (by decide) (by decide)) h_n0)) k8_6
                            have k9_7 := frC93.at (h_nm (h_ne r089 k8_7 (fun h => by cases h)) (h_nm (h_ne r089 k8_8 (fun h => by cases h)) h_n0)) r089
                            have k9_8 := frC93.at (h_nm (qne hq (by decide) (by decide) (by decide)) (h_nm (qne hq (by decide) (by decide) (by decide)) h_n0)) r189
                            have k9_9 := frC93.at (h_nm (qne hq (by decide) (by decide) (by decide)) (h_nm (qne hq (by decide) (by decide) (by decide)) h_n0)) r289
                            have fr := fr.call frC93 (by simp)
                            refine lv_iconst (v := nI 0) S0.1 S0.2.1 dMM_merge_96 (by decide) ?_
                            refine lv_istore (lv' := [(5, .int (nI 0)), (0, .ref mm), (1, .int (nI i)), (2, .int (nI j)), (3, .int (nI k)), (4, .int (nI w))]) S0.1 S0.2.1 dMM_merge_97 hl (by decide) rfl (fun ls hl => ?_)
                            have loop_99 : ∀ (n_99 : Nat) (x99 : Nat) (fr_ : Nat → Int32) (gl99 : Nat → Option va_E) (H : Heap) (locs : List Loc) (ls : Array Slot), (S.1 i).length - x99 < n_99 → (x99 ≤ (S.1 i).length) → (∀ y, y < x99 → fr_ y = fp93 y) → (hfr g gl99 [mm, q 0, q 1, q 11, q 12, q 10, q 14, q 13, q 2, q 3, q 4, q 5]) → (gl99 (q 0) = some (.inl (cI, 6, .inl (F 0)))) → (gl99 (q 1) = some (.inl (cI, 360, .inl (F 1)))) → (gl99 (q 11) = some (.inl (cI, 60, .inl fl_))) → (gl99 (q 12) = some (.inl (cI, 60, .inl fr_))) → (gl99 (q 10) = some (.inl (cI, 60, .inl (F 10)))) → (gl99 (q 14) = some (.inl (cI, 400, .inl (F 14)))) → (gl99 (q 13) = some (.inl (cI, 400, .inl (F 13)))) → (gl99 mm = some (mmC q (nI 0) (nI ((S.1 i).length)) (nI ((S.1 k).length)) (nI S.2.1.length) (nI S.2.2.1.length) v14 v16 v17 (nI S.2.2.2.1.length) v23 (nI S.2.2.2.2.1.length))) → (gl99 (q 2) = some (.inl (cI, 60, .inl fx89))) → (gl99 (q 3) = some (.inl (cI, 60, .inl fy89))) → (gl99 (q 4) = some (.inl (cI, 3721, .inl fb93))) → (gl99 (q 5) = some (.inl (cI, 60, .inl fp93))) → hw D hC AX gl99 H → va_S AX sX.heap H locs → lv_has ls 9 [(0, .ref mm), (1, .int (nI i)), (2, .int (nI j)), (3, .int (nI k)), (4, .int (nI w)), (5, .int (nI x99))] → W pX l eX RX sX mX argsX belowX methX cX H locs 0 0 QX (F0 mX 99 ls []) := by
                              intro n_99
                              induction n_99 with
                              | zero => intros; omega
                              | succ n_99 ih_99 =>
                                intro x99 fr_ gl99 H locs ls hm_99 hx99 hc99 fr l99_q0 l99_q1 l99_q11 l99_q12 l99_q10 l99_q14 l99_q13 l99_mm l99_q2 l99_q3 l99_q4 l99_q5 hg hS hl
                                refine lv_iload S0.1 S0.2.1 dMM_merge_99 (lv_at hl 5 rfl) ?_
                                refine lv_aload_n S0.1 S0.2.1 dMM_merge_101 rfl (lv_at hl 0 rfl) ?_
                                refine hw_get S0 hK hg l99_mm rfl inMM 3 (by decide) lf_MM_76 rfl rfl dMM_merge_102 ?_
                                refine lv_icmp_ge (tgt := 128) S0.1 S0.2.1 dMM_merge_105 (by decide) (fun c_105 => ?_) (fun c_105 => ?_)
                                · skip
                                  have c_105 : ((S.1 i).length) ≤ x99 := (nI_leI (by omega) (by omega)).mp c_105
                                  have hrt : ∀ y, y < (S.1 i).length → fr_ y = oI (pn (S.1 i) (S.1 k) y) := fun y h => by rw [hc99 y (by omega)]; exact pp93 y h
                                  refine lv_aload_n S0.1 S0.2.1 dMM_merge_128 rfl (lv_at hl 0 rfl) ?_
                                  refine lv_iconst (v := nI 0) S0.1 S0.2.1 dMM_merge_129 (by decide) ?_
                                  refine hw_put S0 hK hg hS l99_mm rfl inMM tyMM tokMM nmMM 16 (by decide) lf_MM_112 rfl rfl rfl rfl (Nat.le_of_ble_eq_true rfl) dMM_merge_130 (fun H locs hg hS => ?_)
                                  obtain ⟨g_10, eg_10⟩ : ∃ z, z = hs gl99 mm (mmC q (nI 0) (nI ((S.1 i).length)) (nI ((S.1 k).length)) (nI S.2.1.length) (nI S.2.2.1.length) v14 (nI 0) v17 (nI S.2.2.2.1.length) v23 (nI S.2.2.2.2.1.length)) := ⟨_, rfl⟩
                                  have hg : hw D hC AX g_10 H := by rw [eg_10]; exact hg
                                  have f10_0 : g_10 (q 0) = some (.inl (cI, 6, .inl (F 0))) := by rw [eg_10, hs_n _ _ (h_ne l99_q0 l99_mm (fun h => by cases h))]; exact l99_q0
                                  have f10_1 : g_10 (q 1) = some (.inl (cI, 360, .inl (F 1))) := by rw [eg_10, hs_n _ _ (h_ne l99_q1 l99_mm (fun h => by cases h))]; exact l99_q1
                                  have f10_2 : g_10 (q 11) = some (.inl (cI, 60, .inl fl_)) := by rw [eg_10, hs_n _ _ (h_ne l99_q11 l99_mm (fun h => by cases h))]; exact l99_q11
                                  have f10_3 : g_10 (q 12) = some (.inl (cI, 60, .inl fr_)) := by rw [eg_10, hs_n _ _ (h_ne l99_q12 l99_mm (fun h => by cases h))]; exact l99_q12
                                  have f10_4 : g_10 (q 10) = some (.inl (cI, 60, .inl (F 10))) := by rw [eg_10, hs_n _ _ (h_ne l99_q10 l99_mm (fun h => by cases h))]; exact l99_q10
                                  have f10_5 : g_10 (q 14) = some (.inl (cI, 400, .inl (F 14))) := by rw [eg_10, hs_n _ _ (h_ne l99_q14 l99_mm (fun h => by cases h))]; exact l99_q14
                                  have f10_6 : g_10 (q 13) = some (.inl (cI, 400, .inl (F 13))) := by rw [eg_10, hs_n _ _ (h_ne l99_q13 l99_mm (fun h => by cases h))]; exact l99_q13
                                  have f10_7 : g_10 (q 2) = some (.inl (cI, 60, .inl fx89)) := by rw [eg_10, hs_n _ _ (h_ne l99_q2 l99_mm (fun h => by cases h))]; exact l99_q2
                                  have f10_8 : g_10 (q 3) = some (.inl (cI, 60, .inl fy89)) := by rw [eg_10, hs_n _ _ (h_ne l99_q3 l99_mm (fun h => by cases h))]; exact l99_q3
                                  have f10_9 : g_10 (q 4) = some (.inl (cI, 3721, .inl fb93)) := by rw [eg_10, hs_n _ _ (h_ne l99_q4 l99_mm (fun h => by cases h))]; exact l99_q4
                                  have f10_10 : g_10 (q 5) = some (.inl (cI, 60, .inl fp93)) := by rw [eg_10, hs_n _ _ (h_ne l99_q5 l99_mm (fun h => by cases h))]; exact l99_q5
                                  have f10_11 : g_10 mm = some (mmC q (nI 0) (nI ((S.1 i).length)) (nI ((S.1 k).length)) (nI S.2.1.length) (nI S.2.2.1.length) v14 (nI 0) v17 (nI S.2.2.2.1.length) v23 (nI S.2.2.2.2.1.length)) := by rw [eg_10]; exact hs_s _ _ _
                                  have fr := fr.put eg_10 (by simp)
                                  refine lv_aload_n S0.1 S0.2.1 dMM_merge_133 rfl (lv_at hl 0 rfl) ?_
                                  refine lv_iconst (v := nI 0) S0.1 S0.2.1 dMM_merge_134 (by decide) ?_
                                  refine hw_put S0 hK hg hS f10_11 rfl inMM tyMM tokMM nmMM 23 (by decide) lf_MM_131 rfl rfl rfl rfl (Nat.le_of_ble_eq_true rfl) dMM_merge_135 (fun H locs hg hS => ?_)
                                  obtain ⟨g_11, eg_11⟩ : ∃ z, z = hs g_10 mm (mmC q (nI 0) (nI ((S.1 i).length)) (nI ((S.1 k).length)) (nI S.2.1.length) (nI S.2.2.1.length) v14 (nI 0) v17 (nI S.2.2.2.1.length) (nI 0) (nI S.2.2.2.2.1.length)) := ⟨_, rfl⟩
                                  have hg : hw D hC AX g_11 H := by rw [eg_11]; exact hg
                                  have f11_0 : g_11 (q 0) = some (.inl (cI, 6, .inl (F 0))) := by rw [eg_11, hs_n _ _ (h_ne f10_0 f10_11 (fun h => by cases h))]; exact f10_0
                                  have f11_1 : g_11 (q 1) = some (.inl (cI, 360, .inl (F 1))) := by rw [eg_11, hs_n _ _ (h_ne f10_1 f10_11 (fun h => by cases h))]; exact f10_1
                                  have f11_2 : g_11 (q 11) = some (.inl (cI, 60, .inl fl_)) := by rw [eg_11, hs_n _ _ (h_ne f10_2 f10_11 (fun h => by cases h))]; exact f10_2
                                  have f11_3 : g_11 (q 12) = some (.inl (cI, 60, .inl fr_)) := by rw [eg_11, hs_n _ _ (h_ne f10_3 f10_11 (fun h => by cases h))]; exact f10_3
                                  have f11_4 : g_11 (q 10) = some (.inl (cI, 60, .inl (F 10))) := by rw [eg_11, hs_n _ _ (h_ne f10_4 f10_11 (fun h => by cases h))]; exact f10_4
                                  have f11_5 : g_11 (q 14) = some (.inl (cI, 400, .inl (F 14))) := by rw [eg_11, hs_n _ _ (h_ne f10_5 f10_11 (fun h => by cases h))]; exact f10_5
                                  have f11_6 : g_11 (q 13) = some (.inl (cI, 400, .inl (F 13))) := by rw [eg_11, hs_n _ _ (h_ne f10_6 f10_11 (fun h => by cases h))]; exact f10_6
                                  have f11_7 : g_11 (q 2) = some (.inl (cI, 60, .inl fx89)) := by rw [eg_11, hs_n _ _ (h_ne f10_7 f10_11 (fun h => by cases h))]; exact f10_7
                                  have f11_8 : g_11 (q 3) = some (.inl (cI, 60, .inl fy89)) := by rw [eg_11, hs_n _ _ (h_ne f10_8 f10_11 (fun h => by cases h))]; exact f10_8
                                  have f11_9 : g_11 (q 4) = some (.inl (cI, 3721, .inl fb93)) := by rw [eg_11, hs_n _ _ (h_ne f10_9 f10_11 (fun h => by cases h))]; exact f10_9
                                  have f11_10 : g_11 (q 5) = some (.inl (cI, 60, .inl fp93)) := by rw [eg_11, hs_n _ _ (h_ne f10_10 f10_11 (fun h => by cases h))]; exact f10_10
                                  have f11_11 : g_11 mm = some (mmC q (nI 0) (nI ((S.1 i).length)) (nI ((S.1 k).length)) (nI S.2.1.length) (nI S.2.2.1.length) v14 (nI 0) v17 (nI S.2.2.2.1.length) (nI 0) (nI S.2.2.2.2.1.length)) := by rw [eg_11]; exact hs_s _ _ _
                                  have fr := fr.put eg_11 (by simp)
                                  refine lv_aload_n S0.1 S0.2.1 dMM_merge_138 rfl (lv_at hl 0 rfl) ?_
                                  refine lv_iconst (v := nI 0) S0.1 S0.2.1 dMM_merge_139 (by decide) ?_
                                  refine hw_put S0 hK hg hS f11_11 rfl inMM tyMM tokMM nmMM 17 (by decide) lf_MM_115 rfl rfl rfl rfl (Nat.le_of_ble_eq_true rfl) dMM_merge_140 (fun H locs hg hS => ?_)
                                  obtain ⟨g_12, eg_12⟩ : ∃ z, z = hs g_11 mm (mmC q (nI 0) (nI ((S.1 i).length)) (nI ((S.1 k).length)) (nI S.2.1.length) (nI S.2.2.1.length) v14 (nI 0) (nI 0) (nI S.2.2.2.1.length) (nI 0) (nI S.2.2.2.2.1.length)) := ⟨_, rfl⟩
                                  have hg : hw D hC AX g_12 H := by rw [eg_12]; exact hg
                                  have f12_0 : g_12 (q 0) = some (.inl (cI, 6, .inl (F 0))) := by rw [eg_12, hs_n _ _ (h_ne f11_0 f11_11 (fun h => by cases h))]; exact f11_0
                                  have f12_1 : g_12 (q 1) = some (.inl (cI, 360, .inl (F 1))) := by rw [eg_12, hs_n _ _ (h_ne f11_1 f11_11 (fun h => by cases h))]; exact f11_1
                                  have f12_2 : g_12 (q 11) = some (.inl (cI, 60, .inl fl_)) := by rw [eg_12, hs_n _ _ (h_ne f11_2 f11_11 (fun h => by cases h))]; exact f11_2
                                  have f12_3 : g_12 (q 12) = some (.inl (cI, 60, .inl fr_)) := by rw [eg_12, hs_n _ _ (h_ne f11_3 f11_11 (fun h => by cases h))]; exact f11_3
                                  have f12_4 : g_12 (q 10) = some (.inl (cI, 60, .inl (F 10))) := by rw [eg_12, hs_n _ _ (h_ne f11_4 f11_11 (fun h => by cases h))]; exact f11_4
                                  have f12_5 : g_12 (q 14) = some (.inl (cI, 400, .inl (F 14))) := by rw [eg_12, hs_n _ _ (h_ne f11_5 f11_11 (fun h => by cases h))]; exact f11_5
                                  have f12_6 : g_12 (q 13) = some (.inl (cI, 400, .inl (F 13))) := by rw [eg_12, hs_n _ _ (h_ne f11_6 f11_11 (fun h => by cases h))]; exact f11_6
                                  have f12_7 : g_12 (q 2) = some (.inl (cI, 60, .inl fx89)) := by rw [eg_12, hs_n _ _ (h_ne f11_7 f11_11 (fun h => by cases h))]; exact f11_7
                                  have f12_8 : g_12 (q 3) = some (.inl (cI, 60, .inl fy89)) := by rw [eg_12, hs_n _ _ (h_ne f11_8 f11_11 (fun h => by cases h))]; exact f11_8
                                  have f12_9 : g_12 (q 4) = some (.inl (cI, 3721, .inl fb93)) := by rw [eg_12, hs_n _ _ (h_ne f11_9 f11_11 (fun h => by cases h))]; exact f11_9
                                  have f12_10 : g_12 (q 5) = some (.inl (cI, 60, .inl fp93)) := by rw [eg_12, hs_n _ _ (h_ne f11_10 f11_11 (fun h => by cases h))]; exact f11_10
                                  have f12_11 : g_12 mm = some (mmC q (nI 0) (nI ((S.1 i).length)) (nI ((S.1 k).length)) (nI S.2.1.length) (nI S.2.2.1.length) v14 (nI 0) (nI 0) (nI S.2.2.2.1.length) (nI 0) (nI S.2.2.2.2.1.length)) := by rw [eg_12]; exact hs_s _ _ _
                                  have fr := fr.put eg_12 (by simp)
                                  refine lv_iconst (v := nI 0) S0.1 S0.2.1 dMM_merge_143 (by decide) ?_
                                  refine lv_istore (lv' := [(5, .int (nI 0)), (0, .ref mm), (1, .int (nI i)), (2, .int (nI j)), (3, .int (nI k)), (4, .int (nI w))]) S0.1 S0.2.1 dMM_merge_144 hl (by decide) rfl (fun ls hl => ?_)
                                  refine lv_iconst (v := nI 0) S0.1 S0.2.1 dMM_merge_146 (by decide) ?_
                                  refine lv_istore (lv' := [(6, .int (nI 0)), (5, .int (nI 0)), (0, .ref mm), (1, .int (nI i)), (2, .int (nI j)), (3, .int (nI k)), (4, .int (nI w))]) S0.1 S0.2.1 dMM_merge_147 hl (by decide) rfl (fun ls hl => ?_)
                                  refine lv_iconst (v := nI 0) S0.1 S0.2.1 dMM_merge_149 (by decide) ?_
                                  refine lv_istore (lv' := [(7, .int (nI 0)), (6, .int (nI 0)), (5, .int (nI 0)), (0, .ref mm), (1, .int (nI i)), (2, .int (nI j)), (3, .int (nI k)), (4, .int (nI w))]) S0.1 S0.2.1 dMM_merge_150 hl (by decide) rfl (fun ls hl => ?_)
                                  refine lv_iconst (v := nI 0) S0.1 S0.2.1 dMM_merge_152 (by decide) ?_
                                  refine lv_istore (lv' := [(8, .int (nI 0)), (7, .int (nI 0)), (6, .int (nI 0)), (5, .int (nI 0)), (0, .ref mm), (1, .int (nI i)), (2, .int (nI j)), (3, .int (nI k)), (4, .int (nI w))]) S0.1 S0.2.1 dMM_merge_153 hl (by decide) rfl (fun ls hl => ?_)
                                  have loop_155 : ∀ (n_155 : Nat) (x : Nat) (a_ : Nat) (la : Nat) (ra : Nat) (ot : List Int32) (cf : List N3) (ff : Nat → Int32) (fn : Nat → Int32) (gm : Nat → Option va_E) (H : Heap) (locs : List Loc) (ls : Array Slot), (S.1 i).length - x < n_155 → (x ≤ (S.1 i).length) → (mg (S.1 i) (S.1 j) (S.1 k) x = (a_, la, ra, ot, cf)) → (frL ff ot) → (rpN fn (fl3 (cfm cf))) → (hfr g gm [mm, q 0, q 1, q 11, q 12, q 10, q 14, q 13, q 2, q 3, q 4, q 5]) → (gm (q 0) = some (.inl (cI, 6, .inl (F 0)))) → (gm (q 1) = some (.inl (cI, 360, .inl (F 1)))) → (gm (q 11) = some (.inl (cI, 60, .inl fl_))) → (gm (q 12) = some (.inl (cI, 60, .inl fr_))) → (gm (q 10) = some (.inl (cI, 60, .inl ff))) → (gm (q 14) = some (.inl (cI, 400, .inl fn))) → (gm (q 13) = some (.inl (cI, 400, .inl (F 13)))) → (gm (q 2) = some (.inl (cI, 60, .inl fx89))) → (gm (q 3) = some (.inl (cI, 60, .inl fy89))) → (gm (q 4) = some (.inl (cI, 3721, .inl fb93))) → (gm (q 5) = some (.inl (cI, 60, .inl fp93))) → (gm mm = some (mmC q (nI 0) (nI ((S.1 i).length)) (nI ((S.1 k).length)) (nI S.2.1.length) (nI S.2.2.1.length) v14 (nI (min ot.length 60)) (nI (tlN ot)) (nI S.2.2.2.1.length) (nI cf.length) (nI S.2.2.2.2.1.length))) → hw D hC AX gm H → va_S AX sX.heap H locs → lv_has ls 9 [(0, .ref mm), (1, .int (nI i)), (2, .int (nI j)), (3, .int (nI k)), (4, .int (nI w)), (5, .int (nI a_)), (6, .int (nI la)), (7, .int (nI ra)), (8, .int (nI x))] → W pX l eX RX sX mX argsX belowX methX cX H locs 0 0 QX (F0 mX 155 ls []) := by
                                    intro n_155
                                    induction n_155 with
                                    | zero => intros; omega
                                    | succ n_155 ih_155 =>
                                      intro x a_ la ra ot cf ff fn gm H locs ls hm_155 hx hst hf hc fr l155_q0 l155_q1 l155_q11 l155_q12 l155_q10 l155_q14 l155_q13 l155_q2 l155_q3 l155_q4 l155_q5 l155_mm hg hS hl
                                      refine lv_iload S0.1 S0.2.1 dMM_merge_155 (lv_at hl 8 rfl) ?_
                                      refine lv_aload_n S0.1 S0.2.1 dMM_merge_157 rfl (lv_at hl 0 rfl) ?_
                                      refine hw_get S0 hK hg l155_mm rfl inMM 1 (by decide) lf_MM_7 rfl rfl dMM_merge_158 ?_
                                      refine lv_iload_n S0.1 S0.2.1 dMM_merge_161 rfl (lv_at hl 1 rfl) ?_
                                      refine hw_iald S0 hK hg l155_q0 0 rfl (by omega) (by omega) dMM_merge_162 ?_
                                      refine hw_top (nI ((S.1 i).length)) t1i ?_
                                      refine lv_icmp_ge (tgt := 265) S0.1 S0.2.1 dMM_merge_163 (by decide) (fun c_163 => ?_) (fun c_163 => ?_)
                                      · skip
                                        have c_163 : ((S.1 i).length) ≤ x := (nI_leI (by omega) (by omega)).mp c_163
                                        have ei : x = (S.1 i).length := by omega
                                        subst ei
                                        have hin := mg_in (S.1 i) (S.1 j) (S.1 k) (S.1 i).length
                                        rw [hst] at hin
                                        dsimp only at hin
                                        have hfl1 := fro_le (S.1 i) (S.1 j) (S.1 i).length
                                        have hfl2 := fro_le (S.1 i) (S.1 k) (S.1 i).length
                                        have hml := mgF_len (S.1 i) (S.1 j) (S.1 k)
                                        have hna := hok.1 i hk_i
                                        refine lv_aload_n S0.1 S0.2.1 dMM_merge_265 rfl (lv_at hl 0 rfl) ?_
                                        refine lv_iload_n S0.1 S0.2.1 dMM_merge_266 rfl (lv_at hl 1 rfl) ?_
                                        refine lv_iload S0.1 S0.2.1 dMM_merge_267 (lv_at hl 5 rfl) ?_
                                        refine lv_aload_n S0.1 S0.2.1 dMM_merge_269 rfl (lv_at hl 0 rfl) ?_
                                        refine hw_get S0 hK hg l155_mm rfl inMM 1 (by decide) lf_MM_7 rfl rfl dMM_merge_270 ?_
                                        refine lv_iload_n S0.1 S0.2.1 dMM_merge_273 rfl (lv_at hl 1 rfl) ?_
                                        refine hw_iald S0 hK hg l155_q0 0 rfl (by omega) (by omega) dMM_merge_274 ?_
                                        refine hw_top (nI ((S.1 i).length)) t1i ?_
                                        refine lv_iload_n S0.1 S0.2.1 dMM_merge_275 rfl (lv_at hl 2 rfl) ?_
                                        refine lv_iload S0.1 S0.2.1 dMM_merge_276 (lv_at hl 6 rfl) ?_
                                        refine lv_aload_n S0.1 S0.2.1 dMM_merge_278 rfl (lv_at hl 0 rfl) ?_
                                        refine hw_get S0 hK hg l155_mm rfl inMM 1 (by decide) lf_MM_7 rfl rfl dMM_merge_279 ?_
                                        refine lv_iload_n S0.1 S0.2.1 dMM_merge_282 rfl (lv_at hl 2 rfl) ?_
                                        refine hw_iald S0 hK hg l155_q0 0 rfl (by omega) (by omega) dMM_merge_283 ?_
                                        refine hw_top (nI ((S.1 j).length)) t1j ?_
                                        refine lv_iload_n S0.1 S0.2.1 dMM_merge_284 rfl (lv_at hl 3 rfl) ?_
                                        refine lv_iload S0.1 S0.2.1 dMM_merge_285 (lv_at hl 7 rfl) ?_
                                        refine lv_aload_n S0.1 S0.2.1 dMM_merge_287 rfl (lv_at hl 0 rfl) ?_
                                        refine hw_get S0 hK hg l155_mm rfl inMM 1 (by decide) lf_MM_7 rfl rfl dMM_merge_288 ?_
                                        refine lv_iload_n S0.1 S0.2.1 dMM_merge_291 rfl (lv_at hl 3 rfl) ?_
                                        refine hw_iald S0 hK hg l155_q0 0 rfl (by omega) (by omega) dMM_merge_292 ?_
                                        refine hw_top (nI ((S.1 k).length)) t1k ?_
                                        refine hw_Vv (As := [.int (nI i), .int (nI a_), .int (nI ((S.1 i).length)), .int (nI j), .int (nI la), .int (nI ((S.1 j).length)), .int (nI k), .int (nI ra), .int (nI ((S.1 k).length))]) (rest := []) S0 hK hg hS hA0 l155_mm rfl (c_MM_joinParts l D cI cR cJ gm _ mm q hq (nI 0) (nI ((S.1 i).length)) (nI ((S.1 k).length)) (nI S.2.1.length) (nI S.2.2.1.length) v14 (nI S.2.2.2.1.length) (nI S.2.2.2.2.1.length) i a_ ((S.1 i).length) j la ((S.1 j).length) k ra ((S.1 k).length) (S.1 i) (S.1 j) (S.1 k) (ot, cf) (F 1) ff fn l155_mm l155_q1 l155_q10 l155_q14 hf hc t3i (hok.1 i hk_i) hk_i t3j (hok.1 j hk_j) hk_j t3k (hok.1 k hk_k) hk_k (by omega) (by omega) (by omega) (by omega) (by omega) (by omega) (show cf.length < 62 by omega)) kMM_joinParts lm_MM_134 (hR.call rfl) rfl hl.1 rfl (Nat.le_of_ble_eq_true rfl) dMM_merge_293 (hR.new (by decide) (by decide)) (fun g_13 H locs hp_293 hg hS => ?_)
                                        have emg : (joinP (S.1 i) (S.1 j) (S.1 k) a_ ((S.1 i).length) la ((S.1 j).length) ra ((S.1 k).length) (ot, cf)) = mgF (S.1 i) (S.1 j) (S.1 k) := by rw [mgF, hst]
                                        rw [emg] at hp_293
                                        obtain ⟨frJ, fJ, fN, j0, j1, j4, j2, j3⟩ := hp_293
                                        have k13_0 := frJ.at (h_nm (h_ne l155_q0 l155_mm (fun h => by cases h)) (h_nm (qne hq (by decide) (by decide) (by decide)) (h_nm (qne hq (by decide) (by decide) (by decide)) h_n0))) l155_q0
                                        have k13_1 := frJ.at (h_nm (h_ne l155_q1 l155_mm (fun h => by cases h)) (h_nm (qne hq (by decide) (by decide) (by decide)) (h_nm (qne hq (by decide) (by decide) (by decide)) h_n0))) l155_q1
                                        have k13_2 := frJ.at (h_nm (h_ne l155_q11 l155_mm (fun h => by cases h)) (h_nm (qne hq (by decide) (by decide) (by decide)) (h_nm (qne hq (by decide) (by decide) (by decide)) h_n0))) l155_q11
                                        have k13_3 := frJ.at (h_nm (h_ne l155_q12 l155_mm (fun h => by cases h)) (h_nm (qne hq (by decide) (by decide) (by decide)) (h_nm (qne hq (by decide) (by decide) (by decide)) h_n0))) l155_q12
                                        have k13_4 := frJ.at (h_nm (h_ne l155_q13 l155_mm (fun h => by cases h)) (h_nm (qne hq (by decide) (by decide) (by decide)) (h_nm (qne hq (by decide) (by decide) (by decide)) h_n0))) l155_q13
                                        have k13_5 := frJ.at (h_nm (h_ne l155_q2 l155_mm (fun h => by cases h)) (h_nm (qne hq (by decide) (by decide) (by decide)) (h_nm (qne hq (by decide) (by decide) (by decide)) h_n0))) l155_q2
                                        have k13_6 := frJ.at (h_nm (h_ne l155_q3 l155_mm (fun h => by cases h)) (h_nm (qne hq (by decide) (by decide) (by decide)) (h_nm (qne hq (by decide) (by decide) (by decide)) h_n0))) l155_q3
                                        have k13_7 := frJ.at (h_nm (h_ne l155_q4 l155_mm (fun h => by cases h)) (h_nm (qne hq (by decide) (by decide) (by decide)) (h_nm (qne hq (by decide) (by decide) (by decide)) h_n0))) l155_q4
                                        have k13_8 := frJ.at (h_nm (h_ne l155_q5 l155_mm (fun h => by cases h)) (h_nm (qne hq (by decide) (by decide) (by decide)) (h_nm (qne hq (by decide) (by decide) (by decide)) h_n0))) l155_q5
                                        have fr := fr.call frJ (by simp)
                                        rcases Nat.lt_or_ge 60 (mgF (S.1 i) (S.1 j) (S.1 k)).1.length with hM | hM
                                        · skip
                                          have etl : tlN (mgF (S.1 i) (S.1 j) (S.1 k)).1 = 1 := if_pos (by omega)
                                          have hm8 := j0
                                          rw [etl] at hm8
                                          refine lv_aload_n S0.1 S0.2.1 dMM_merge_296 rfl (lv_at hl 0 rfl) ?_
                                          refine lv_iconst (v := nI 0) S0.1 S0.2.1 dMM_merge_297 (by decide) ?_
                                          refine lv_aload_n S0.1 S0.2.1 dMM_merge_298 rfl (lv_at hl 0 rfl) ?_
                                          refine hw_get S0 hK hg hm8 rfl inMM 17 (by decide) lf_MM_115 rfl rfl dMM_merge_299 ?_
                                          refine hw_Vi (As := [.int (nI 0), .int (nI 1)]) (rest := []) S0 hK hg hS hA0 hm8 rfl (c_MM_refuse l D cI cR cJ g_13 _ mm q hq (nI 0) (nI ((S.1 i).length)) (nI ((S.1 k).length)) (nI S.2.1.length) (nI S.2.2.1.length) v14 (nI (min (mgF (S.1 i) (S.1 j) (S.1 k)).1.length 60)) (nI 1) (nI S.2.2.2.1.length) (nI ((mgF (S.1 i) (S.1 j) (S.1 k)).2.length)) (nI S.2.2.2.2.1.length) 0 1 (by decide) (by decide) hm8) kMM_refuse lm_MM_72 (hR.call rfl) rfl hl.1 rfl (Nat.le_of_ble_eq_true rfl) dMM_merge_302 (hR.new (by decide) (by decide)) (fun r_302 g_14 H locs hp_302 hg hS => ?_)
                                          obtain ⟨frr, rm_, hp_302⟩ := hp_302
                                          have rm_ : g_14 mm = some (mmC q (nI 2) (nI ((S.1 i).length)) (nI ((S.1 k).length)) (nI S.2.1.length) (nI S.2.2.1.length) v14 (nI (min (mgF (S.1 i) (S.1 j) (S.1 k)).1.length 60)) (nI 1) (nI S.2.2.2.1.length) (nI ((mgF (S.1 i) (S.1 j) (S.1 k)).2.length)) (nI S.2.2.2.2.1.length)) := rm_
                                          have k14_0 := frr.at (h_nm (h_ne k13_0 hm8 (fun h => by cases h)) h_n0) k13_0
                                          have k14_1 := frr.at (h_nm (h_ne k13_1 hm8 (fun h => by cases h)) h_n0) k13_1
                                          have k14_2 := frr.at (h_nm (h_ne k13_2 hm8 (fun h => by cases h)) h_n0) k13_2
                                          have k14_3 := frr.at (h_nm (h_ne k13_3 hm8 (fun h => by cases h)) h_n0) k13_3
                                          have k14_4 := frr.at (h_nm (h_ne k13_4 hm8 (fun h => by cases h)) h_n0) k13_4
                                          have k14_5 := frr.at (h_nm (h_ne k13_5 hm8 (fun h => by cases h)) h_n0) k13_5
                                          have k14_6 := frr.at (h_nm (h_ne k13_6 hm8 (fun h => by cases h)) h_n0) k13_6
                                          have k14_7 := frr.at (h_nm (h_ne k13_7 hm8 (fun h => by cases h)) h_n0) k13_7
                                          have k14_8 := frr.at (h_nm (h_ne k13_8 hm8 (fun h => by cases h)) h_n0) k13_8
                                          have k14_9 := frr.at (h_nm (h_ne j1 hm8 (fun h => by cases h)) h_n0) j1
                                          have k14_10 := frr.at (h_nm (h_ne j4 hm8 (fun h => by cases h)) h_n0) j4
                                          have fr := fr.call frr (by simp)
                                          rcases hp_302 with ⟨ho, hr_⟩ | ⟨ho, hr_⟩
                                          · skip
                                            subst ho
                                            refine lv_if_eq (tgt := 310) S0.1 S0.2.1 dMM_merge_305 (by decide) (fun c_305 => ?_) (fun c_305 => ?_)
                                            · skip
                                              rw [← nI_0] at c_305
                                              have c_305 : 1 = 0 := (nI_eq (by omega) (by omega)).mp c_305
                                              exact absurd c_305 (by decide)
                                            · skip
                                              rw [← nI_0] at c_305
                                              have c_305 : ¬ (1 = 0) := fun h => c_305 ((nI_eq (by omega) (by omega)).mpr h)
                                              refine lv_iconst (v := nI 0) S0.1 S0.2.1 dMM_merge_308 (by decide) ?_
                                              have hF2 : ∀ i, i < 18 → g_14 (q i) = some (.inl (cI, mSz i, .inl ((fun i => match i with | 0 => F 0 | 1 => F 1 | 11 => fl_ | 12 => fr_ | 10 => fJ | 14 => fN | 13 => F 13 | 2 => fx89 | 3 => fy89 | 4 => fb93 | 5 => fp93 | i => F i) i))) := by
                                                intro i hi
                                                match i, hi with
                                                | 0, _ => exact k14_0
                                                | 1, _ => exact k14_1
                                                | 2, _ => exact k14_5
                                                | 3, _ => exact k14_6
                                                | 4, _ => exact k14_7
                                                | 5, _ => exact k14_8
                                                | 6, _ => exact fr.at (h_nm (h_ne (hF 6 (by decide)) h0 (fun h => by cases h)) (h_nm (qne hq (by decide) (by decide) (by decide)) (h_nm (qne hq (by decide) (by decide) (by decide)) (h_nm (qne hq (by decide) (by decide) (by decide)) (h_nm (qne hq (by decide) (by decide) (by decide)) (h_nm (qne hq (by decide) (by decide) (by decide)) (h_nm (qne hq (by decide) (by decide) (by decide)) (h_nm (qne hq (by decide) (by decide) (by decide)) (h_nm (qne hq (by decide) (by decide) (by decide)) (h_nm (qne hq (by decide) (by decide) (by decide)) (h_nm (qne hq (by decide) (by decide) (by decide)) (h_nm (qne hq (by decide) (by decide) (by decide)) h_n0)))))))))))) (hF 6 (by decide))
                                                | 7, _ => exact fr.at (h_nm (h_ne (hF 7 (by decide)) h0 (fun h => by cases h)) (h_nm (qne hq (by decide) (by decide) (by decide)) (h_nm (qne hq (by decide) (by decide) (by decide)) (h_nm (qne hq (by decide) (by decide) (by decide)) (h_nm (qne hq (by decide) (by decide) (by decide)) (h_nm (qne hq (by decide) (by decide) (by decide)) (h_nm (qne hq (by decide) (by decide) (by decide)) (h_nm (qne hq (by decide) (by decide) (by decide)) (h_nm (qne hq (by decide) (by decide) (by decide)) (h_nm (qne hq (by decide) (by decide) (by decide)) (h_nm (qne hq (by decide) (by decide) (by decide)) (h_nm (qne hq (by decide) (by decide) (by decide)) h_n0)))))))))))) (hF 7 (by decide))
                                                | 8, _ => exact fr.at (h_nm (h_ne (hF 8 (by decide)) h0 (fun h => by cases h)) (h_nm (qne hq (by decide) (by decide) (by decide)) (h_nm (qne hq (by decide) (by decide) (by decide)) (h_nm (qne hq (by decide) (by decide) (by decide)) (h_nm (qne hq (by decide) (by decide) (by decide)) (h_nm (qne hq (by decide) (by decide) (by decide)) (h_nm (qne hq (by decide) (by decide) (by decide)) (h_nm (qne hq (by decide) (by decide) (by decide)) (h_nm (qne hq (by decide) (by decide) (by decide)) (h_nm (qne hq (by decide) (by decide) (by decide)) (h_nm (qne hq (by decide) (by decide) (by decide)) (h_nm (qne hq (by decide) (by decide) (by decide)) h_n0)))))))))))) (hF 8 (by decide))
                                                | 9, _ => exact fr.at (h_nm (h_ne (hF 9 (by decide)) h0 (fun h => by cases h)) (h_nm (qne hq (by decide) (by decide) (by decide)) (h_nm (qne hq (by decide) (by decide) (by decide)) (h_nm (qne hq (by decide) (by decide) (by decide)) (h_nm (qne hq (by decide) (by decide) (by decide)) (h_nm (qne hq (by decide) (by decide) (by decide)) (h_nm (qne hq (by decide) (by decide) (by decide)) (h_nm (qne hq (by decide) (by decide) (by decide)) (h_nm (qne hq (by decide) (by decide) (by decide)) (h_nm (qne hq (by decide) (by decide) (by decide)) (h_nm (qne hq (by decide) (by decide) (by decide)) (h_nm (qne hq (by decide) (by decide) (by decide)) h_n0)))))))))))) (hF 9 (by decide))
                                                | 10, _ => exact k14_9
                                                | 11, _ => exact k14_2
                                                | 12, _ => exact k14_3
                                                | 13, _ => exact k14_4
                                                | 14, _ => exact k14_10
                                                | 15, _ => exact fr.at (h_nm (h_ne (hF 15 (by decide)) h0 (fun h => by cases h)) (h_nm (qne hq (by decide) (by decide) (by decide)) (h_nm (qne hq (by decide) (by decide) (by decide)) (h_nm (qne hq (by decide) (by decide) (by decide)) (h_nm (qne hq (by decide) (by decide) (by decide)) (h_nm (qne hq (by decide) (by decide) (by decide)) (h_nm (qne hq (by decide) (by decide) (by decide)) (h_nm (qne hq (by decide) (by decide) (by decide)) (h_nm (qne hq (by decide) (by decide) (by decide)) (h_nm (qne hq (by decide) (by decide) (by decide)) (h_nm (qne hq (by decide) (by decide) (by decide)) (h_nm (qne hq (by decide) (by decide) (by decide)) h_n0)))))))))))) (hF 15 (by decide))
                                                | 16, _ => exact fr.at (h_nm (h_ne (hF 16 (by decide)) h0 (fun h => by cases h)) (h_nm (qne hq (by decide) (by decide) (by decide)) (h_nm (qne hq (by decide) (by decide) (by decide)) (h_nm (qne hq (by decide) (by decide) (by decide)) (h_nm (qne hq (by decide) (by decide) (by decide)) (h_nm (qne hq (by decide) (by decide) (by decide)) (h_nm (qne hq (by decide) (by decide) (by decide)) (h_nm (qne hq (by decide) (by decide) (by decide)) (h_nm (qne hq (by decide) (by decide) (by decide)) (h_nm (qne hq (by decide) (by decide) (by decide)) (h_nm (qne hq (by decide) (by decide) (by decide)) (h_nm (qne hq (by decide) (by decide) (by decide)) h_n0)))))))))))) (hF 16 (by decide))
                                                | 17, _ => exact fr.at (h_nm (h_ne (hF 17 (by decide)) h0 (fun h => by cases h)) (h_nm (qne hq (by decide) (by decide) (by decide)) (h_nm (qne hq (by decide) (by decide) (by decide)) (h_nm (qne hq (by decide) (by decide) (by decide)) (h_nm (qne hq (by decide) (by decide) (by decide)) (h_nm (qne hq (by decide) (by decide) (by decide)) (h_nm (qne hq (by decide) (by decide) (by decide)) (h_nm (qne hq (by decide) (by decide) (by decide)) (h_nm (qne hq (by decide) (by decide) (by decide)) (h_nm (qne hq (by decide) (by decide) (by decide)) (h_nm (qne hq (by decide) (by decide) (by decide)) (h_nm (qne hq (by decide) (by decide) (by decide)) h_n0)))))))))))) (hF 17 (by decide))
                                                | i + 18, h => omega
                                              have hrep : repM cI g_14 mm q (o_merge (nI i) (nI j) (nI k) (nI w) S).1 (o_merge (nI i) (nI j) (nI k) (nI w) S).2.2 := by rw [show o_merge (nI i) (nI j) (nI k) (nI w) S = (2, 0, S) by unfold o_merge; rw [e_i, e_j, e_k, e_w]; exact if_neg (by omega)]; exact ⟨hq, hok, (nI ((S.1 i).length)), (nI ((S.1 k).length)), v14, (nI (min (mgF (S.1 i) (S.1 j) (S.1 k)).1.length 60)), (nI 1), (nI ((mgF (S.1 i) (S.1 j) (S.1 k)).2.length)), (fun i => match i with | 0 => F 0 | 1 => F 1 | 11 => fl_ | 12 => fr_ | 10 => fJ | 14 => fN | 13 => F 13 | 2 => fx89 | 3 => fy89 | 4 => fb93 | 5 => fp93 | i => F i), rm_, hF2, hR_, hA_, hB_, hH_, hC_, hZ_, hV_, hL_⟩
                                              have fr9 : hfr g g_14 (mS mm q) := fr.mono (by simp)
                                              exact hend _ _ _ _ _ _ _ _ (by decide) (by decide) rfl (⟨fr9, hrep, fun h9 => by rw [show o_merge (nI i) (nI j) (nI k) (nI w) S = (2, 0, S) by unfold o_merge; rw [e_i, e_j, e_k, e_w]; exact if_neg (by omega)] at h9 ⊢; cases h9⟩) hg hS dMM_merge_309
                                          · skip
                                            exact absurd hr_ (by decide)
                                        · skip
                                          have etl : tlN (mgF (S.1 i) (S.1 j) (S.1 k)).1 = 0 := if_neg (by omega)
                                          have hm8 := j0
                                          rw [etl] at hm8
                                          refine lv_aload_n S0.1 S0.2.1 dMM_merge_296 rfl (lv_at hl 0 rfl) ?_
                                          refine lv_iconst (v := nI 0) S0.1 S0.2.1 dMM_merge_297 (by decide) ?_
                                          refine lv_aload_n S0.1 S0.2.1 dMM_merge_298 rfl (lv_at hl 0 rfl) ?_
                                          refine hw_get S0 hK hg hm8 rfl inMM 17 (by decide) lf_MM_115 rfl rfl dMM_merge_299 ?_
                                          refine hw_Vi (As := [.int (nI 0), .int (nI 0)]) (rest := []) S0 hK hg hS hA0 hm8 rfl (c_MM_refuse l D cI cR cJ g_13 _ mm q hq (nI 0) (nI ((S.1 i).length)) (nI ((S.1 k).length)) (nI S.2.1.length) (nI S.2.2.1.length) v14 (nI (min (mgF (S.1 i) (S.1 j) (S.1 k)).1.length 60)) (nI 0) (nI S.2.2.2.1.length) (nI ((mgF (S.1 i) (S.1 j) (S.1 k)).2.length)) (nI S.2.2.2.2.1.length) 0 0 (by decide) (by decide) hm8) kMM_refuse lm_MM_72 (hR.call rfl) rfl hl.1 rfl (Nat.le_of_ble_eq_true rfl) dMM_merge_302 (hR.new (by decide) (by decide)) (fun r_302 g_15 H locs hp_302 hg hS => ?_)
                                          obtain ⟨frr, rm_, hp_302⟩ := hp_302
                                          have rm_ : g_15 mm = some (mmC q (nI 0) (nI ((S.1 i).length)) (nI ((S.1 k).length)) (nI S.2.1.length) (nI S.2.2.1.length) v14 (nI (min (mgF (S.1 i) (S.1 j) (S.1 k)).1.length 60)) (nI 0) (nI S.2.2.2.1.length) (nI ((mgF (S.1 i) (S.1 j) (S.1 k)).2.length)) (nI S.2.2.2.2.1.length)) := rm_
                                          have k15_0 := frr.at (h_nm (h_ne k13_0 hm8 (fun h => by cases h)) h_n0) k13_0
                                          have k15_1 := frr.at (h_nm (h_ne k13_1 hm8 (fun h => by cases h)) h_n0) k13_1
                                          have k15_2 := frr.at (h_nm (h_ne k13_2 hm8 (fun h => by cases h)) h_n0) k13_2
                                          have k15_3 := frr.at (h_nm (h_ne k13_3 hm8 (fun h => by cases h)) h_n0) k13_3
                                          have k15_4 := frr.at (h_nm (h_ne k13_4 hm8 (fun h => by cases h)) h_n0) k13_4
                                          have k15_5 := frr.at (h_nm (h_ne k13_5 hm8 (fun h => by cases h)) h_n0) k13_5
                                          have k15_6 := frr.at (h_nm (h_ne k13_6 hm8 (fun h => by cases h)) h_n0) k13_6
                                          have k15_7 := frr.at (h_nm (h_ne k13_7 hm8 (fun h => by cases h)) h_n0) k13_7
                                          have k15_8 := frr.at (h_nm (h_ne k13_8 hm8 (fun h => by cases h)) h_n0) k13_8
                                          have k15_9 := frr.at (h_nm (h_ne j1 hm8 (fun h => by cases h)) h_n0) j1
                                          have k15_10 := frr.at (h_nm (h_ne j4 hm8 (fun h => by cases h)) h_n0) j4
                                          have fr := fr.call frr (by simp)
                                          rcases hp_302 with ⟨ho, hr_⟩ | ⟨ho, hr_⟩
                                          · skip
                                            exact absurd hr_ (by decide)
                                          · skip
                                            subst ho
                                            refine lv_if_eq (tgt := 310) S0.1 S0.2.1 dMM_merge_305 (by decide) (fun c_305 => ?_) (fun c_305 => ?_)
                                            · skip
                                              rw [← nI_0] at c_305
                                              have c_305 : 0 = 0 := (nI_eq (by omega) (by omega)).mp c_305
                                              refine lv_aload_n S0.1 S0.2.1 dMM_merge_310 rfl (lv_at hl 0 rfl) ?_
                                              refine lv_iload S0.1 S0.2.1 dMM_merge_311 (lv_at hl 4 rfl) ?_
                                              refine hw_Vv (As := [.int (nI w)]) (rest := []) S0 hK hg hS hA0 rm_ rfl (c_MM_become l D cI cR cJ g_15 _ mm q hq (nI 0) (nI ((S.1 i).length)) (nI ((S.1 k).length)) (nI S.2.1.length) (nI S.2.2.1.length) v14 (nI S.2.2.2.1.length) (nI ((mgF (S.1 i) (S.1 j) (S.1 k)).2.length)) (nI S.2.2.2.2.1.length) w (mgF (S.1 i) (S.1 j) (S.1 k)).1 S.1 (F 0) (F 1) fJ (by rw [etl]; exact rm_) k15_0 k15_1 k15_9 j2 hM hk_w hR_) kMM_become lm_MM_138 (hR.call rfl) rfl hl.1 rfl (Nat.le_of_ble_eq_true rfl) dMM_merge_313 (hR.new (by decide) (by decide)) (fun g_16 H locs hp_313 hg hS => ?_)
                                              obtain ⟨frB, fS, fL, b0, b1, hR2⟩ := hp_313
                                              have k16_0 := frB.at (h_nm (qne hq (by decide) (by decide) (by decide)) (h_nm (qne hq (by decide) (by decide) (by decide)) h_n0)) k15_2
                                              have k16_1 := frB.at (h_nm (qne hq (by decide) (by decide) (by decide)) (h_nm (qne hq (by decide) (by decide) (by decide)) h_n0)) k15_3
                                              have k16_2 := frB.at (h_nm (qne hq (by decide) (by decide) (by decide)) (h_nm (qne hq (by decide) (by decide) (by decide)) h_n0)) k15_4
                                              have k16_3 := frB.at (h_nm (qne hq (by decide) (by decide) (by decide)) (h_nm (qne hq (by decide) (by decide) (by decide)) h_n0)) k15_5
                                              have k16_4 := frB.at (h_nm (qne hq (by decide) (by decide) (by decide)) (h_nm (qne hq (by decide) (by decide) (by decide)) h_n0)) k15_6
                                              have k16_5 := frB.at (h_nm (qne hq (by decide) (by decide) (by decide)) (h_nm (qne hq (by decide) (by decide) (by decide)) h_n0)) k15_7
                                              have k16_6 := frB.at (h_nm (qne hq (by decide) (by decide) (by decide)) (h_nm (qne hq (by decide) (by decide) (by decide)) h_n0)) k15_8
                                              have k16_7 := frB.at (h_nm (qne hq (by decide) (by decide) (by decide)) (h_nm (qne hq (by decide) (by decide) (by decide)) h_n0)) k15_9
                                              have k16_8 := frB.at (h_nm (qne hq (by decide) (by decide) (by decide)) (h_nm (qne hq (by decide) (by decide) (by decide)) h_n0)) k15_10
                                              have k16_9 := frB.at (h_nm (h_ne rm_ k15_0 (fun h => by cases h)) (h_nm (h_ne rm_ k15_1 (fun h => by cases h)) h_n0)) rm_
                                              have fr := fr.call frB (by simp)
                                              refine lv_aload_n S0.1 S0.2.1 dMM_merge_316 rfl (lv_at hl 0 rfl) ?_
                                              refine lv_aload_n S0.1 S0.2.1 dMM_merge_317 rfl (lv_at hl 0 rfl) ?_
                                              refine hw_get S0 hK hg k16_9 rfl inMM 23 (by decide) lf_MM_131 rfl rfl dMM_merge_318 ?_
                                              refine hw_put S0 hK hg hS k16_9 rfl inMM tyMM tokMM nmMM 21 (by decide) lf_MM_141 rfl rfl rfl rfl (Nat.le_of_ble_eq_true rfl) dMM_merge_321 (fun H locs hg hS => ?_)
                                              obtain ⟨g_17, eg_17⟩ : ∃ z, z = hs g_16 mm (mmC q (nI 0) (nI ((S.1 i).length)) (nI ((S.1 k).length)) (nI S.2.1.length) (nI S.2.2.1.length) v14 (nI (min (mgF (S.1 i) (S.1 j) (S.1 k)).1.length 60)) (nI 0) (nI ((mgF (S.1 i) (S.1 j) (S.1 k)).2.length)) (nI ((mgF (S.1 i) (S.1 j) (S.1 k)).2.length)) (nI S.2.2.2.2.1.length)) := ⟨_, rfl⟩
                                              have hg : hw D hC AX g_17 H := by rw [eg_17]; exact hg
                                              have f17_0 : g_17 (q 11) = some (.inl (cI, 60, .inl fl_)) := by rw [eg_17, hs_n _ _ (h_ne k16_0 k16_9 (fun h => by cases h))]; exact k16_0
                                              have f17_1 : g_17 (q 12) = some (.inl (cI, 60, .inl fr_)) := by rw [eg_17, hs_n _ _ (h_ne k16_1 k16_9 (fun h => by cases h))]; exact k16_1
                                              have f17_2 : g_17 (q 13) = some (.inl (cI, 400, .inl (F 13))) := by rw [eg_17, hs_n _ _ (h_ne k16_2 k16_9 (fun h => by cases h))]; exact k16_2
                                              have f17_3 : g_17 (q 2) = some (.inl (cI, 60, .inl fx89)) := by rw [eg_17, hs_n _ _ (h_ne k16_3 k16_9 (fun h => by cases h))]; exact k16_3
                                              have f17_4 : g_17 (q 3) = some (.inl (cI, 60, .inl fy89)) := by rw [eg_17, hs_n _ _ (h_ne k16_4 k16_9 (fun h => by cases h))]; exact k16_4
                                              have f17_5 : g_17 (q 4) = some (.inl (cI, 3721, .inl fb93)) := by rw [eg_17, hs_n _ _ (h_ne k16_5 k16_9 (fun h => by cases h))]; exact k16_5
                                              have f17_6 : g_17 (q 5) = some (.inl (cI, 60, .inl fp93)) := by rw [eg_17, hs_n _ _ (h_ne k16_6 k16_9 (fun h => by cases h))]; exact k16_6
                                              have f17_7 : g_17 (q 10) = some (.inl (cI, 60, .inl fJ)) := by rw [eg_17, hs_n _ _ (h_ne k16_7 k16_9 (fun h => by cases h))]; exact k16_7
                                              have f17_8 : g_17 (q 14) = some (.inl (cI, 400, .inl fN)) := by rw [eg_17, hs_n _ _ (h_ne k16_8 k16_9 (fun h => by cases h))]; exact k16_8
                                              have f17_9 : g_17 (q 0) = some (.inl (cI, 6, .inl fS)) := by rw [eg_17, hs_n _ _ (h_ne b0 k16_9 (fun h => by cases h))]; exact b0
                                              have f17_10 : g_17 (q 1) = some (.inl (cI, 360, .inl fL)) := by rw [eg_17, hs_n _ _ (h_ne b1 k16_9 (fun h => by cases h))]; exact b1
                                              have f17_11 : g_17 mm = some (mmC q (nI 0) (nI ((S.1 i).length)) (nI ((S.1 k).length)) (nI S.2.1.length) (nI S.2.2.1.length) v14 (nI (min (mgF (S.1 i) (S.1 j) (S.1 k)).1.length 60)) (nI 0) (nI ((mgF (S.1 i) (S.1 j) (S.1 k)).2.length)) (nI ((mgF (S.1 i) (S.1 j) (S.1 k)).2.length)) (nI S.2.2.2.2.1.length)) := by rw [eg_17]; exact hs_s _ _ _
                                              have fr := fr.put eg_17 (by simp)
                                              refine lv_iconst (v := nI 0) S0.1 S0.2.1 dMM_merge_324 (by decide) ?_
                                              refine lv_istore (lv' := [(8, .int (nI 0)), (0, .ref mm), (1, .int (nI i)), (2, .int (nI j)), (3, .int (nI k)), (4, .int (nI w)), (5, .int (nI a_)), (6, .int (nI la)), (7, .int (nI ra))]) S0.1 S0.2.1 dMM_merge_325 hl (by decide) rfl (fun ls hl => ?_)
                                              have ecf : cfm (mgF (S.1 i) (S.1 j) (S.1 k)).2 = (mgF (S.1 i) (S.1 j) (S.1 k)).2 := cfm_id (fun y hy => Nat.le_trans (mgF_beg (S.1 i) (S.1 j) (S.1 k) y hy) hM)
                                              rw [ecf] at j3
                                              have hl3 := fl3_len (mgF (S.1 i) (S.1 j) (S.1 k)).2
                                              have loop_327 : ∀ (n_327 : Nat) (x : Nat) (fc : Nat → Int32) (gn : Nat → Option va_E) (H : Heap) (locs : List Loc) (ls : Array Slot), 3 * (mgF (S.1 i) (S.1 j) (S.1 k)).2.length - x < n_327 → (x ≤ 3 * (mgF (S.1 i) (S.1 j) (S.1 k)).2.length) → (∀ y, y < x → fc y = fN y) → (hfr g gn [mm, q 0, q 1, q 11, q 12, q 10, q 14, q 13, q 2, q 3, q 4, q 5]) → (gn (q 11) = some (.inl (cI, 60, .inl fl_))) → (gn (q 12) = some (.inl (cI, 60, .inl fr_))) → (gn (q 13) = some (.inl (cI, 400, .inl fc))) → (gn (q 2) = some (.inl (cI, 60, .inl fx89))) → (gn (q 3) = some (.inl (cI, 60, .inl fy89))) → (gn (q 4) = some (.inl (cI, 3721, .inl fb93))) → (gn (q 5) = some (.inl (cI, 60, .inl fp93))) → (gn (q 10) = some (.inl (cI, 60, .inl fJ))) → (gn (q 14) = some (.inl (cI, 400, .inl fN))) → (gn (q 0) = some (.inl (cI, 6, .inl fS))) → (gn (q 1) = some (.inl (cI, 360, .inl fL))) → (gn mm = some (mmC q (nI 0) (nI ((S.1 i).length)) (nI ((S.1 k).length)) (nI S.2.1.length) (nI S.2.2.1.length) v14 (nI (min (mgF (S.1 i) (S.1 j) (S.1 k)).1.length 60)) (nI 0) (nI ((mgF (S.1 i) (S.1 j) (S.1 k)).2.length)) (nI ((mgF (S.1 i) (S.1 j) (S.1 k)).2.length)) (nI S.2.2.2.2.1.length))) → hw D hC AX gn H → va_S AX sX.heap H locs → lv_has ls 9 [(0, .ref mm), (8, .int (nI x))] → W pX l eX RX sX mX argsX belowX methX cX H locs 0 0 QX (F0 mX 327 ls []) := by
                                                intro n_327
                                                induction n_327 with
                                                | zero => intros; omega
                                                | succ n_327 ih_327 =>
                                                  intro x fc gn H locs ls hm_327 hx9 hc9 fr l327_q11 l327_q12 l327_q13 l327_q2 l327_q3 l327_q4 l327_q5 l327_q10 l327_q14 l327_q0 l327_q1 l327_mm hg hS hl
                                                  refine lv_iload S0.1 S0.2.1 dMM_merge_327 (lv_at hl 1 rfl) ?_
                                                  refine lv_iconst (v := nI 3) S0.1 S0.2.1 dMM_merge_329 (by decide) ?_
                                                  refine lv_aload_n S0.1 S0.2.1 dMM_merge_330 rfl (lv_at hl 0 rfl) ?_
                                                  refine hw_get S0 hK hg l327_mm rfl inMM 23 (by decide) lf_MM_131 rfl rfl dMM_merge_331 ?_
                                                  refine lv_imul S0.1 S0.2.1 dMM_merge_334 ?_
                                                  refine hw_top (nI (3 * ((mgF (S.1 i) (S.1 j) (S.1 k)).2.length))) (pk_mul _ _) ?_
                                                  refine lv_icmp_ge (tgt := 358) S0.1 S0.2.1 dMM_merge_335 (by decide) (fun c_335 => ?_) (fun c_335 => ?_)
                                                  · skip
                                                    have c_335 : (3 * ((mgF (S.1 i) (S.1 j) (S.1 k)).2.length)) ≤ x := (nI_leI (by omega) (by omega)).mp c_335
                                                    refine lv_aload_n S0.1 S0.2.1 dMM_merge_358 rfl (lv_at hl 0 rfl) ?_
                                                    refine hw_get S0 hK hg l327_mm rfl inMM 21 (by decide) lf_MM_141 rfl rfl dMM_merge_359 ?_
                                                    have eop : o_merge (nI i) (nI j) (nI k) (nI w) S = (0, nI (mgF (S.1 i) (S.1 j) (S.1 k)).2.length, (setR S.1 w (mgF (S.1 i) (S.1 j) (S.1 k)).1, S.2.1, S.2.2.1, (mgF (S.1 i) (S.1 j) (S.1 k)).2, S.2.2.2.2)) := by unfold o_merge; rw [e_i, e_j, e_k, e_w]; exact if_pos hM
                                                    have hC2 : rpN fc (fl3 (mgF (S.1 i) (S.1 j) (S.1 k)).2) := rpN_congr j3 (fun y h => hc9 y (by omega))
                                                    have hok2 : stok (setR S.1 w (mgF (S.1 i) (S.1 j) (S.1 k)).1, S.2.1, S.2.2.1, (mgF (S.1 i) (S.1 j) (S.1 k)).2, S.2.2.2.2) := ⟨(stok_setR hok hM).1, hok.2.1, hok.2.2.1, show (mgF (S.1 i) (S.1 j) (S.1 k)).2.length ≤ 61 by omega, hok.2.2.2.2⟩
                                                    have hF2 : ∀ i, i < 18 → gn (q i) = some (.inl (cI, mSz i, .inl ((fun i => match i with | 0 => fS | 1 => fL | 11 => fl_ | 12 => fr_ | 10 => fJ | 14 => fN | 13 => fc | 2 => fx89 | 3 => fy89 | 4 => fb93 | 5 => fp93 | i => F i) i))) := by
                                                      intro i hi
                                                      match i, hi with
                                                      | 0, _ => exact l327_q0
                                                      | 1, _ => exact l327_q1
                                                      | 2, _ => exact l327_q2
                                                      | 3, _ => exact l327_q3
                                                      | 4, _ => exact l327_q4
                                                      | 5, _ => exact l327_q5
                                                      | 6, _ => exact fr.at (h_nm (h_ne (hF 6 (by decide)) h0 (fun h => by cases h)) (h_nm (qne hq (by decide) (by decide) (by decide)) (h_nm (qne hq (by decide) (by decide) (by decide)) (h_nm (qne hq (by decide) (by decide) (by decide)) (h_nm (qne hq (by decide) (by decide) (by decide)) (h_nm (qne hq (by decide) (by decide) (by decide)) (h_nm (qne hq (by decide) (by decide) (by decide)) (h_nm (qne hq (by decide) (by decide) (by decide)) (h_nm (qne hq (by decide) (by decide) (by decide)) (h_nm (qne hq (by decide) (by decide) (by decide)) (h_nm (qne hq (by decide) (by decide) (by decide)) (h_nm (qne hq (by decide) (by decide) (by decide)) h_n0)))))))))))) (hF 6 (by decide))
                                                      | 7, _ => exact fr.at (h_nm (h_ne (hF 7 (by decide)) h0 (fun h => by cases h)) (h_nm (qne hq (by decide) (by decide) (by decide)) (h_nm (qne hq (by decide) (by decide) (by decide)) (h_nm (qne hq (by decide) (by decide) (by decide)) (h_nm (qne hq (by decide) (by decide) (by decide)) (h_nm (qne hq (by decide) (by decide) (by decide)) (h_nm (qne hq (by decide) (by decide) (by decide)) (h_nm (qne hq (by decide) (by decide) (by decide)) (h_nm (qne hq (by decide) (by decide) (by decide)) (h_nm (qne hq (by decide) (by decide) (by decide)) (h_nm (qne hq (by decide) (by decide) (by decide)) (h_nm (qne hq (by decide) (by decide) (by decide)) h_n0)))))))))))) (hF 7 (by decide))
                                                      | 8, _ => exact fr.at (h_nm (h_ne (hF 8 (by decide)) h0 (fun h => by cases h)) (h_nm (qne hq (by decide) (by decide) (by decide)) (h_nm (qne hq (by decide) (by decide) (by decide)) (h_nm (qne hq (by decide) (by decide) (by decide)) (h_nm (qne hq (by decide) (by decide) (by decide)) (h_nm (qne hq (by decide) (by decide) (by decide)) (h_nm (qne hq (by decide) (by decide) (by decide)) (h_nm (qne hq (by decide) (by decide) (by decide)) (h_nm (qne hq (by decide) (by decide) (by decide)) (h_nm (qne hq (by decide) (by decide) (by decide)) (h_nm (qne hq (by decide) (by decide) (by decide)) (h_nm (qne hq (by decide) (by decide) (by decide)) h_n0)))))))))))) (hF 8 (by decide))
                                                      | 9, _ => exact fr.at (h_nm (h_ne (hF 9 (by decide)) h0 (fun h => by cases h)) (h_nm (qne hq (by decide) (by decide) (by decide)) (h_nm (qne hq (by decide) (by decide) (by decide)) (h_nm (qne hq (by decide) (by decide) (by decide)) (h_nm (qne hq (by decide) (by decide) (by decide)) (h_nm (qne hq (by decide) (by decide) (by decide)) (h_nm (qne hq (by decide) (by decide) (by decide)) (h_nm (qne hq (by decide) (by decide) (by decide)) (h_nm (qne hq (by decide) (by decide) (by decide)) (h_nm (qne hq (by decide) (by decide) (by decide)) (h_nm (qne hq (by decide) (by decide) (by decide)) (h_nm (qne hq (by decide) (by decide) (by decide)) h_n0)))))))))))) (hF 9 (by decide))
                                                      | 10, _ => exact l327_q10
                                                      | 11, _ => exact l327_q11
                                                      | 12, _ => exact l327_q12
                                                      | 13, _ => exact l327_q13
                                                      | 14, _ => exact l327_q14
                                                      | 15, _ => exact fr.at (h_nm (h_ne (hF 15 (by decide)) h0 (fun h => by cases h)) (h_nm (qne hq (by decide) (by decide) (by decide)) (h_nm (qne hq (by decide) (by decide) (by decide)) (h_nm (qne hq (by decide) (by decide) (by decide)) (h_nm (qne hq (by decide) (by decide) (by decide)) (h_nm (qne hq (by decide) (by decide) (by decide)) (h_nm (qne hq (by decide) (by decide) (by decide)) (h_nm (qne hq (by decide) (by decide) (by decide)) (h_nm (qne hq (by decide) (by decide) (by decide)) (h_nm (qne hq (by decide) (by decide) (by decide)) (h_nm (qne hq (by decide) (by decide) (by decide)) (h_nm (qne hq (by decide) (by decide) (by decide)) h_n0)))))))))))) (hF 15 (by decide))
                                                      | 16, _ => exact fr.at (h_nm (h_ne (hF 16 (by decide)) h0 (fun h => by cases h)) (h_nm (qne hq (by decide) (by decide) (by decide)) (h_nm (qne hq (by decide) (by decide) (by decide)) (h_nm (qne hq (by decide) (by decide) (by decide)) (h_nm (qne hq (by decide) (by decide) (by decide)) (h_nm (qne hq (by decide) (by decide) (by decide)) (h_nm (qne hq (by decide) (by decide) (by decide)) (h_nm (qne hq (by decide) (by decide) (by decide)) (h_nm (qne hq (by decide) (by decide) (by decide)) (h_nm (qne hq (by decide) (by decide) (by decide)) (h_nm (qne hq (by decide) (by decide) (by decide)) (h_nm (qne hq (by decide) (by decide) (by decide)) h_n0)))))))))))) (hF 16 (by decide))
                                                      | 17, _ => exact fr.at (h_nm (h_ne (hF 17 (by decide)) h0 (fun h => by cases h)) (h_nm (qne hq (by decide) (by decide) (by decide)) (h_nm (qne hq (by decide) (by decide) (by decide)) (h_nm (qne hq (by decide) (by decide) (by decide)) (h_nm (qne hq (by decide) (by decide) (by decide)) (h_nm (qne hq (by decide) (by decide) (by decide)) (h_nm (qne hq (by decide) (by decide) (by decide)) (h_nm (qne hq (by decide) (by decide) (by decide)) (h_nm (qne hq (by decide) (by decide) (by decide)) (h_nm (qne hq (by decide) (by decide) (by decide)) (h_nm (qne hq (by decide) (by decide) (by decide)) (h_nm (qne hq (by decide) (by decide) (by decide)) h_n0)))))))))))) (hF 17 (by decide))
                                                      | i + 18, h => omega
                                                    have hrep : repM cI gn mm q (o_merge (nI i) (nI j) (nI k) (nI w) S).1 (o_merge (nI i) (nI j) (nI k) (nI w) S).2.2 := by rw [eop]; exact ⟨hq, hok2, (nI ((S.1 i).length)), (nI ((S.1 k).length)), v14, (nI (min (mgF (S.1 i) (S.1 j) (S.1 k)).1.length 60)), (nI 0), (nI ((mgF (S.1 i) (S.1 j) (S.1 k)).2.length)), (fun i => match i with | 0 => fS | 1 => fL | 11 => fl_ | 12 => fr_ | 10 => fJ | 14 => fN | 13 => fc | 2 => fx89 | 3 => fy89 | 4 => fb93 | 5 => fp93 | i => F i), l327_mm, hF2, hR2, hA_, hB_, hH_, hC2, hZ_, hV_, hL_⟩
                                                    have fr9 : hfr g gn (mS mm q) := fr.mono (by simp)
                                                    exact hend _ _ _ _ _ _ _ _ (by decide) (by decide) rfl (⟨fr9, hrep, fun h9 => by rw [eop] at h9 ⊢⟩) hg hS dMM_merge_362
                                                  · skip
                                                    have c_335 : ¬ ((3 * ((mgF (S.1 i) (S.1 j) (S.1 k)).2.length)) ≤ x) := fun h => c_335 ((nI_leI (by omega) (by omega)).mpr h)
                                                    refine lv_aload_n S0.1 S0.2.1 dMM_merge_338 rfl (lv_at hl 0 rfl) ?_
                                                    refine hw_get S0 hK hg l327_mm rfl inMM 22 (by decide) lf_MM_49 rfl rfl dMM_merge_339 ?_
                                                    refine lv_iload S0.1 S0.2.1 dMM_merge_342 (lv_at hl 1 rfl) ?_
                                                    refine lv_aload_n S0.1 S0.2.1 dMM_merge_344 rfl (lv_at hl 0 rfl) ?_
                                                    refine hw_get S0 hK hg l327_mm rfl inMM 24 (by decide) lf_MM_52 rfl rfl dMM_merge_345 ?_
                                                    refine lv_iload S0.1 S0.2.1 dMM_merge_348 (lv_at hl 1 rfl) ?_
                                                    refine hw_iald S0 hK hg l327_q14 0 rfl (by omega) (by omega) dMM_merge_350 ?_
                                                    refine hw_iast S0 hK hg hS l327_q13 0 rfl (by omega) (by omega) dMM_merge_351 (fun H locs hg hS => ?_)
                                                    obtain ⟨g_18, eg_18⟩ : ∃ z, z = hs gn (q 13) (.inl (cI, 400, .inl (upd fc x (fN x)))) := ⟨_, rfl⟩
                                                    have hg : hw D hC AX g_18 H := by rw [eg_18]; exact hg
                                                    have f18_0 : g_18 (q 11) = some (.inl (cI, 60, .inl fl_)) := by rw [eg_18, hs_n _ _ (qne hq (by decide) (by decide) (by decide))]; exact l327_q11
                                                    have f18_1 : g_18 (q 12) = some (.inl (cI, 60, .inl fr_)) := by rw [eg_18, hs_n _ _ (qne hq (by decide) (by decide) (by decide))]; exact l327_q12
                                                    have f18_2 : g_18 (q 2) = some (.inl (cI, 60, .inl fx89)) := by rw [eg_18, hs_n _ _ (qne hq (by decide) (by decide) (by decide))]; exact l327_q2
                                                    have f18_3 : g_18 (q 3) = some (.inl (cI, 60, .inl fy89)) := by rw [eg_18, hs_n _ _ (qne hq (by decide) (by decide) (by decide))]; exact l327_q3
                                                    have f18_4 : g_18 (q 4) = some (.inl (cI, 3721, .inl fb93)) := by rw [eg_18, hs_n _ _ (qne hq (by decide) (by decide) (by decide))]; exact l327_q4
                                                    have f18_5 : g_18 (q 5) = some (.inl (cI, 60, .inl fp93)) := by rw [eg_18, hs_n _ _ (qne hq (by decide) (by decide) (by decide))]; exact l327_q5
                                                    have f18_6 : g_18 (q 10) = some (.inl (cI, 60, .inl fJ)) := by rw [eg_18, hs_n _ _ (qne hq (by decide) (by decide) (by decide))]; exact l327_q10
                                                    have f18_7 : g_18 (q 14) = some (.inl (cI, 400, .inl fN)) := by rw [eg_18, hs_n _ _ (qne hq (by decide) (by decide) (by decide))]; exact l327_q14
                                                    have f18_8 : g_18 (q 0) = some (.inl (cI, 6, .inl fS)) := by rw [eg_18, hs_n _ _ (qne hq (by decide) (by decide) (by decide))]; exact l327_q0
                                                    have f18_9 : g_18 (q 1) = some (.inl (cI, 360, .inl fL)) := by rw [eg_18, hs_n _ _ (qne hq (by decide) (by decide) (by decide))]; exact l327_q1
                                                    have f18_10 : g_18 mm = some (mmC q (nI 0) (nI ((S.1 i).length)) (nI ((S.1 k).length)) (nI S.2.1.length) (nI S.2.2.1.length) v14 (nI (min (mgF (S.1 i) (S.1 j) (S.1 k)).1.length 60)) (nI 0) (nI ((mgF (S.1 i) (S.1 j) (S.1 k)).2.length)) (nI ((mgF (S.1 i) (S.1 j) (S.1 k)).2.length)) (nI S.2.2.2.2.1.length)) := by rw [eg_18, hs_n _ _ (h_ne l327_mm l327_q13 (fun h => by cases h))]; exact l327_mm
                                                    have f18_11 : g_18 (q 13) = some (.inl (cI, 400, .inl (upd fc x (fN x)))) := by rw [eg_18]; exact hs_s _ _ _
                                                    have fr := fr.put eg_18 (by simp)
                                                    refine lv_iinc (v := nI (x + 1)) (lv' := [(8, .int (nI (x + 1))), (0, .ref mm)]) S0.1 S0.2.1 dMM_merge_352 hl (k := 1) rfl (by exact nI_add _ 1) (by decide) rfl (fun ls hl => ?_)
                                                    refine lv_goto (tgt := 327) S0.1 S0.2.1 dMM_merge_355 (by decide) ?_
                                                    exact ih_327 (x + 1) (upd fc x (fN x)) g_18 _ _ _ (by omega) (by omega) (fun y h => by rcases Nat.lt_or_ge y x with h9 | h9; rw [pk_un (by omega)]; exact hc9 y h9; rw [show y = x by omega, pk_us]) fr f18_0 f18_1 f18_11 f18_2 f18_3 f18_4 f18_5 f18_6 f18_7 f18_8 f18_9 f18_10 hg hS (lv_sub hl [1, 0] rfl)
                                              exact loop_327 _ 0 (F 13) g_17 _ _ _ (Nat.lt_succ_self _) (Nat.zero_le _) (fun y h => absurd h (Nat.not_lt_zero y)) fr f17_0 f17_1 f17_2 f17_3 f17_4 f17_5 f17_6 f17_7 f17_8 f17_9 f17_10 f17_11 hg hS (lv_sub hl [1, 0] rfl)
                                            · skip
                                              rw [← nI_0] at c_305
                                              have c_305 : ¬ (0 = 0) := fun h => c_305 ((nI_eq (by omega) (by omega)).mpr h)
                                              exact absurd c_305 (by decide)
                                      · skip
                                        have c_163 : ¬ (((S.1 i).length) ≤ x) := fun h => c_163 ((nI_leI (by omega) (by omega)).mpr h)
                                        have hin := mg_in (S.1 i) (S.1 j) (S.1 k) x
                                        rw [hst] at hin
                                        dsimp only at hin
                                        rcases hp1 : pn (S.1 i) (S.1 j) x with _ | lj
                                        · skip
                                          have eL : fl_ x = -1 := by rw [hlf x (by omega), hp1]; rfl
                                          refine lv_aload_n S0.1 S0.2.1 dMM_merge_166 rfl (lv_at hl 0 rfl) ?_
                                          refine hw_get S0 hK hg l155_mm rfl inMM 19 (by decide) lf_MM_43 rfl rfl dMM_merge_167 ?_
                                          refine lv_iload S0.1 S0.2.1 dMM_merge_170 (lv_at hl 8 rfl) ?_
                                          refine hw_iald S0 hK hg l155_q11 0 rfl (by omega) (by omega) dMM_merge_172 ?_
                                          refine lv_if_lt (tgt := 259) S0.1 S0.2.1 dMM_merge_173 (by decide) (fun c_173 => ?_) (fun c_173 => ?_)
                                          · skip
                                            refine lv_iinc (v := nI (x + 1)) (lv' := [(8, .int (nI (x + 1))), (0, .ref mm), (1, .int (nI i)), (2, .int (nI j)), (3, .int (nI k)), (4, .int (nI w)), (5, .int (nI a_)), (6, .int (nI la)), (7, .int (nI ra))]) S0.1 S0.2.1 dMM_merge_259 hl (k := 8) rfl (by exact nI_add _ 1) (by decide) rfl (fun ls hl => ?_)
                                            refine lv_goto (tgt := 155) S0.1 S0.2.1 dMM_merge_262 (by decide) ?_
                                            exact ih_155 (x + 1) a_ la ra ot cf ff fn gm _ _ _ (by omega) (by omega) (by rw [mg_skipL hp1]; exact hst) hf hc fr l155_q0 l155_q1 l155_q11 l155_q12 l155_q10 l155_q14 l155_q13 l155_q2 l155_q3 l155_q4 l155_q5 l155_mm hg hS (lv_sub hl [1, 2, 3, 4, 5, 6, 7, 8, 0] rfl)
                                          · skip
                                            exact absurd (by rw [eL]; decide +kernel) c_173
                                        · skip
                                          rcases hp2 : pn (S.1 i) (S.1 k) x with _ | rj
                                          · skip
                                            have eL : fl_ x = nI lj := by rw [hlf x (by omega), hp1]; rfl
                                            have eR : fr_ x = -1 := by rw [hrt x (by omega), hp2]; rfl
                                            have s1 := stp_spec (show stp (S.1 i) (S.1 j) (fro (S.1 i) (S.1 j) x) x = some lj from hp1)
                                            refine lv_aload_n S0.1 S0.2.1 dMM_merge_166 rfl (lv_at hl 0 rfl) ?_
                                            refine hw_get S0 hK hg l155_mm rfl inMM 19 (by decide) lf_MM_43 rfl rfl dMM_merge_167 ?_
                                            refine lv_iload S0.1 S0.2.1 dMM_merge_170 (lv_at hl 8 rfl) ?_
                                            refine hw_iald S0 hK hg l155_q11 0 rfl (by omega) (by omega) dMM_merge_172 ?_
                                            refine hw_top (nI lj) eL ?_
                                            refine lv_if_lt (tgt := 259) S0.1 S0.2.1 dMM_merge_173 (by decide) (fun c_173 => ?_) (fun c_173 => ?_)
                                            · skip
                                              rw [← nI_0] at c_173
                                              have c_173 : lj < 0 := (nI_ltI (by omega) (by omega)).mp c_173
                                              omega
                                            · skip
                                              rw [← nI_0] at c_173
                                              have c_173 : ¬ (lj < 0) := fun h => c_173 ((nI_ltI (by omega) (by omega)).mpr h)
                                              refine lv_aload_n S0.1 S0.2.1 dMM_merge_176 rfl (lv_at hl 0 rfl) ?_
                                              refine hw_get S0 hK hg l155_mm rfl inMM 20 (by decide) lf_MM_46 rfl rfl dMM_merge_177 ?_
                                              refine lv_iload S0.1 S0.2.1 dMM_merge_180 (lv_at hl 8 rfl) ?_
                                              refine hw_iald S0 hK hg l155_q12 0 rfl (by omega) (by omega) dMM_merge_182 ?_
                                              refine lv_if_lt (tgt := 259) S0.1 S0.2.1 dMM_merge_183 (by decide) (fun c_183 => ?_) (fun c_183 => ?_)
                                              · skip
                                                refine lv_iinc (v := nI (x + 1)) (lv' := [(8, .int (nI (x + 1))), (0, .ref mm), (1, .int (nI i)), (2, .int (nI j)), (3, .int (nI k)), (4, .int (nI w)), (5, .int (nI a_)), (6, .int (nI la)), (7, .int (nI ra))]) S0.1 S0.2.1 dMM_merge_259 hl (k := 8) rfl (by exact nI_add _ 1) (by decide) rfl (fun ls hl => ?_)
                                                refine lv_goto (tgt := 155) S0.1 S0.2.1 dMM_merge_262 (by decide) ?_
                                                exact ih_155 (x + 1) a_ la ra ot cf ff fn gm _ _ _ (by omega) (by omega) (by rw [mg_skipR hp2]; exact hst) hf hc fr l155_q0 l155_q1 l155_q11 l155_q12 l155_q10 l155_q14 l155_q13 l155_q2 l155_q3 l155_q4 l155_q5 l155_mm hg hS (lv_sub hl [1, 2, 3, 4, 5, 6, 7, 8, 0] rfl)
                                              · skip
                                                exact absurd (by rw [eR]; decide +kernel) c_183
                                          · skip
                                            have eL : fl_ x = nI lj := by rw [hlf x (by omega), hp1]; rfl
                                            have eR : fr_ x = nI rj := by rw [hrt x (by omega), hp2]; rfl
                                            have s1 := stp_spec (show stp (S.1 i) (S.1 j) (fro (S.1 i) (S.1 j) x) x = some lj from hp1)
                                            have s2 := stp_spec (show stp (S.1 i) (S.1 k) (fro (S.1 i) (S.1 k) x) x = some rj from hp2)
                                            refine lv_aload_n S0.1 S0.2.1 dMM_merge_166 rfl (lv_at hl 0 rfl) ?_
                                            refine hw_get S0 hK hg l155_mm rfl inMM 19 (by decide) lf_MM_43 rfl rfl dMM_merge_167 ?_
                                            refine lv_iload S0.1 S0.2.1 dMM_merge_170 (lv_at hl 8 rfl) ?_
                                            refine hw_iald S0 hK hg l155_q11 0 rfl (by omega) (by omega) dMM_merge_172 ?_
                                            refine hw_top (nI lj) eL ?_
                                            refine lv_if_lt (tgt := 259) S0.1 S0.2.1 dMM_merge_173 (by decide) (fun c_173 => ?_) (fun c_173 => ?_)
                                            · skip
                                              rw [← nI_0] at c_173
                                              have c_173 : lj < 0 := (nI_ltI (by omega) (by omega)).mp c_173
                                              omega
                                            · skip
                                              rw [← nI_0] at c_173
                                              have c_173 : ¬ (lj < 0) := fun h => c_173 ((nI_ltI (by omega) (by omega)).mpr h)
                                              refine lv_aload_n S0.1 S0.2.1 dMM_merge_176 rfl (lv_at hl 0 rfl) ?_
                                              refine hw_get S0 hK hg l155_mm rfl inMM 20 (by decide) lf_MM_46 rfl rfl dMM_merge_177 ?_
                                              refine lv_iload S0.1 S0.2.1 dMM_merge_180 (lv_at hl 8 rfl) ?_
                                              refine hw_iald S0 hK hg l155_q12 0 rfl (by omega) (by omega) dMM_merge_182 ?_
                                              refine hw_top (nI rj) eR ?_
                                              refine lv_if_lt (tgt := 259) S0.1 S0.2.1 dMM_merge_183 (by decide) (fun c_183 => ?_) (fun c_183 => ?_)
                                              · skip
                                                rw [← nI_0] at c_183
                                                have c_183 : rj < 0 := (nI_ltI (by omega) (by omega)).mp c_183
                                                omega
                                              · skip
                                                rw [← nI_0] at c_183
                                                have c_183 : ¬ (rj < 0) := fun h => c_183 ((nI_ltI (by omega) (by omega)).mpr h)
                                                refine lv_aload_n S0.1 S0.2.1 dMM_merge_186 rfl (lv_at hl 0 rfl) ?_
                                                refine lv_iload_n S0.1 S0.2.1 dMM_merge_187 rfl (lv_at hl 1 rfl) ?_
                                                refine lv_iload S0.1 S0.2.1 dMM_merge_188 (lv_at hl 5 rfl) ?_
                                                refine lv_iload S0.1 S0.2.1 dMM_merge_190 (lv_at hl 8 rfl) ?_
                                                refine lv_iload_n S0.1 S0.2.1 dMM_merge_192 rfl (lv_at hl 2 rfl) ?_
                                                refine lv_iload S0.1 S0.2.1 dMM_merge_193 (lv_at hl 6 rfl) ?_
                                                refine lv_aload_n S0.1 S0.2.1 dMM_merge_195 rfl (lv_at hl 0 rfl) ?_
                                                refine hw_get S0 hK hg l155_mm rfl inMM 19 (by decide) lf_MM_43 rfl rfl dMM_merge_196 ?_
                                                refine lv_iload S0.1 S0.2.1 dMM_merge_199 (lv_at hl 8 rfl) ?_
                                                refine hw_iald S0 hK hg l155_q11 0 rfl (by omega) (by omega) dMM_merge_201 ?_
                                                refine hw_top (nI lj) eL ?_
                                                refine lv_iload_n S0.1 S0.2.1 dMM_merge_202 rfl (lv_at hl 3 rfl) ?_
                                                refine lv_iload S0.1 S0.2.1 dMM_merge_203 (lv_at hl 7 rfl) ?_
                                                refine lv_aload_n S0.1 S0.2.1 dMM_merge_205 rfl (lv_at hl 0 rfl) ?_
                                                refine hw_get S0 hK hg l155_mm rfl inMM 20 (by decide) lf_MM_46 rfl rfl dMM_merge_206 ?_
                                                refine lv_iload S0.1 S0.2.1 dMM_merge_209 (lv_at hl 8 rfl) ?_
                                                refine hw_iald S0 hK hg l155_q12 0 rfl (by omega) (by omega) dMM_merge_211 ?_
                                                refine hw_top (nI rj) eR ?_
                                                refine hw_Vv (As := [.int (nI i), .int (nI a_), .int (nI x), .int (nI j), .int (nI la), .int (nI lj), .int (nI k), .int (nI ra), .int (nI rj)]) (rest := []) S0 hK hg hS hA0 l155_mm rfl (c_MM_joinParts l D cI cR cJ gm _ mm q hq (nI 0) (nI ((S.1 i).length)) (nI ((S.1 k).length)) (nI S.2.1.length) (nI S.2.2.1.length) v14 (nI S.2.2.2.1.length) (nI S.2.2.2.2.1.length) i a_ x j la lj k ra rj (S.1 i) (S.1 j) (S.1 k) (ot, cf) (F 1) ff fn l155_mm l155_q1 l155_q10 l155_q14 hf hc t3i (hok.1 i hk_i) hk_i t3j (hok.1 j hk_j) hk_j t3k (hok.1 k hk_k) hk_k (by omega) (by omega) (by omega) (by omega) (by omega) (by omega) (show cf.length < 62 by omega)) kMM_joinParts lm_MM_134 (hR.call rfl) rfl hl.1 rfl (Nat.le_of_ble_eq_true rfl) dMM_merge_212 (hR.new (by decide) (by decide)) (fun g_19 H locs hp_212 hg hS => ?_)
                                                obtain ⟨frJ, fJ, fN, j0, j1, j4, j2, j3⟩ := hp_212
                                                have k19_0 := frJ.at (h_nm (h_ne l155_q0 l155_mm (fun h => by cases h)) (h_nm (qne hq (by decide) (by decide) (by decide)) (h_nm (qne hq (by decide) (by decide) (by decide)) h_n0))) l155_q0
                                                have k19_1 := frJ.at (h_nm (h_ne l155_q1 l155_mm (fun h => by cases h)) (h_nm (qne hq (by decide) (by decide) (by decide)) (h_nm (qne hq (by decide) (by decide) (by decide)) h_n0))) l155_q1
                                                have k19_2 := frJ.at (h_nm (h_ne l155_q11 l155_mm (fun h => by cases h)) (h_nm (qne hq (by decide) (by decide) (by decide)) (h_nm (qne hq (by decide) (by decide) (by decide)) h_n0))) l155_q11
                                                have k19_3 := frJ.at (h_nm (h_ne l155_q12 l155_mm (fun h => by cases h)) (h_nm (qne hq (by decide) (by decide) (by decide)) (h_nm (qne hq (by decide) (by decide) (by decide)) h_n0))) l155_q12
                                                have k19_4 := frJ.at (h_nm (h_ne l155_q13 l155_mm (fun h => by cases h)) (h_nm (qne hq (by decide) (by decide) (by decide)) (h_nm (qne hq (by decide) (by decide) (by decide)) h_n0))) l155_q13
                                                have k19_5 := frJ.at (h_nm (h_ne l155_q2 l155_mm (fun h => by cases h)) (h_nm (qne hq (by decide) (by decide) (by decide)) (h_nm (qne hq (by decide) (by decide) (by decide)) h_n0))) l155_q2
                                                have k19_6 := frJ.at (h_nm (h_ne l155_q3 l155_mm (fun h => by cases h)) (h_nm (qne hq (by decide) (by decide) (by decide)) (h_nm (qne hq (by decide) (by decide) (by decide)) h_n0))) l155_q3
                                                have k19_7 := frJ.at (h_nm (h_ne l155_q4 l155_mm (fun h => by cases h)) (h_nm (qne hq (by decide) (by decide) (by decide)) (h_nm (qne hq (by decide) (by decide) (by decide)) h_n0))) l155_q4
                                                have k19_8 := frJ.at (h_nm (h_ne l155_q5 l155_mm (fun h => by cases h)) (h_nm (qne hq (by decide) (by decide) (by decide)) (h_nm (qne hq (by decide) (by decide) (by decide)) h_n0))) l155_q5
                                                have fr := fr.call frJ (by simp)
                                                refine lv_aload_n S0.1 S0.2.1 dMM_merge_215 rfl (lv_at hl 0 rfl) ?_
                                                refine lv_aload_n S0.1 S0.2.1 dMM_merge_216 rfl (lv_at hl 0 rfl) ?_
                                                refine hw_get S0 hK hg j0 rfl inMM 2 (by decide) lf_MM_13 rfl rfl dMM_merge_217 ?_
                                                refine lv_bipush (v := nI 60) S0.1 S0.2.1 dMM_merge_220 (by decide) ?_
                                                refine lv_iload_n S0.1 S0.2.1 dMM_merge_222 rfl (lv_at hl 1 rfl) ?_
                                                refine lv_imul S0.1 S0.2.1 dMM_merge_223 ?_
                                                refine hw_top (nI (60 * i)) (pk_mul _ _) ?_
                                                refine lv_iload S0.1 S0.2.1 dMM_merge_224 (lv_at hl 8 rfl) ?_
                                                refine lv_iadd S0.1 S0.2.1 dMM_merge_226 ?_
                                                refine hw_top (nI ((60 * i) + x)) (nI_add _ _) ?_
                                                refine hw_iald S0 hK hg k19_1 0 rfl (by omega) (by omega) dMM_merge_227 ?_
                                                refine hw_top ((S.1 i).getD x 0) (t3i x (by omega)) ?_
                                                refine hw_Vv (As := [.int ((S.1 i).getD x 0)]) (rest := []) S0 hK hg hS hA0 j0 rfl (c_MM_write l D cI cR cJ g_19 _ mm q hq (nI 0) (nI ((S.1 i).length)) (nI ((S.1 k).length)) (nI S.2.1.length) (nI S.2.2.1.length) v14 (nI S.2.2.2.1.length) (nI ((joinP (S.1 i) (S.1 j) (S.1 k) a_ x la lj ra rj (ot, cf)).2.length)) (nI S.2.2.2.2.1.length) (joinP (S.1 i) (S.1 j) (S.1 k) a_ x la lj ra rj (ot, cf)).1 ((S.1 i).getD x 0) fJ j0 j1 j2) kMM_write lm_MM_119 (hR.call rfl) rfl hl.1 rfl (Nat.le_of_ble_eq_true rfl) dMM_merge_228 (hR.new (by decide) (by decide)) (fun g_20 H locs hp_228 hg hS => ?_)
                                                obtain ⟨frw228, fw228, w0228, w1228, w2228⟩ := hp_228
                                                have k20_0 := frw228.at (h_nm (h_ne k19_0 j0 (fun h => by cases h)) (h_nm (qne hq (by decide) (by decide) (by decide)) h_n0)) k19_0
                                                have k20_1 := frw228.at (h_nm (h_ne k19_1 j0 (fun h => by cases h)) (h_nm (qne hq (by decide) (by decide) (by decide)) h_n0)) k19_1
                                                have k20_2 := frw228.at (h_nm (h_ne k19_2 j0 (fun h => by cases h)) (h_nm (qne hq (by decide) (by decide) (by decide)) h_n0)) k19_2
                                                have k20_3 := frw228.at (h_nm (h_ne k19_3 j0 (fun h => by cases h)) (h_nm (qne hq (by decide) (by decide) (by decide)) h_n0)) k19_3
                                                have k20_4 := frw228.at (h_nm (h_ne k19_4 j0 (fun h => by cases h)) (h_nm (qne hq (by decide) (by decide) (by decide)) h_n0)) k19_4
                                                have k20_5 := frw228.at (h_nm (h_ne k19_5 j0 (fun h => by cases h)) (h_nm (qne hq (by decide) (by decide) (by decide)) h_n0)) k19_5
                                                have k20_6 := frw228.at (h_nm (h_ne k19_6 j0 (fun h => by cases h)) (h_nm (qne hq (by decide) (by decide) (by decide)) h_n0)) k19_6
                                                have k20_7 := frw228.at (h_nm (h_ne k19_7 j0 (fun h => by cases h)) (h_nm (qne hq (by decide) (by decide) (by decide)) h_n0)) k19_7
                                                have k20_8 := frw228.at (h_nm (h_ne k19_8 j0 (fun h => by cases h)) (h_nm (qne hq (by decide) (by decide) (by decide)) h_n0)) k19_8
                                                have k20_9 := frw228.at (h_nm (h_ne j4 j0 (fun h => by cases h)) (h_nm (qne hq (by decide) (by decide) (by decide)) h_n0)) j4
                                                have fr := fr.call frw228 (by simp)
                                                refine lv_iload S0.1 S0.2.1 dMM_merge_231 (lv_at hl 8 rfl) ?_
                                                refine lv_iconst (v := nI 1) S0.1 S0.2.1 dMM_merge_233 (by decide) ?_
                                                refine lv_iadd S0.1 S0.2.1 dMM_merge_234 ?_
                                                refine hw_top (nI (x + 1)) (nI_add _ _) ?_
                                                refine lv_istore (lv' := [(5, .int (nI (x + 1))), (0, .ref mm), (1, .int (nI i)), (2, .int (nI j)), (3, .int (nI k)), (4, .int (nI w)), (6, .int (nI la)), (7, .int (nI ra)), (8, .int (nI x))]) S0.1 S0.2.1 dMM_merge_235 hl (by decide) rfl (fun ls hl => ?_)
                                                refine lv_aload_n S0.1 S0.2.1 dMM_merge_237 rfl (lv_at hl 1 rfl) ?_
                                                refine hw_get S0 hK hg w0228 rfl inMM 19 (by decide) lf_MM_43 rfl rfl dMM_merge_238 ?_
                                                refine lv_iload S0.1 S0.2.1 dMM_merge_241 (lv_at hl 8 rfl) ?_
                                                refine hw_iald S0 hK hg k20_2 0 rfl (by omega) (by omega) dMM_merge_243 ?_
                                                refine hw_top (nI lj) eL ?_
                                                refine lv_iconst (v := nI 1) S0.1 S0.2.1 dMM_merge_244 (by decide) ?_
                                                refine lv_iadd S0.1 S0.2.1 dMM_merge_245 ?_
                                                refine hw_top (nI (lj + 1)) (nI_add _ _) ?_
                                                refine lv_istore (lv' := [(6, .int (nI (lj + 1))), (5, .int (nI (x + 1))), (0, .ref mm), (1, .int (nI i)), (2, .int (nI j)), (3, .int (nI k)), (4, .int (nI w)), (7, .int (nI ra)), (8, .int (nI x))]) S0.1 S0.2.1 dMM_merge_246 hl (by decide) rfl (fun ls hl => ?_)
                                                refine lv_aload_n S0.1 S0.2.1 dMM_merge_248 rfl (lv_at hl 2 rfl) ?_
                                                refine hw_get S0 hK hg w0228 rfl inMM 20 (by decide) lf_MM_46 rfl rfl dMM_merge_249 ?_
                                                refine lv_iload S0.1 S0.2.1 dMM_merge_252 (lv_at hl 8 rfl) ?_
                                                refine hw_iald S0 hK hg k20_3 0 rfl (by omega) (by omega) dMM_merge_254 ?_
                                                refine hw_top (nI rj) eR ?_
                                                refine lv_iconst (v := nI 1) S0.1 S0.2.1 dMM_merge_255 (by decide) ?_
                                                refine lv_iadd S0.1 S0.2.1 dMM_merge_256 ?_
                                                refine hw_top (nI (rj + 1)) (nI_add _ _) ?_
                                                refine lv_istore (lv' := [(7, .int (nI (rj + 1))), (6, .int (nI (lj + 1))), (5, .int (nI (x + 1))), (0, .ref mm), (1, .int (nI i)), (2, .int (nI j)), (3, .int (nI k)), (4, .int (nI w)), (8, .int (nI x))]) S0.1 S0.2.1 dMM_merge_257 hl (by decide) rfl (fun ls hl => ?_)
                                                refine lv_iinc (v := nI (x + 1)) (lv' := [(8, .int (nI (x + 1))), (7, .int (nI (rj + 1))), (6, .int (nI (lj + 1))), (5, .int (nI (x + 1))), (0, .ref mm), (1, .int (nI i)), (2, .int (nI j)), (3, .int (nI k)), (4, .int (nI w))]) S0.1 S0.2.1 dMM_merge_259 hl (k := 8) rfl (by exact nI_add _ 1) (by decide) rfl (fun ls hl => ?_)
                                                refine lv_goto (tgt := 155) S0.1 S0.2.1 dMM_merge_262 (by decide) ?_
                                                exact ih_155 (x + 1) (x + 1) (lj + 1) (rj + 1) ((joinP (S.1 i) (S.1 j) (S.1 k) a_ x la lj ra rj (ot, cf)).1 ++ [(S.1 i).getD x 0]) (((joinP (S.1 i) (S.1 j) (S.1 k) a_ x la lj ra rj (ot, cf))).2) fw228 fN g_20 _ _ _ (by omega) (by omega) (by rw [mg_anchor hp1 hp2, hst]) w2228 j3 fr k20_0 k20_1 k20_2 k20_3 w1228 k20_9 k20_4 k20_5 k20_6 k20_7 k20_8 w0228 hg hS (lv_sub hl [4, 5, 6, 7, 8, 3, 2, 1, 0] rfl)
                                  exact loop_155 _ 0 0 0 0 ([]) ([]) (F 10) (F 14) g_12 _ _ _ (Nat.lt_succ_self _) (Nat.zero_le _) rfl (fun y h => absurd h (Nat.not_lt_zero y)) (rpN_nil _) fr f12_0 f12_1 f12_2 f12_3 f12_4 f12_5 f12_6 f12_7 f12_8 f12_9 f12_10 f12_11 hg hS (lv_sub hl [4, 5, 6, 7, 8, 3, 2, 1, 0] rfl)
                                · skip
                                  have c_105 : ¬ (((S.1 i).length) ≤ x99) := fun h => c_105 ((nI_leI (by omega) (by omega)).mpr h)
                                  refine lv_aload_n S0.1 S0.2.1 dMM_merge_108 rfl (lv_at hl 0 rfl) ?_
                                  refine hw_get S0 hK hg l99_mm rfl inMM 20 (by decide) lf_MM_46 rfl rfl dMM_merge_109 ?_
                                  refine lv_iload S0.1 S0.2.1 dMM_merge_112 (lv_at hl 5 rfl) ?_
                                  refine lv_aload_n S0.1 S0.2.1 dMM_merge_114 rfl (lv_at hl 0 rfl) ?_
                                  refine hw_get S0 hK hg l99_mm rfl inMM 8 (by decide) lf_MM_25 rfl rfl dMM_merge_115 ?_
                                  refine lv_iload S0.1 S0.2.1 dMM_merge_118 (lv_at hl 5 rfl) ?_
                                  refine hw_iald S0 hK hg l99_q5 0 rfl (by omega) (by omega) dMM_merge_120 ?_
                                  refine hw_iast S0 hK hg hS l99_q12 0 rfl (by omega) (by omega) dMM_merge_121 (fun H locs hg hS => ?_)
                                  obtain ⟨g_21, eg_21⟩ : ∃ z, z = hs gl99 (q 12) (.inl (cI, 60, .inl (upd fr_ x99 (fp93 x99)))) := ⟨_, rfl⟩
                                  have hg : hw D hC AX g_21 H := by rw [eg_21]; exact hg
                                  have f21_0 : g_21 (q 0) = some (.inl (cI, 6, .inl (F 0))) := by rw [eg_21, hs_n _ _ (qne hq (by decide) (by decide) (by decide))]; exact l99_q0
                                  have f21_1 : g_21 (q 1) = some (.inl (cI, 360, .inl (F 1))) := by rw [eg_21, hs_n _ _ (qne hq (by decide) (by decide) (by decide))]; exact l99_q1
                                  have f21_2 : g_21 (q 11) = some (.inl (cI, 60, .inl fl_)) := by rw [eg_21, hs_n _ _ (qne hq (by decide) (by decide) (by decide))]; exact l99_q11
                                  have f21_3 : g_21 (q 10) = some (.inl (cI, 60, .inl (F 10))) := by rw [eg_21, hs_n _ _ (qne hq (by decide) (by decide) (by decide))]; exact l99_q10
                                  have f21_4 : g_21 (q 14) = some (.inl (cI, 400, .inl (F 14))) := by rw [eg_21, hs_n _ _ (qne hq (by decide) (by decide) (by decide))]; exact l99_q14
                                  have f21_5 : g_21 (q 13) = some (.inl (cI, 400, .inl (F 13))) := by rw [eg_21, hs_n _ _ (qne hq (by decide) (by decide) (by decide))]; exact l99_q13
                                  have f21_6 : g_21 mm = some (mmC q (nI 0) (nI ((S.1 i).length)) (nI ((S.1 k).length)) (nI S.2.1.length) (nI S.2.2.1.length) v14 v16 v17 (nI S.2.2.2.1.length) v23 (nI S.2.2.2.2.1.length)) := by rw [eg_21, hs_n _ _ (h_ne l99_mm l99_q12 (fun h => by cases h))]; exact l99_mm
                                  have f21_7 : g_21 (q 2) = some (.inl (cI, 60, .inl fx89)) := by rw [eg_21, hs_n _ _ (qne hq (by decide) (by decide) (by decide))]; exact l99_q2
                                  have f21_8 : g_21 (q 3) = some (.inl (cI, 60, .inl fy89)) := by rw [eg_21, hs_n _ _ (qne hq (by decide) (by decide) (by decide))]; exact l99_q3
                                  have f21_9 : g_21 (q 4) = some (.inl (cI, 3721, .inl fb93)) := by rw [eg_21, hs_n _ _ (qne hq (by decide) (by decide) (by decide))]; exact l99_q4
                                  have f21_10 : g_21 (q 5) = some (.inl (cI, 60, .inl fp93)) := by rw [eg_21, hs_n _ _ (qne hq (by decide) (by decide) (by decide))]; exact l99_q5
                                  have f21_11 : g_21 (q 12) = some (.inl (cI, 60, .inl (upd fr_ x99 (fp93 x99)))) := by rw [eg_21]; exact hs_s _ _ _
                                  have fr := fr.put eg_21 (by simp)
                                  refine lv_iinc (v := nI (x99 + 1)) (lv' := [(5, .int (nI (x99 + 1))), (0, .ref mm), (1, .int (nI i)), (2, .int (nI j)), (3, .int (nI k)), (4, .int (nI w))]) S0.1 S0.2.1 dMM_merge_122 hl (k := 5) rfl (by exact nI_add _ 1) (by decide) rfl (fun ls hl => ?_)
                                  refine lv_goto (tgt := 99) S0.1 S0.2.1 dMM_merge_125 (by decide) ?_
                                  exact ih_99 (x99 + 1) (upd fr_ x99 (fp93 x99)) g_21 _ _ _ (by omega) (by omega) (fun y h => by rcases Nat.lt_or_ge y x99 with h9 | h9; rw [pk_un (by omega)]; exact hc99 y h9; rw [show y = x99 by omega, pk_us]) fr f21_0 f21_1 f21_2 f21_11 f21_3 f21_4 f21_5 f21_6 f21_7 f21_8 f21_9 f21_10 hg hS (lv_sub hl [1, 2, 3, 4, 5, 0] rfl)
                            exact loop_99 _ 0 (F 12) g_9 _ _ _ (Nat.lt_succ_self _) (Nat.zero_le _) (fun y h => absurd h (Nat.not_lt_zero y)) fr k9_0 k9_1 k9_2 k9_3 k9_4 k9_5 k9_6 k9_7 k9_8 k9_9 p193 p293 hg hS (lv_sub hl [1, 2, 3, 4, 5, 0] rfl)
                          · skip
                            have c_63 : ¬ (((S.1 i).length) ≤ x57) := fun h => c_63 ((nI_leI (by omega) (by omega)).mpr h)
                            refine lv_aload_n S0.1 S0.2.1 dMM_merge_66 rfl (lv_at hl 0 rfl) ?_
                            refine hw_get S0 hK hg l57_mm rfl inMM 19 (by decide) lf_MM_43 rfl rfl dMM_merge_67 ?_
                            refine lv_iload S0.1 S0.2.1 dMM_merge_70 (lv_at hl 5 rfl) ?_
                            refine lv_aload_n S0.1 S0.2.1 dMM_merge_72 rfl (lv_at hl 0 rfl) ?_
                            refine hw_get S0 hK hg l57_mm rfl inMM 8 (by decide) lf_MM_25 rfl rfl dMM_merge_73 ?_
                            refine lv_iload S0.1 S0.2.1 dMM_merge_76 (lv_at hl 5 rfl) ?_
                            refine hw_iald S0 hK hg l57_q5 0 rfl (by omega) (by omega) dMM_merge_78 ?_
                            refine hw_iast S0 hK hg hS l57_q11 0 rfl (by omega) (by omega) dMM_merge_79 (fun H locs hg hS => ?_)
                            obtain ⟨g_22, eg_22⟩ : ∃ z, z = hs gl57 (q 11) (.inl (cI, 60, .inl (upd fl_ x57 (fp51 x57)))) := ⟨_, rfl⟩
                            have hg : hw D hC AX g_22 H := by rw [eg_22]; exact hg
                            have f22_0 : g_22 (q 0) = some (.inl (cI, 6, .inl (F 0))) := by rw [eg_22, hs_n _ _ (qne hq (by decide) (by decide) (by decide))]; exact l57_q0
                            have f22_1 : g_22 (q 1) = some (.inl (cI, 360, .inl (F 1))) := by rw [eg_22, hs_n _ _ (qne hq (by decide) (by decide) (by decide))]; exact l57_q1
                            have f22_2 : g_22 (q 12) = some (.inl (cI, 60, .inl (F 12))) := by rw [eg_22, hs_n _ _ (qne hq (by decide) (by decide) (by decide))]; exact l57_q12
                            have f22_3 : g_22 (q 10) = some (.inl (cI, 60, .inl (F 10))) := by rw [eg_22, hs_n _ _ (qne hq (by decide) (by decide) (by decide))]; exact l57_q10
                            have f22_4 : g_22 (q 14) = some (.inl (cI, 400, .inl (F 14))) := by rw [eg_22, hs_n _ _ (qne hq (by decide) (by decide) (by decide))]; exact l57_q14
                            have f22_5 : g_22 (q 13) = some (.inl (cI, 400, .inl (F 13))) := by rw [eg_22, hs_n _ _ (qne hq (by decide) (by decide) (by decide))]; exact l57_q13
                            have f22_6 : g_22 mm = some (mmC q (nI 0) (nI ((S.1 i).length)) (nI ((S.1 j).length)) (nI S.2.1.length) (nI S.2.2.1.length) v14 v16 v17 (nI S.2.2.2.1.length) v23 (nI S.2.2.2.2.1.length)) := by rw [eg_22, hs_n _ _ (h_ne l57_mm l57_q11 (fun h => by cases h))]; exact l57_mm
                            have f22_7 : g_22 (q 2) = some (.inl (cI, 60, .inl fx47)) := by rw [eg_22, hs_n _ _ (qne hq (by decide) (by decide) (by decide))]; exact l57_q2
                            have f22_8 : g_22 (q 3) = some (.inl (cI, 60, .inl fy47)) := by rw [eg_22, hs_n _ _ (qne hq (by decide) (by decide) (by decide))]; exact l57_q3
                            have f22_9 : g_22 (q 4) = some (.inl (cI, 3721, .inl fb51)) := by rw [eg_22, hs_n _ _ (qne hq (by decide) (by decide) (by decide))]; exact l57_q4
                            have f22_10 : g_22 (q 5) = some (.inl (cI, 60, .inl fp51)) := by rw [eg_22, hs_n _ _ (qne hq (by decide) (by decide) (by decide))]; exact l57_q5
                            have f22_11 : g_22 (q 11) = some (.inl (cI, 60, .inl (upd fl_ x57 (fp51 x57)))) := by rw [eg_22]; exact hs_s _ _ _
                            have fr := fr.put eg_22 (by simp)
                            refine lv_iinc (v := nI (x57 + 1)) (lv' := [(5, .int (nI (x57 + 1))), (0, .ref mm), (1, .int (nI i)), (2, .int (nI j)), (3, .int (nI k)), (4, .int (nI w))]) S0.1 S0.2.1 dMM_merge_80 hl (k := 5) rfl (by exact nI_add _ 1) (by decide) rfl (fun ls hl => ?_)
                            refine lv_goto (tgt := 57) S0.1 S0.2.1 dMM_merge_83 (by decide) ?_
                            exact ih_57 (x57 + 1) (upd fl_ x57 (fp51 x57)) g_22 _ _ _ (by omega) (by omega) (fun y h => by rcases Nat.lt_or_ge y x57 with h9 | h9; rw [pk_un (by omega)]; exact hc57 y h9; rw [show y = x57 by omega, pk_us]) fr f22_0 f22_1 f22_11 f22_2 f22_3 f22_4 f22_5 f22_6 f22_7 f22_8 f22_9 f22_10 hg hS (lv_sub hl [1, 2, 3, 4, 5, 0] rfl)
                      exact loop_57 _ 0 (F 11) g_7 _ _ _ (Nat.lt_succ_self _) (Nat.zero_le _) (fun y h => absurd h (Nat.not_lt_zero y)) fr k7_0 k7_1 k7_2 k7_3 k7_4 k7_5 k7_6 k7_7 k7_8 k7_9 p151 p251 hg hS (lv_sub hl [1, 2, 3, 4, 5, 0] rfl)
                    · skip
                      rw [← nI_0] at c_39
                      have c_39 : ¬ (0 = 0) := fun h => c_39 ((nI_eq (by omega) (by omega)).mpr h)
                      exact absurd c_39 (by decide)
                · skip
                  rw [← nI_0] at c_27
                  have c_27 : 1 = 0 := (nI_eq (by omega) (by omega)).mp c_27
                  exact absurd c_27 (by decide)
              · skip
                obtain ⟨ho, hn_w⟩ := hp_24
                subst ho
                have e_w : ix po 6 = none := ix_none hn_w
                refine lv_if_ne (tgt := 34) S0.1 S0.2.1 dMM_merge_27 (by decide) (fun c_27 => ?_) (fun c_27 => ?_)
                · skip
                  rw [← nI_0] at c_27
                  have c_27 : ¬ (0 = 0) := fun h => c_27 ((nI_eq (by omega) (by omega)).mpr h)
                  exact absurd c_27 (by decide)
                · skip
                  rw [← nI_0] at c_27
                  have c_27 : 0 = 0 := (nI_eq (by omega) (by omega)).mp c_27
                  refine lv_iconst (v := nI 1) S0.1 S0.2.1 dMM_merge_30 (by decide) ?_
                  refine lv_goto (tgt := 35) S0.1 S0.2.1 dMM_merge_31 (by decide) ?_
                  refine lv_iconst (v := nI 0) S0.1 S0.2.1 dMM_merge_35 (by decide) ?_
                  refine hw_Vi (As := [.int (nI 1), .int (nI 0)]) (rest := []) S0 hK hg hS hA0 h0 rfl (c_MM_refuse l D cI cR cJ g _ mm q hq (nI t) v3 v4 (nI S.2.1.length) (nI S.2.2.1.length) v14 v16 v17 (nI S.2.2.2.1.length) v23 (nI S.2.2.2.2.1.length) 1 0 (by decide) (by decide) h0) kMM_refuse lm_MM_72 (hR.call rfl) rfl hl.1 rfl (Nat.le_of_ble_eq_true rfl) dMM_merge_36 (hR.new (by decide) (by decide)) (fun r_36 g_23 H locs hp_36 hg hS => ?_)
                  obtain ⟨frr, rm_, hp_36⟩ := hp_36
                  have rm_ : g_23 mm = some (mmC q (nI 1) v3 v4 (nI S.2.1.length) (nI S.2.2.1.length) v14 v16 v17 (nI S.2.2.2.1.length) v23 (nI S.2.2.2.2.1.length)) := rm_
                  have k23_0 := frr.at (h_nm (h_ne hsizes h0 (fun h => by cases h)) h_n0) hsizes
                  have k23_1 := frr.at (h_nm (h_ne hlines h0 (fun h => by cases h)) h_n0) hlines
                  have k23_2 := frr.at (h_nm (h_ne hleft h0 (fun h => by cases h)) h_n0) hleft
                  have k23_3 := frr.at (h_nm (h_ne hright h0 (fun h => by cases h)) h_n0) hright
                  have k23_4 := frr.at (h_nm (h_ne hfresh h0 (fun h => by cases h)) h_n0) hfresh
                  have k23_5 := frr.at (h_nm (h_ne hnewConflict h0 (fun h => by cases h)) h_n0) hnewConflict
                  have k23_6 := frr.at (h_nm (h_ne hconflict h0 (fun h => by cases h)) h_n0) hconflict
                  have k23_7 := frr.at (h_nm (h_ne hx h0 (fun h => by cases h)) h_n0) hx
                  have k23_8 := frr.at (h_nm (h_ne hy h0 (fun h => by cases h)) h_n0) hy
                  have k23_9 := frr.at (h_nm (h_ne hbest h0 (fun h => by cases h)) h_n0) hbest
                  have k23_10 := frr.at (h_nm (h_ne hpartner h0 (fun h => by cases h)) h_n0) hpartner
                  have fr := fr.call frr (by simp)
                  rcases hp_36 with ⟨ho, hr_⟩ | ⟨ho, hr_⟩
                  · skip
                    subst ho
                    refine lv_if_eq (tgt := 44) S0.1 S0.2.1 dMM_merge_39 (by decide) (fun c_39 => ?_) (fun c_39 => ?_)
                    · skip
                      rw [← nI_0] at c_39
                      have c_39 : 1 = 0 := (nI_eq (by omega) (by omega)).mp c_39
                      exact absurd c_39 (by decide)
                    · skip
                      rw [← nI_0] at c_39
                      have c_39 : ¬ (1 = 0) := fun h => c_39 ((nI_eq (by omega) (by omega)).mpr h)
                      refine lv_iconst (v := nI 0) S0.1 S0.2.1 dMM_merge_42 (by decide) ?_
                      have eop : o_merge (nI i) (nI j) (nI k) po S = (1, 0, S) := by unfold o_merge; rw [e_i, e_j, e_k, e_w]
                      have hF2 : ∀ i, i < 18 → g_23 (q i) = some (.inl (cI, mSz i, .inl ((fun i => match i with | 0 => F 0 | 1 => F 1 | 11 => F 11 | 12 => F 12 | 10 => F 10 | 14 => F 14 | 13 => F 13 | 2 => F 2 | 3 => F 3 | 4 => F 4 | 5 => F 5 | i => F i) i))) := by
                        intro i hi
                        match i, hi with
                        | 0, _ => exact k23_0
                        | 1, _ => exact k23_1
                        | 2, _ => exact k23_7
                        | 3, _ => exact k23_8
                        | 4, _ => exact k23_9
                        | 5, _ => exact k23_10
                        | 6, _ => exact fr.at (h_nm (h_ne (hF 6 (by decide)) h0 (fun h => by cases h)) (h_nm (qne hq (by decide) (by decide) (by decide)) (h_nm (qne hq (by decide) (by decide) (by decide)) (h_nm (qne hq (by decide) (by decide) (by decide)) (h_nm (qne hq (by decide) (by decide) (by decide)) (h_nm (qne hq (by decide) (by decide) (by decide)) (h_nm (qne hq (by decide) (by decide) (by decide)) (h_nm (qne hq (by decide) (by decide) (by decide)) (h_nm (qne hq (by decide) (by decide) (by decide)) (h_nm (qne hq (by decide) (by decide) (by decide)) (h_nm (qne hq (by decide) (by decide) (by decide)) (h_nm (qne hq (by decide) (by decide) (by decide)) h_n0)))))))))))) (hF 6 (by decide))
                        | 7, _ => exact fr.at (h_nm (h_ne (hF 7 (by decide)) h0 (fun h => by cases h)) (h_nm (qne hq (by decide) (by decide) (by decide)) (h_nm (qne hq (by decide) (by decide) (by decide)) (h_nm (qne hq (by decide) (by decide) (by decide)) (h_nm (qne hq (by decide) (by decide) (by decide)) (h_nm (qne hq (by decide) (by decide) (by decide)) (h_nm (qne hq (by decide) (by decide) (by decide)) (h_nm (qne hq (by decide) (by decide) (by decide)) (h_nm (qne hq (by decide) (by decide) (by decide)) (h_nm (qne hq (by decide) (by decide) (by decide)) (h_nm (qne hq (by decide) (by decide) (by decide)) (h_nm (qne hq (by decide) (by decide) (by decide)) h_n0)))))))))))) (hF 7 (by decide))
                        | 8, _ => exact fr.at (h_nm (h_ne (hF 8 (by decide)) h0 (fun h => by cases h)) (h_nm (qne hq (by decide) (by decide) (by decide)) (h_nm (qne hq (by decide) (by decide) (by decide)) (h_nm (qne hq (by decide) (by decide) (by decide)) (h_nm (qne hq (by decide) (by decide) (by decide)) (h_nm (qne hq (by decide) (by decide) (by decide)) (h_nm (qne hq (by decide) (by decide) (by decide)) (h_nm (qne hq (by decide) (by decide) (by decide)) (h_nm (qne hq (by decide) (by decide) (by decide)) (h_nm (qne hq (by decide) (by decide) (by decide)) (h_nm (qne hq (by decide) (by decide) (by decide)) (h_nm (qne hq (by decide) (by decide) (by decide)) h_n0)))))))))))) (hF 8 (by decide))
                        | 9, _ => exact fr.at (h_nm (h_ne (hF 9 (by decide)) h0 (fun h => by cases h)) (h_nm (qne hq (by decide) (by decide) (by decide)) (h_nm (qne hq (by decide) (by decide) (by decide)) (h_nm (qne hq (by decide) (by decide) (by decide)) (h_nm (qne hq (by decide) (by decide) (by decide)) (h_nm (qne hq (by decide) (by decide) (by decide)) (h_nm (qne hq (by decide) (by decide) (by decide)) (h_nm (qne hq (by decide) (by decide) (by decide)) (h_nm (qne hq (by decide) (by decide) (by decide)) (h_nm (qne hq (by decide) (by decide) (by decide)) (h_nm (qne hq (by decide) (by decide) (by decide)) (h_nm (qne hq (by decide) (by decide) (by decide)) h_n0)))))))))))) (hF 9 (by decide))
                        | 10, _ => exact k23_4
                        | 11, _ => exact k23_2
                        | 12, _ => exact k23_3
                        | 13, _ => exact k23_6
                        | 14, _ => exact k23_5
                        | 15, _ => exact fr.at (h_nm (h_ne (hF 15 (by decide)) h0 (fun h => by cases h)) (h_nm (qne hq (by decide) (by decide) (by decide)) (h_nm (qne hq (by decide) (by decide) (by decide)) (h_nm (qne hq (by decide) (by decide) (by decide)) (h_nm (qne hq (by decide) (by decide) (by decide)) (h_nm (qne hq (by decide) (by decide) (by decide)) (h_nm (qne hq (by decide) (by decide) (by decide)) (h_nm (qne hq (by decide) (by decide) (by decide)) (h_nm (qne hq (by decide) (by decide) (by decide)) (h_nm (qne hq (by decide) (by decide) (by decide)) (h_nm (qne hq (by decide) (by decide) (by decide)) (h_nm (qne hq (by decide) (by decide) (by decide)) h_n0)))))))))))) (hF 15 (by decide))
                        | 16, _ => exact fr.at (h_nm (h_ne (hF 16 (by decide)) h0 (fun h => by cases h)) (h_nm (qne hq (by decide) (by decide) (by decide)) (h_nm (qne hq (by decide) (by decide) (by decide)) (h_nm (qne hq (by decide) (by decide) (by decide)) (h_nm (qne hq (by decide) (by decide) (by decide)) (h_nm (qne hq (by decide) (by decide) (by decide)) (h_nm (qne hq (by decide) (by decide) (by decide)) (h_nm (qne hq (by decide) (by decide) (by decide)) (h_nm (qne hq (by decide) (by decide) (by decide)) (h_nm (qne hq (by decide) (by decide) (by decide)) (h_nm (qne hq (by decide) (by decide) (by decide)) (h_nm (qne hq (by decide) (by decide) (by decide)) h_n0)))))))))))) (hF 16 (by decide))
                        | 17, _ => exact fr.at (h_nm (h_ne (hF 17 (by decide)) h0 (fun h => by cases h)) (h_nm (qne hq (by decide) (by decide) (by decide)) (h_nm (qne hq (by decide) (by decide) (by decide)) (h_nm (qne hq (by decide) (by decide) (by decide)) (h_nm (qne hq (by decide) (by decide) (by decide)) (h_nm (qne hq (by decide) (by decide) (by decide)) (h_nm (qne hq (by decide) (by decide) (by decide)) (h_nm (qne hq (by decide) (by decide) (by decide)) (h_nm (qne hq (by decide) (by decide) (by decide)) (h_nm (qne hq (by decide) (by decide) (by decide)) (h_nm (qne hq (by decide) (by decide) (by decide)) (h_nm (qne hq (by decide) (by decide) (by decide)) h_n0)))))))))))) (hF 17 (by decide))
                        | i + 18, h => omega
                      have hrep : repM cI g_23 mm q (o_merge (nI i) (nI j) (nI k) po S).1 (o_merge (nI i) (nI j) (nI k) po S).2.2 := by rw [eop]; exact ⟨hq, hok, v3, v4, v14, v16, v17, v23, (fun i => match i with | 0 => F 0 | 1 => F 1 | 11 => F 11 | 12 => F 12 | 10 => F 10 | 14 => F 14 | 13 => F 13 | 2 => F 2 | 3 => F 3 | 4 => F 4 | 5 => F 5 | i => F i), rm_, hF2, hR_, hA_, hB_, hH_, hC_, hZ_, hV_, hL_⟩
                      have fr9 : hfr g g_23 (mS mm q) := fr.mono (by simp)
                      exact hend _ _ _ _ _ _ _ _ (by decide) (by decide) rfl (⟨fr9, hrep, fun h9 => by rw [eop] at h9 ⊢; cases h9⟩) hg hS dMM_merge_43
                  · skip
                    exact absurd hr_ (by decide)
          · skip
            obtain ⟨ho, hn_k⟩ := hp_16
            subst ho
            have e_k : ix pc 6 = none := ix_none hn_k
            refine lv_if_eq (tgt := 30) S0.1 S0.2.1 dMM_merge_19 (by decide) (fun c_19 => ?_) (fun c_19 => ?_)
            · skip
              rw [← nI_0] at c_19
              have c_19 : 0 = 0 := (nI_eq (by omega) (by omega)).mp c_19
              refine lv_iconst (v := nI 1) S0.1 S0.2.1 dMM_merge_30 (by decide) ?_
              refine lv_goto (tgt := 35) S0.1 S0.2.1 dMM_merge_31 (by decide) ?_
              refine lv_iconst (v := nI 0) S0.1 S0.2.1 dMM_merge_35 (by decide) ?_
              refine hw_Vi (As := [.int (nI 1), .int (nI 0)]) (rest := []) S0 hK hg hS hA0 h0 rfl (c_MM_refuse l D cI cR cJ g _ mm q hq (nI t) v3 v4 (nI S.2.1.length) (nI S.2.2.1.length) v14 v16 v17 (nI S.2.2.2.1.length) v23 (nI S.2.2.2.2.1.length) 1 0 (by decide) (by decide) h0) kMM_refuse lm_MM_72 (hR.call rfl) rfl hl.1 rfl (Nat.le_of_ble_eq_true rfl) dMM_merge_36 (hR.new (by decide) (by decide)) (fun r_36 g_24 H locs hp_36 hg hS => ?_)
              obtain ⟨frr, rm_, hp_36⟩ := hp_36
              have rm_ : g_24 mm = some (mmC q (nI 1) v3 v4 (nI S.2.1.length) (nI S.2.2.1.length) v14 v16 v17 (nI S.2.2.2.1.length) v23 (nI S.2.2.2.2.1.length)) := rm_
              have k24_0 := frr.at (h_nm (h_ne hsizes h0 (fun h => by cases h)) h_n0) hsizes
              have k24_1 := frr.at (h_nm (h_ne hlines h0 (fun h => by cases h)) h_n0) hlines
              have k24_2 := frr.at (h_nm (h_ne hleft h0 (fun h => by cases h)) h_n0) hleft
              have k24_3 := frr.at (h_nm (h_ne hright h0 (fun h => by cases h)) h_n0) hright
              have k24_4 := frr.at (h_nm (h_ne hfresh h0 (fun h => by cases h)) h_n0) hfresh
              have k24_5 := frr.at (h_nm (h_ne hnewConflict h0 (fun h => by cases h)) h_n0) hnewConflict
              have k24_6 := frr.at (h_nm (h_ne hconflict h0 (fun h => by cases h)) h_n0) hconflict
              have k24_7 := frr.at (h_nm (h_ne hx h0 (fun h => by cases h)) h_n0) hx
              have k24_8 := frr.at (h_nm (h_ne hy h0 (fun h => by cases h)) h_n0) hy
              have k24_9 := frr.at (h_nm (h_ne hbest h0 (fun h => by cases h)) h_n0) hbest
              have k24_10 := frr.at (h_nm (h_ne hpartner h0 (fun h => by cases h)) h_n0) hpartner
              have fr := fr.call frr (by simp)
              rcases hp_36 with ⟨ho, hr_⟩ | ⟨ho, hr_⟩
              · skip
                subst ho
                refine lv_if_eq (tgt := 44) S0.1 S0.2.1 dMM_merge_39 (by decide) (fun c_39 => ?_) (fun c_39 => ?_)
                · skip
                  rw [← nI_0] at c_39
                  have c_39 : 1 = 0 := (nI_eq (by omega) (by omega)).mp c_39
                  exact absurd c_39 (by decide)
                · skip
                  rw [← nI_0] at c_39
                  have c_39 : ¬ (1 = 0) := fun h => c_39 ((nI_eq (by omega) (by omega)).mpr h)
                  refine lv_iconst (v := nI 0) S0.1 S0.2.1 dMM_merge_42 (by decide) ?_
                  have eop : o_merge (nI i) (nI j) pc po S = (1, 0, S) := by unfold o_merge; rw [e_i, e_j, e_k]
                  have hF2 : ∀ i, i < 18 → g_24 (q i) = some (.inl (cI, mSz i, .inl ((fun i => match i with | 0 => F 0 | 1 => F 1 | 11 => F 11 | 12 => F 12 | 10 => F 10 | 14 => F 14 | 13 => F 13 | 2 => F 2 | 3 => F 3 | 4 => F 4 | 5 => F 5 | i => F i) i))) := by
                    intro i hi
                    match i, hi with
                    | 0, _ => exact k24_0
                    | 1, _ => exact k24_1
                    | 2, _ => exact k24_7
                    | 3, _ => exact k24_8
                    | 4, _ => exact k24_9
                    | 5, _ => exact k24_10
                    | 6, _ => exact fr.at (h_nm (h_ne (hF 6 (by decide)) h0 (fun h => by cases h)) (h_nm (qne hq (by decide) (by decide) (by decide)) (h_nm (qne hq (by decide) (by decide) (by decide)) (h_nm (qne hq (by decide) (by decide) (by decide)) (h_nm (qne hq (by decide) (by decide) (by decide)) (h_nm (qne hq (by decide) (by decide) (by decide)) (h_nm (qne hq (by decide) (by decide) (by decide)) (h_nm (qne hq (by decide) (by decide) (by decide)) (h_nm (qne hq (by decide) (by decide) (by decide)) (h_nm (qne hq (by decide) (by decide) (by decide)) (h_nm (qne hq (by decide) (by decide) (by decide)) (h_nm (qne hq (by decide) (by decide) (by decide)) h_n0)))))))))))) (hF 6 (by decide))
                    | 7, _ => exact fr.at (h_nm (h_ne (hF 7 (by decide)) h0 (fun h => by cases h)) (h_nm (qne hq (by decide) (by decide) (by decide)) (h_nm (qne hq (by decide) (by decide) (by decide)) (h_nm (qne hq (by decide) (by decide) (by decide)) (h_nm (qne hq (by decide) (by decide) (by decide)) (h_nm (qne hq (by decide) (by decide) (by decide)) (h_nm (qne hq (by decide) (by decide) (by decide)) (h_nm (qne hq (by decide) (by decide) (by decide)) (h_nm (qne hq (by decide) (by decide) (by decide)) (h_nm (qne hq (by decide) (by decide) (by decide)) (h_nm (qne hq (by decide) (by decide) (by decide)) (h_nm (qne hq (by decide) (by decide) (by decide)) h_n0)))))))))))) (hF 7 (by decide))
                    | 8, _ => exact fr.at (h_nm (h_ne (hF 8 (by decide)) h0 (fun h => by cases h)) (h_nm (qne hq (by decide) (by decide) (by decide)) (h_nm (qne hq (by decide) (by decide) (by decide)) (h_nm (qne hq (by decide) (by decide) (by decide)) (h_nm (qne hq (by decide) (by decide) (by decide)) (h_nm (qne hq (by decide) (by decide) (by decide)) (h_nm (qne hq (by decide) (by decide) (by decide)) (h_nm (qne hq (by decide) (by decide) (by decide)) (h_nm (qne hq (by decide) (by decide) (by decide)) (h_nm (qne hq (by decide) (by decide) (by decide)) (h_nm (qne hq (by decide) (by decide) (by decide)) (h_nm (qne hq (by decide) (by decide) (by decide)) h_n0)))))))))))) (hF 8 (by decide))
                    | 9, _ => exact fr.at (h_nm (h_ne (hF 9 (by decide)) h0 (fun h => by cases h)) (h_nm (qne hq (by decide) (by decide) (by decide)) (h_nm (qne hq (by decide) (by decide) (by decide)) (h_nm (qne hq (by decide) (by decide) (by decide)) (h_nm (qne hq (by decide) (by decide) (by decide)) (h_nm (qne hq (by decide) (by decide) (by decide)) (h_nm (qne hq (by decide) (by decide) (by decide)) (h_nm (qne hq (by decide) (by decide) (by decide)) (h_nm (qne hq (by decide) (by decide) (by decide)) (h_nm (qne hq (by decide) (by decide) (by decide)) (h_nm (qne hq (by decide) (by decide) (by decide)) (h_nm (qne hq (by decide) (by decide) (by decide)) h_n0)))))))))))) (hF 9 (by decide))
                    | 10, _ => exact k24_4
                    | 11, _ => exact k24_2
                    | 12, _ => exact k24_3
                    | 13, _ => exact k24_6
                    | 14, _ => exact k24_5
                    | 15, _ => exact fr.at (h_nm (h_ne (hF 15 (by decide)) h0 (fun h => by cases h)) (h_nm (qne hq (by decide) (by decide) (by decide)) (h_nm (qne hq (by decide) (by decide) (by decide)) (h_nm (qne hq (by decide) (by decide) (by decide)) (h_nm (qne hq (by decide) (by decide) (by decide)) (h_nm (qne hq (by decide) (by decide) (by decide)) (h_nm (qne hq (by decide) (by decide) (by decide)) (h_nm (qne hq (by decide) (by decide) (by decide)) (h_nm (qne hq (by decide) (by decide) (by decide)) (h_nm (qne hq (by decide) (by decide) (by decide)) (h_nm (qne hq (by decide) (by decide) (by decide)) (h_nm (qne hq (by decide) (by decide) (by decide)) h_n0)))))))))))) (hF 15 (by decide))
                    | 16, _ => exact fr.at (h_nm (h_ne (hF 16 (by decide)) h0 (fun h => by cases h)) (h_nm (qne hq (by decide) (by decide) (by decide)) (h_nm (qne hq (by decide) (by decide) (by decide)) (h_nm (qne hq (by decide) (by decide) (by decide)) (h_nm (qne hq (by decide) (by decide) (by decide)) (h_nm (qne hq (by decide) (by decide) (by decide)) (h_nm (qne hq (by decide) (by decide) (by decide)) (h_nm (qne hq (by decide) (by decide) (by decide)) (h_nm (qne hq (by decide) (by decide) (by decide)) (h_nm (qne hq (by decide) (by decide) (by decide)) (h_nm (qne hq (by decide) (by decide) (by decide)) (h_nm (qne hq (by decide) (by decide) (by decide)) h_n0)))))))))))) (hF 16 (by decide))
                    | 17, _ => exact fr.at (h_nm (h_ne (hF 17 (by decide)) h0 (fun h => by cases h)) (h_nm (qne hq (by decide) (by decide) (by decide)) (h_nm (qne hq (by decide) (by decide) (by decide)) (h_nm (qne hq (by decide) (by decide) (by decide)) (h_nm (qne hq (by decide) (by decide) (by decide)) (h_nm (qne hq (by decide) (by decide) (by decide)) (h_nm (qne hq (by decide) (by decide) (by decide)) (h_nm (qne hq (by decide) (by decide) (by decide)) (h_nm (qne hq (by decide) (by decide) (by decide)) (h_nm (qne hq (by decide) (by decide) (by decide)) (h_nm (qne hq (by decide) (by decide) (by decide)) (h_nm (qne hq (by decide) (by decide) (by decide)) h_n0)))))))))))) (hF 17 (by decide))
                    | i + 18, h => omega
                  have hrep : repM cI g_24 mm q (o_merge (nI i) (nI j) pc po S).1 (o_merge (nI i) (nI j) pc po S).2.2 := by rw [eop]; exact ⟨hq, hok, v3, v4, v14, v16, v17, v23, (fun i => match i with | 0 => F 0 | 1 => F 1 | 11 => F 11 | 12 => F 12 | 10 => F 10 | 14 => F 14 | 13 => F 13 | 2 => F 2 | 3 => F 3 | 4 => F 4 | 5 => F 5 | i => F i), rm_, hF2, hR_, hA_, hB_, hH_, hC_, hZ_, hV_, hL_⟩
                  have fr9 : hfr g g_24 (mS mm q) := fr.mono (by simp)
                  exact hend _ _ _ _ _ _ _ _ (by decide) (by decide) rfl (⟨fr9, hrep, fun h9 => by rw [eop] at h9 ⊢; cases h9⟩) hg hS dMM_merge_43
              · skip
                exact absurd hr_ (by decide)
            · skip
              rw [← nI_0] at c_19
              have c_19 : ¬ (0 = 0) := fun h => c_19 ((nI_eq (by omega) (by omega)).mpr h)
              exact absurd c_19 (by decide)
      · skip
        obtain ⟨ho, hn_j⟩ := hp_9
        subst ho
        have e_j : ix pb 6 = none := ix_none hn_j
        refine lv_if_eq (tgt := 30) S0.1 S0.2.1 dMM_merge_12 (by decide) (fun c_12 => ?_) (fun c_12 => ?_)
        · skip
          rw [← nI_0] at c_12
          have c_12 : 0 = 0 := (nI_eq (by omega) (by omega)).mp c_12
          refine lv_iconst (v := nI 1) S0.1 S0.2.1 dMM_merge_30 (by decide) ?_
          refine lv_goto (tgt := 35) S0.1 S0.2.1 dMM_merge_31 (by decide) ?_
          refine lv_iconst (v := nI 0) S0.1 S0.2.1 dMM_merge_35 (by decide) ?_
          refine hw_Vi (As := [.int (nI 1), .int (nI 0)]) (rest := []) S0 hK hg hS hA0 h0 rfl (c_MM_refuse l D cI cR cJ g _ mm q hq (nI t) v3 v4 (nI S.2.1.length) (nI S.2.2.1.length) v14 v16 v17 (nI S.2.2.2.1.length) v23 (nI S.2.2.2.2.1.length) 1 0 (by decide) (by decide) h0) kMM_refuse lm_MM_72 (hR.call rfl) rfl hl.1 rfl (Nat.le_of_ble_eq_true rfl) dMM_merge_36 (hR.new (by decide) (by decide)) (fun r_36 g_25 H locs hp_36 hg hS => ?_)
          obtain ⟨frr, rm_, hp_36⟩ := hp_36
          have rm_ : g_25 mm = some (mmC q (nI 1) v3 v4 (nI S.2.1.length) (nI S.2.2.1.length) v14 v16 v17 (nI S.2.2.2.1.length) v23 (nI S.2.2.2.2.1.length)) := rm_
          have k25_0 := frr.at (h_nm (h_ne hsizes h0 (fun h => by cases h)) h_n0) hsizes
          have k25_1 := frr.at (h_nm (h_ne hlines h0 (fun h => by cases h)) h_n0) hlines
          have k25_2 := frr.at (h_nm (h_ne hleft h0 (fun h => by cases h)) h_n0) hleft
          have k25_3 := frr.at (h_nm (h_ne hright h0 (fun h => by cases h)) h_n0) hright
          have k25_4 := frr.at (h_nm (h_ne hfresh h0 (fun h => by cases h)) h_n0) hfresh
          have k25_5 := frr.at (h_nm (h_ne hnewConflict h0 (fun h => by cases h)) h_n0) hnewConflict
          have k25_6 := frr.at (h_nm (h_ne hconflict h0 (fun h => by cases h)) h_n0) hconflict
          have k25_7 := frr.at (h_nm (h_ne hx h0 (fun h => by cases h)) h_n0) hx
          have k25_8 := frr.at (h_nm (h_ne hy h0 (fun h => by cases h)) h_n0) hy
          have k25_9 := frr.at (h_nm (h_ne hbest h0 (fun h => by cases h)) h_n0) hbest
          have k25_10 := frr.at (h_nm (h_ne hpartner h0 (fun h => by cases h)) h_n0) hpartner
          have fr := fr.call frr (by simp)
          rcases hp_36 with ⟨ho, hr_⟩ | ⟨ho, hr_⟩
          · skip
            subst ho
            refine lv_if_eq (tgt := 44) S0.1 S0.2.1 dMM_merge_39 (by decide) (fun c_39 => ?_) (fun c_39 => ?_)
            · skip
              rw [← nI_0] at c_39
              have c_39 : 1 = 0 := (nI_eq (by omega) (by omega)).mp c_39
              exact absurd c_39 (by decide)
            · skip
              rw [← nI_0] at c_39
              have c_39 : ¬ (1 = 0) := fun h => c_39 ((nI_eq (by omega) (by omega)).mpr h)
              refine lv_iconst (v := nI 0) S0.1 S0.2.1 dMM_merge_42 (by decide) ?_
              have eop : o_merge (nI i) pb pc po S = (1, 0, S) := by unfold o_merge; rw [e_i, e_j]
              have hF2 : ∀ i, i < 18 → g_25 (q i) = some (.inl (cI, mSz i, .inl ((fun i => match i with | 0 => F 0 | 1 => F 1 | 11 => F 11 | 12 => F 12 | 10 => F 10 | 14 => F 14 | 13 => F 13 | 2 => F 2 | 3 => F 3 | 4 => F 4 | 5 => F 5 | i => F i) i))) := by
                intro i hi
                match i, hi with
                | 0, _ => exact k25_0
                | 1, _ => exact k25_1
                | 2, _ => exact k25_7
                | 3, _ => exact k25_8
                | 4, _ => exact k25_9
                | 5, _ => exact k25_10
                | 6, _ => exact fr.at (h_nm (h_ne (hF 6 (by decide)) h0 (fun h => by cases h)) (h_nm (qne hq (by decide) (by decide) (by decide)) (h_nm (qne hq (by decide) (by decide) (by decide)) (h_nm (qne hq (by decide) (by decide) (by decide)) (h_nm (qne hq (by decide) (by decide) (by decide)) (h_nm (qne hq (by decide) (by decide) (by decide)) (h_nm (qne hq (by decide) (by decide) (by decide)) (h_nm (qne hq (by decide) (by decide) (by decide)) (h_nm (qne hq (by decide) (by decide) (by decide)) (h_nm (qne hq (by decide) (by decide) (by decide)) (h_nm (qne hq (by decide) (by decide) (by decide)) (h_nm (qne hq (by decide) (by decide) (by decide)) h_n0)))))))))))) (hF 6 (by decide))
                | 7, _ => exact fr.at (h_nm (h_ne (hF 7 (by decide)) h0 (fun h => by cases h)) (h_nm (qne hq (by decide) (by decide) (by decide)) (h_nm (qne hq (by decide) (by decide) (by decide)) (h_nm (qne hq (by decide) (by decide) (by decide)) (h_nm (qne hq (by decide) (by decide) (by decide)) (h_nm (qne hq (by decide) (by decide) (by decide)) (h_nm (qne hq (by decide) (by decide) (by decide)) (h_nm (qne hq (by decide) (by decide) (by decide)) (h_nm (qne hq (by decide) (by decide) (by decide)) (h_nm (qne hq (by decide) (by decide) (by decide)) (h_nm (qne hq (by decide) (by decide) (by decide)) (h_nm (qne hq (by decide) (by decide) (by decide)) h_n0)))))))))))) (hF 7 (by decide))
                | 8, _ => exact fr.at (h_nm (h_ne (hF 8 (by decide)) h0 (fun h => by cases h)) (h_nm (qne hq (by decide) (by decide) (by decide)) (h_nm (qne hq (by decide) (by decide) (by decide)) (h_nm (qne hq (by decide) (by decide) (by decide)) (h_nm (qne hq (by decide) (by decide) (by decide)) (h_nm (qne hq (by decide) (by decide) (by decide)) (h_nm (qne hq (by decide) (by decide) (by decide)) (h_nm (qne hq (by decide) (by decide) (by decide)) (h_nm (qne hq (by decide) (by decide) (by decide)) (h_nm (qne hq (by decide) (by decide) (by decide)) (h_nm (qne hq (by decide) (by decide) (by decide)) (h_nm (qne hq (by decide) (by decide) (by decide)) h_n0)))))))))))) (hF 8 (by decide))
                | 9, _ => exact fr.at (h_nm (h_ne (hF 9 (by decide)) h0 (fun h => by cases h)) (h_nm (qne hq (by decide) (by decide) (by decide)) (h_nm (qne hq (by decide) (by decide) (by decide)) (h_nm (qne hq (by decide) (by decide) (by decide)) (h_nm (qne hq (by decide) (by decide) (by decide)) (h_nm (qne hq (by decide) (by decide) (by decide)) (h_nm (qne hq (by decide) (by decide) (by decide)) (h_nm (qne hq (by decide) (by decide) (by decide)) (h_nm (qne hq (by decide) (by decide) (by decide)) (h_nm (qne hq (by decide) (by decide) (by decide)) (h_nm (qne hq (by decide) (by decide) (by decide)) (h_nm (qne hq (by decide) (by decide) (by decide)) h_n0)))))))))))) (hF 9 (by decide))
                | 10, _ => exact k25_4
                | 11, _ => exact k25_2
                | 12, _ => exact k25_3
                | 13, _ => exact k25_6
                | 14, _ => exact k25_5
                | 15, _ => exact fr.at (h_nm (h_ne (hF 15 (by decide)) h0 (fun h => by cases h)) (h_nm (qne hq (by decide) (by decide) (by decide)) (h_nm (qne hq (by decide) (by decide) (by decide)) (h_nm (qne hq (by decide) (by decide) (by decide)) (h_nm (qne hq (by decide) (by decide) (by decide)) (h_nm (qne hq (by decide) (by decide) (by decide)) (h_nm (qne hq (by decide) (by decide) (by decide)) (h_nm (qne hq (by decide) (by decide) (by decide)) (h_nm (qne hq (by decide) (by decide) (by decide)) (h_nm (qne hq (by decide) (by decide) (by decide)) (h_nm (qne hq (by decide) (by decide) (by decide)) (h_nm (qne hq (by decide) (by decide) (by decide)) h_n0)))))))))))) (hF 15 (by decide))
                | 16, _ => exact fr.at (h_nm (h_ne (hF 16 (by decide)) h0 (fun h => by cases h)) (h_nm (qne hq (by decide) (by decide) (by decide)) (h_nm (qne hq (by decide) (by decide) (by decide)) (h_nm (qne hq (by decide) (by decide) (by decide)) (h_nm (qne hq (by decide) (by decide) (by decide)) (h_nm (qne hq (by decide) (by decide) (by decide)) (h_nm (qne hq (by decide) (by decide) (by decide)) (h_nm (qne hq (by decide) (by decide) (by decide)) (h_nm (qne hq (by decide) (by decide) (by decide)) (h_nm (qne hq (by decide) (by decide) (by decide)) (h_nm (qne hq (by decide) (by decide) (by decide)) (h_nm (qne hq (by decide) (by decide) (by decide)) h_n0)))))))))))) (hF 16 (by decide))
                | 17, _ => exact fr.at (h_nm (h_ne (hF 17 (by decide)) h0 (fun h => by cases h)) (h_nm (qne hq (by decide) (by decide) (by decide)) (h_nm (qne hq (by decide) (by decide) (by decide)) (h_nm (qne hq (by decide) (by decide) (by decide)) (h_nm (qne hq (by decide) (by decide) (by decide)) (h_nm (qne hq (by decide) (by decide) (by decide)) (h_nm (qne hq (by decide) (by decide) (by decide)) (h_nm (qne hq (by decide) (by decide) (by decide)) (h_nm (qne hq (by decide) (by decide) (by decide)) (h_nm (qne hq (by decide) (by decide) (by decide)) (h_nm (qne hq (by decide) (by decide) (by decide)) (h_nm (qne hq (by decide) (by decide) (by decide)) h_n0)))))))))))) (hF 17 (by decide))
                | i + 18, h => omega
              have hrep : repM cI g_25 mm q (o_merge (nI i) pb pc po S).1 (o_merge (nI i) pb pc po S).2.2 := by rw [eop]; exact ⟨hq, hok, v3, v4, v14, v16, v17, v23, (fun i => match i with | 0 => F 0 | 1 => F 1 | 11 => F 11 | 12 => F 12 | 10 => F 10 | 14 => F 14 | 13 => F 13 | 2 => F 2 | 3 => F 3 | 4 => F 4 | 5 => F 5 | i => F i), rm_, hF2, hR_, hA_, hB_, hH_, hC_, hZ_, hV_, hL_⟩
              have fr9 : hfr g g_25 (mS mm q) := fr.mono (by simp)
              exact hend _ _ _ _ _ _ _ _ (by decide) (by decide) rfl (⟨fr9, hrep, fun h9 => by rw [eop] at h9 ⊢; cases h9⟩) hg hS dMM_merge_43
          · skip
            exact absurd hr_ (by decide)
        · skip
          rw [← nI_0] at c_12
          have c_12 : ¬ (0 = 0) := fun h => c_12 ((nI_eq (by omega) (by omega)).mpr h)
          exact absurd c_12 (by decide)
  · skip
    obtain ⟨ho, hn_i⟩ := hp_2
    subst ho
    have e_i : ix pa 6 = none := ix_none hn_i
    refine lv_if_eq (tgt := 30) S0.1 S0.2.1 dMM_merge_5 (by decide) (fun c_5 => ?_) (fun c_5 => ?_)
    · skip
      rw [← nI_0] at c_5
      have c_5 : 0 = 0 := (nI_eq (by omega) (by omega)).mp c_5
      refine lv_iconst (v := nI 1) S0.1 S0.2.1 dMM_merge_30 (by decide) ?_
      refine lv_goto (tgt := 35) S0.1 S0.2.1 dMM_merge_31 (by decide) ?_
      refine lv_iconst (v := nI 0) S0.1 S0.2.1 dMM_merge_35 (by decide) ?_
      refine hw_Vi (As := [.int (nI 1), .int (nI 0)]) (rest := []) S0 hK hg hS hA0 h0 rfl (c_MM_refuse l D cI cR cJ g _ mm q hq (nI t) v3 v4 (nI S.2.1.length) (nI S.2.2.1.length) v14 v16 v17 (nI S.2.2.2.1.length) v23 (nI S.2.2.2.2.1.length) 1 0 (by decide) (by decide) h0) kMM_refuse lm_MM_72 (hR.call rfl) rfl hl.1 rfl (Nat.le_of_ble_eq_true rfl) dMM_merge_36 (hR.new (by decide) (by decide)) (fun r_36 g_26 H locs hp_36 hg hS => ?_)
      obtain ⟨frr, rm_, hp_36⟩ := hp_36
      have rm_ : g_26 mm = some (mmC q (nI 1) v3 v4 (nI S.2.1.length) (nI S.2.2.1.length) v14 v16 v17 (nI S.2.2.2.1.length) v23 (nI S.2.2.2.2.1.length)) := rm_
      have k26_0 := frr.at (h_nm (h_ne hsizes h0 (fun h => by cases h)) h_n0) hsizes
      have k26_1 := frr.at (h_nm (h_ne hlines h0 (fun h => by cases h)) h_n0) hlines
      have k26_2 := frr.at (h_nm (h_ne hleft h0 (fun h => by cases h)) h_n0) hleft
      have k26_3 := frr.at (h_nm (h_ne hright h0 (fun h => by cases h)) h_n0) hright
      have k26_4 := frr.at (h_nm (h_ne hfresh h0 (fun h => by cases h)) h_n0) hfresh
      have k26_5 := frr.at (h_nm (h_ne hnewConflict h0 (fun h => by cases h)) h_n0) hnewConflict
      have k26_6 := frr.at (h_nm (h_ne hconflict h0 (fun h => by cases h)) h_n0) hconflict
      have k26_7 := frr.at (h_nm (h_ne hx h0 (fun h => by cases h)) h_n0) hx
      have k26_8 := frr.at (h_nm (h_ne hy h0 (fun h => by cases h)) h_n0) hy
      have k26_9 := frr.at (h_nm (h_ne hbest h0 (fun h => by cases h)) h_n0) hbest
      have k26_10 := frr.at (h_nm (h_ne hpartner h0 (fun h => by cases h)) h_n0) hpartner
      have fr := fr.call frr (by simp)
      rcases hp_36 with ⟨ho, hr_⟩ | ⟨ho, hr_⟩
      · skip
        subst ho
        refine lv_if_eq (tgt := 44) S0.1 S0.2.1 dMM_merge_39 (by decide) (fun c_39 => ?_) (fun c_39 => ?_)
        · skip
          rw [← nI_0] at c_39
          have c_39 : 1 = 0 := (nI_eq (by omega) (by omega)).mp c_39
          exact absurd c_39 (by decide)
        · skip
          rw [← nI_0] at c_39
          have c_39 : ¬ (1 = 0) := fun h => c_39 ((nI_eq (by omega) (by omega)).mpr h)
          refine lv_iconst (v := nI 0) S0.1 S0.2.1 dMM_merge_42 (by decide) ?_
          have eop : o_merge pa pb pc po S = (1, 0, S) := by unfold o_merge; rw [e_i]
          have hF2 : ∀ i, i < 18 → g_26 (q i) = some (.inl (cI, mSz i, .inl ((fun i => match i with | 0 => F 0 | 1 => F 1 | 11 => F 11 | 12 => F 12 | 10 => F 10 | 14 => F 14 | 13 => F 13 | 2 => F 2 | 3 => F 3 | 4 => F 4 | 5 => F 5 | i => F i) i))) := by
            intro i hi
            match i, hi with
            | 0, _ => exact k26_0
            | 1, _ => exact k26_1
            | 2, _ => exact k26_7
            | 3, _ => exact k26_8
            | 4, _ => exact k26_9
            | 5, _ => exact k26_10
            | 6, _ => exact fr.at (h_nm (h_ne (hF 6 (by decide)) h0 (fun h => by cases h)) (h_nm (qne hq (by decide) (by decide) (by decide)) (h_nm (qne hq (by decide) (by decide) (by decide)) (h_nm (qne hq (by decide) (by decide) (by decide)) (h_nm (qne hq (by decide) (by decide) (by decide)) (h_nm (qne hq (by decide) (by decide) (by decide)) (h_nm (qne hq (by decide) (by decide) (by decide)) (h_nm (qne hq (by decide) (by decide) (by decide)) (h_nm (qne hq (by decide) (by decide) (by decide)) (h_nm (qne hq (by decide) (by decide) (by decide)) (h_nm (qne hq (by decide) (by decide) (by decide)) (h_nm (qne hq (by decide) (by decide) (by decide)) h_n0)))))))))))) (hF 6 (by decide))
            | 7, _ => exact fr.at (h_nm (h_ne (hF 7 (by decide)) h0 (fun h => by cases h)) (h_nm (qne hq (by decide) (by decide) (by decide)) (h_nm (qne hq (by decide) (by decide) (by decide)) (h_nm (qne hq (by decide) (by decide) (by decide)) (h_nm (qne hq (by decide) (by decide) (by decide)) (h_nm (qne hq (by decide) (by decide) (by decide)) (h_nm (qne hq (by decide) (by decide) (by decide)) (h_nm (qne hq (by decide) (by decide) (by decide)) (h_nm (qne hq (by decide) (by decide) (by decide)) (h_nm (qne hq (by decide) (by decide) (by decide)) (h_nm (qne hq (by decide) (by decide) (by decide)) (h_nm (qne hq (by decide) (by decide) (by decide)) h_n0)))))))))))) (hF 7 (by decide))
            | 8, _ => exact fr.at (h_nm (h_ne (hF 8 (by decide)) h0 (fun h => by cases h)) (h_nm (qne hq (by decide) (by decide) (by decide)) (h_nm (qne hq (by decide) (by decide) (by decide)) (h_nm (qne hq (by decide) (by decide) (by decide)) (h_nm (qne hq (by decide) (by decide) (by decide)) (h_nm (qne hq (by decide) (by decide) (by decide)) (h_nm (qne hq (by decide) (by decide) (by decide)) (h_nm (qne hq (by decide) (by decide) (by decide)) (h_nm (qne hq (by decide) (by decide) (by decide)) (h_nm (qne hq (by decide) (by decide) (by decide)) (h_nm (qne hq (by decide) (by decide) (by decide)) (h_nm (qne hq (by decide) (by decide) (by decide)) h_n0)))))))))))) (hF 8 (by decide))
            | 9, _ => exact fr.at (h_nm (h_ne (hF 9 (by decide)) h0 (fun h => by cases h)) (h_nm (qne hq (by decide) (by decide) (by decide)) (h_nm (qne hq (by decide) (by decide) (by decide)) (h_nm (qne hq (by decide) (by decide) (by decide)) (h_nm (qne hq (by decide) (by decide) (by decide)) (h_nm (qne hq (by decide) (by decide) (by decide)) (h_nm (qne hq (by decide) (by decide) (by decide)) (h_nm (qne hq (by decide) (by decide) (by decide)) (h_nm (qne hq (by decide) (by decide) (by decide)) (h_nm (qne hq (by decide) (by decide) (by decide)) (h_nm (qne hq (by decide) (by decide) (by decide)) (h_nm (qne hq (by decide) (by decide) (by decide)) h_n0)))))))))))) (hF 9 (by decide))
            | 10, _ => exact k26_4
            | 11, _ => exact k26_2
            | 12, _ => exact k26_3
            | 13, _ => exact k26_6
            | 14, _ => exact k26_5
            | 15, _ => exact fr.at (h_nm (h_ne (hF 15 (by decide)) h0 (fun h => by cases h)) (h_nm (qne hq (by decide) (by decide) (by decide)) (h_nm (qne hq (by decide) (by decide) (by decide)) (h_nm (qne hq (by decide) (by decide) (by decide)) (h_nm (qne hq (by decide) (by decide) (by decide)) (h_nm (qne hq (by decide) (by decide) (by decide)) (h_nm (qne hq (by decide) (by decide) (by decide)) (h_nm (qne hq (by decide) (by decide) (by decide)) (h_nm (qne hq (by decide) (by decide) (by decide)) (h_nm (qne hq (by decide) (by decide) (by decide)) (h_nm (qne hq (by decide) (by decide) (by decide)) (h_nm (qne hq (by decide) (by decide) (by decide)) h_n0)))))))))))) (hF 15 (by decide))
            | 16, _ => exact fr.at (h_nm (h_ne (hF 16 (by decide)) h0 (fun h => by cases h)) (h_nm (qne hq (by decide) (by decide) (by decide)) (h_nm (qne hq (by decide) (by decide) (by decide)) (h_nm (qne hq (by decide) (by decide) (by decide)) (h_nm (qne hq (by decide) (by decide) (by decide)) (h_nm (qne hq (by decide) (by decide) (by decide)) (h_nm (qne hq (by decide) (by decide) (by decide)) (h_nm (qne hq (by decide) (by decide) (by decide)) (h_nm (qne hq (by decide) (by decide) (by decide)) (h_nm (qne hq (by decide) (by decide) (by decide)) (h_nm (qne hq (by decide) (by decide) (by decide)) (h_nm (qne hq (by decide) (by decide) (by decide)) h_n0)))))))))))) (hF 16 (by decide))
            | 17, _ => exact fr.at (h_nm (h_ne (hF 17 (by decide)) h0 (fun h => by cases h)) (h_nm (qne hq (by decide) (by decide) (by decide)) (h_nm (qne hq (by decide) (by decide) (by decide)) (h_nm (qne hq (by decide) (by decide) (by decide)) (h_nm (qne hq (by decide) (by decide) (by decide)) (h_nm (qne hq (by decide) (by decide) (by decide)) (h_nm (qne hq (by decide) (by decide) (by decide)) (h_nm (qne hq (by decide) (by decide) (by decide)) (h_nm (qne hq (by decide) (by decide) (by decide)) (h_nm (qne hq (by decide) (by decide) (by decide)) (h_nm (qne hq (by decide) (by decide) (by decide)) (h_nm (qne hq (by decide) (by decide) (by decide)) h_n0)))))))))))) (hF 17 (by decide))
            | i + 18, h => omega
          have hrep : repM cI g_26 mm q (o_merge pa pb pc po S).1 (o_merge pa pb pc po S).2.2 := by rw [eop]; exact ⟨hq, hok, v3, v4, v14, v16, v17, v23, (fun i => match i with | 0 => F 0 | 1 => F 1 | 11 => F 11 | 12 => F 12 | 10 => F 10 | 14 => F 14 | 13 => F 13 | 2 => F 2 | 3 => F 3 | 4 => F 4 | 5 => F 5 | i => F i), rm_, hF2, hR_, hA_, hB_, hH_, hC_, hZ_, hV_, hL_⟩
          have fr9 : hfr g g_26 (mS mm q) := fr.mono (by simp)
          exact hend _ _ _ _ _ _ _ _ (by decide) (by decide) rfl (⟨fr9, hrep, fun h9 => by rw [eop] at h9 ⊢; cases h9⟩) hg hS dMM_merge_43
      · skip
        exact absurd hr_ (by decide)
    · skip
      rw [← nI_0] at c_5
      have c_5 : ¬ (0 = 0) := fun h => c_5 ((nI_eq (by omega) (by omega)).mpr h)
      exact absurd c_5 (by decide)
