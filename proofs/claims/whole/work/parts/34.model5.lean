/-! THE REFERENCE, on: common, hunks, commit -/
set_option maxRecDepth 100000 in
set_option maxHeartbeats 4000000 in
theorem c_MM_common (l : Launch) (D : va_G) (cI cR cJ : ClassId) (g : Nat → Option va_E) (sz : Nat) (mm : Nat) (q : Nat → Nat) (t : Nat) (S : ST) (a b : Int32) (HM : repM cI g mm q t S) : hMi l yMM_common cMM_common 4 .int (hRm 3 100 0 0) D (hT cI cR cJ) g sz [.ref mm, .int a, .int b] (fun o g1 => hfr g g1 (mS mm q) ∧ repM cI g1 mm q (o_common a b S).1 (o_common a b S).2.2 ∧ ((o_common a b S).1 = 0 → o = (o_common a b S).2.1)) := by
  refine hMi_of (by decide +kernel) (Nat.le_of_ble_eq_true rfl) ?_
  intro pX eX RX sX mX argsX belowX methX cX QX AX hR S0 hnm hsz hg hK hS hA0 hend ls hl
  have hl : lv_has ls 4 [(0, .ref mm), (1, .int a), (2, .int b)] := hl
  obtain ⟨hq, hok, v3, v4, v14, v16, v17, v23, F, h0, hF, hR_, hA_, hB_, hH_, hC_, hZ_, hV_, hL_⟩ := HM
  have hsizes : g (q 0) = some (.inl (cI, 6, .inl (F 0))) := hF 0 (by decide)
  have hlines : g (q 1) = some (.inl (cI, 360, .inl (F 1))) := hF 1 (by decide)
  have hpairA : g (q 6) = some (.inl (cI, 60, .inl (F 6))) := hF 6 (by decide)
  have hpairB : g (q 7) = some (.inl (cI, 60, .inl (F 7))) := hF 7 (by decide)
  have hx : g (q 2) = some (.inl (cI, 60, .inl (F 2))) := hF 2 (by decide)
  have hy : g (q 3) = some (.inl (cI, 60, .inl (F 3))) := hF 3 (by decide)
  have hbest : g (q 4) = some (.inl (cI, 3721, .inl (F 4))) := hF 4 (by decide)
  have hpartner : g (q 5) = some (.inl (cI, 60, .inl (F 5))) := hF 5 (by decide)
  have fr : hfr g g [mm, q 6, q 7, q 2, q 3, q 4, q 5] := hfr.rf
  refine lv_aload_n S0.1 S0.2.1 dMM_common_0 rfl (lv_at hl 0 rfl) ?_
  refine lv_iload_n S0.1 S0.2.1 dMM_common_1 rfl (lv_at hl 1 rfl) ?_
  refine hw_Si (As := [.int a]) (rest := [.ref mm]) S0 hK hg hS hA0 (c_MM_isRow l D cI cR cJ g _ a) kMM_isRow lm_MM_68 (hR.call rfl) rfl hl.1 rfl (Nat.le_of_ble_eq_true rfl) dMM_common_2 (hR.new (by decide) (by decide)) (fun r_2 g_1 H locs hp_2 hg hS => ?_)
  rw [hp_2.1] at hg
  replace hp_2 := hp_2.2
  rcases hp_2 with hp_2 | hp_2
  · skip
    obtain ⟨ho, i, hk_i, rfl⟩ := hp_2
    subst ho
    have e_i : ix (nI i) 6 = some i := ix_some hk_i (by decide)
    refine lv_if_eq (tgt := 15) S0.1 S0.2.1 dMM_common_5 (by decide) (fun c_5 => ?_) (fun c_5 => ?_)
    · skip
      rw [← nI_0] at c_5
      have c_5 : 1 = 0 := (nI_eq (by omega) (by omega)).mp c_5
      exact absurd c_5 (by decide)
    · skip
      rw [← nI_0] at c_5
      have c_5 : ¬ (1 = 0) := fun h => c_5 ((nI_eq (by omega) (by omega)).mpr h)
      refine lv_iload_n S0.1 S0.2.1 dMM_common_8 rfl (lv_at hl 2 rfl) ?_
      refine hw_Si (As := [.int b]) (rest := [.ref mm]) S0 hK hg hS hA0 (c_MM_isRow l D cI cR cJ g _ b) kMM_isRow lm_MM_68 (hR.call rfl) rfl hl.1 rfl (Nat.le_of_ble_eq_true rfl) dMM_common_9 (hR.new (by decide) (by decide)) (fun r_9 g_2 H locs hp_9 hg hS => ?_)
      rw [hp_9.1] at hg
      replace hp_9 := hp_9.2
      rcases hp_9 with hp_9 | hp_9
      · skip
        obtain ⟨ho, j, hk_j, rfl⟩ := hp_9
        subst ho
        have e_j : ix (nI j) 6 = some j := ix_some hk_j (by decide)
        refine lv_if_ne (tgt := 19) S0.1 S0.2.1 dMM_common_12 (by decide) (fun c_12 => ?_) (fun c_12 => ?_)
        · skip
          rw [← nI_0] at c_12
          have c_12 : ¬ (1 = 0) := fun h => c_12 ((nI_eq (by omega) (by omega)).mpr h)
          refine lv_iconst (v := nI 0) S0.1 S0.2.1 dMM_common_19 (by decide) ?_
          refine lv_iconst (v := nI 0) S0.1 S0.2.1 dMM_common_20 (by decide) ?_
          refine hw_Vi (As := [.int (nI 0), .int (nI 0)]) (rest := []) S0 hK hg hS hA0 h0 rfl (c_MM_refuse l D cI cR cJ g _ mm q hq (nI t) v3 v4 (nI S.2.1.length) (nI S.2.2.1.length) v14 v16 v17 (nI S.2.2.2.1.length) v23 (nI S.2.2.2.2.1.length) 0 0 (by decide) (by decide) h0) kMM_refuse lm_MM_72 (hR.call rfl) rfl hl.1 rfl (Nat.le_of_ble_eq_true rfl) dMM_common_21 (hR.new (by decide) (by decide)) (fun r_21 g_3 H locs hp_21 hg hS => ?_)
          obtain ⟨frr, rm_, hp_21⟩ := hp_21
          have rm_ : g_3 mm = some (mmC q (nI 0) v3 v4 (nI S.2.1.length) (nI S.2.2.1.length) v14 v16 v17 (nI S.2.2.2.1.length) v23 (nI S.2.2.2.2.1.length)) := rm_
          have k3_0 := frr.at (h_nm (h_ne hsizes h0 (fun h => by cases h)) h_n0) hsizes
          have k3_1 := frr.at (h_nm (h_ne hlines h0 (fun h => by cases h)) h_n0) hlines
          have k3_2 := frr.at (h_nm (h_ne hpairA h0 (fun h => by cases h)) h_n0) hpairA
          have k3_3 := frr.at (h_nm (h_ne hpairB h0 (fun h => by cases h)) h_n0) hpairB
          have k3_4 := frr.at (h_nm (h_ne hx h0 (fun h => by cases h)) h_n0) hx
          have k3_5 := frr.at (h_nm (h_ne hy h0 (fun h => by cases h)) h_n0) hy
          have k3_6 := frr.at (h_nm (h_ne hbest h0 (fun h => by cases h)) h_n0) hbest
          have k3_7 := frr.at (h_nm (h_ne hpartner h0 (fun h => by cases h)) h_n0) hpartner
          have fr := fr.call frr (by simp)
          rcases hp_21 with ⟨ho, hr_⟩ | ⟨ho, hr_⟩
          · skip
            exact absurd hr_ (by decide)
          · skip
            subst ho
            refine lv_if_eq (tgt := 29) S0.1 S0.2.1 dMM_common_24 (by decide) (fun c_24 => ?_) (fun c_24 => ?_)
            · skip
              rw [← nI_0] at c_24
              have c_24 : 0 = 0 := (nI_eq (by omega) (by omega)).mp c_24
              refine lv_aload_n S0.1 S0.2.1 dMM_common_29 rfl (lv_at hl 0 rfl) ?_
              refine lv_iload_n S0.1 S0.2.1 dMM_common_30 rfl (lv_at hl 1 rfl) ?_
              refine lv_iload_n S0.1 S0.2.1 dMM_common_31 rfl (lv_at hl 2 rfl) ?_
              refine hw_Vv (As := [.int (nI i), .int (nI j)]) (rest := []) S0 hK hg hS hA0 rm_ rfl (c_MM_rows l D cI cR cJ g_3 _ mm q hq (nI 0) v3 v4 (nI S.2.1.length) (nI S.2.2.1.length) v14 v16 v17 (nI S.2.2.2.1.length) v23 (nI S.2.2.2.2.1.length) i j S.1 (F 0) (F 1) (F 2) (F 3) rm_ k3_0 k3_1 k3_4 k3_5 hR_ hk_i hk_j) kMM_rows lm_MM_89 (hR.call rfl) rfl hl.1 rfl (Nat.le_of_ble_eq_true rfl) dMM_common_32 (hR.new (by decide) (by decide)) (fun g_4 H locs hp_32 hg hS => ?_)
              obtain ⟨frR32, r032, fx32, fy32, r132, r232, ex32, ey32⟩ := hp_32
              have k4_0 := frR32.at (h_nm (h_ne k3_0 rm_ (fun h => by cases h)) (h_nm (qne hq (by decide) (by decide) (by decide)) (h_nm (qne hq (by decide) (by decide) (by decide)) h_n0))) k3_0
              have k4_1 := frR32.at (h_nm (h_ne k3_1 rm_ (fun h => by cases h)) (h_nm (qne hq (by decide) (by decide) (by decide)) (h_nm (qne hq (by decide) (by decide) (by decide)) h_n0))) k3_1
              have k4_2 := frR32.at (h_nm (h_ne k3_2 rm_ (fun h => by cases h)) (h_nm (qne hq (by decide) (by decide) (by decide)) (h_nm (qne hq (by decide) (by decide) (by decide)) h_n0))) k3_2
              have k4_3 := frR32.at (h_nm (h_ne k3_3 rm_ (fun h => by cases h)) (h_nm (qne hq (by decide) (by decide) (by decide)) (h_nm (qne hq (by decide) (by decide) (by decide)) h_n0))) k3_3
              have k4_4 := frR32.at (h_nm (h_ne k3_6 rm_ (fun h => by cases h)) (h_nm (qne hq (by decide) (by decide) (by decide)) (h_nm (qne hq (by decide) (by decide) (by decide)) h_n0))) k3_6
              have k4_5 := frR32.at (h_nm (h_ne k3_7 rm_ (fun h => by cases h)) (h_nm (qne hq (by decide) (by decide) (by decide)) (h_nm (qne hq (by decide) (by decide) (by decide)) h_n0))) k3_7
              have fr := fr.call frR32 (by simp)
              refine lv_aload_n S0.1 S0.2.1 dMM_common_35 rfl (lv_at hl 0 rfl) ?_
              refine hw_Vv (As := []) (rest := []) S0 hK hg hS hA0 r032 rfl (c_MM_compare l D cI cR cJ g_4 _ mm q hq (nI 0) (nI S.2.1.length) (nI S.2.2.1.length) v14 v16 v17 (nI S.2.2.2.1.length) v23 (nI S.2.2.2.2.1.length) (S.1 i) (S.1 j) fx32 fy32 (F 4) (F 5) r032 r132 r232 k4_4 k4_5 ex32 ey32 (hok.1 i hk_i) (hok.1 j hk_j)) kMM_compare lm_MM_93 (hR.call rfl) rfl hl.1 rfl (Nat.le_of_ble_eq_true rfl) dMM_common_36 (hR.new (by decide) (by decide)) (fun g_5 H locs hp_36 hg hS => ?_)
              obtain ⟨frC36, fb36, fp36, p136, p236, pp36⟩ := hp_36
              have k5_0 := frC36.at (h_nm (qne hq (by decide) (by decide) (by decide)) (h_nm (qne hq (by decide) (by decide) (by decide)) h_n0)) k4_0
              have k5_1 := frC36.at (h_nm (qne hq (by decide) (by decide) (by decide)) (h_nm (qne hq (by decide) (by decide) (by decide)) h_n0)) k4_1
              have k5_2 := frC36.at (h_nm (qne hq (by decide) (by decide) (by decide)) (h_nm (qne hq (by decide) (by decide) (by decide)) h_n0)) k4_2
              have k5_3 := frC36.at (h_nm (qne hq (by decide) (by decide) (by decide)) (h_nm (qne hq (by decide) (by decide) (by decide)) h_n0)) k4_3
              have k5_4 := frC36.at (h_nm (h_ne r032 k4_4 (fun h => by cases h)) (h_nm (h_ne r032 k4_5 (fun h => by cases h)) h_n0)) r032
              have k5_5 := frC36.at (h_nm (qne hq (by decide) (by decide) (by decide)) (h_nm (qne hq (by decide) (by decide) (by decide)) h_n0)) r132
              have k5_6 := frC36.at (h_nm (qne hq (by decide) (by decide) (by decide)) (h_nm (qne hq (by decide) (by decide) (by decide)) h_n0)) r232
              have fr := fr.call frC36 (by simp)
              refine lv_aload_n S0.1 S0.2.1 dMM_common_39 rfl (lv_at hl 0 rfl) ?_
              refine lv_iconst (v := nI 0) S0.1 S0.2.1 dMM_common_40 (by decide) ?_
              refine hw_put S0 hK hg hS k5_4 rfl inMM tyMM tokMM nmMM 9 (by decide) lf_MM_96 rfl rfl rfl rfl (Nat.le_of_ble_eq_true rfl) dMM_common_41 (fun H locs hg hS => ?_)
              obtain ⟨g_6, eg_6⟩ : ∃ z, z = hs g_5 mm (mmC q (nI 0) (nI ((S.1 i).length)) (nI ((S.1 j).length)) (nI 0) (nI S.2.2.1.length) v14 v16 v17 (nI S.2.2.2.1.length) v23 (nI S.2.2.2.2.1.length)) := ⟨_, rfl⟩
              have hg : hw D hC AX g_6 H := by rw [eg_6]; exact hg
              have f6_0 : g_6 (q 0) = some (.inl (cI, 6, .inl (F 0))) := by rw [eg_6, hs_n _ _ (h_ne k5_0 k5_4 (fun h => by cases h))]; exact k5_0
              have f6_1 : g_6 (q 1) = some (.inl (cI, 360, .inl (F 1))) := by rw [eg_6, hs_n _ _ (h_ne k5_1 k5_4 (fun h => by cases h))]; exact k5_1
              have f6_2 : g_6 (q 6) = some (.inl (cI, 60, .inl (F 6))) := by rw [eg_6, hs_n _ _ (h_ne k5_2 k5_4 (fun h => by cases h))]; exact k5_2
              have f6_3 : g_6 (q 7) = some (.inl (cI, 60, .inl (F 7))) := by rw [eg_6, hs_n _ _ (h_ne k5_3 k5_4 (fun h => by cases h))]; exact k5_3
              have f6_4 : g_6 (q 2) = some (.inl (cI, 60, .inl fx32)) := by rw [eg_6, hs_n _ _ (h_ne k5_5 k5_4 (fun h => by cases h))]; exact k5_5
              have f6_5 : g_6 (q 3) = some (.inl (cI, 60, .inl fy32)) := by rw [eg_6, hs_n _ _ (h_ne k5_6 k5_4 (fun h => by cases h))]; exact k5_6
              have f6_6 : g_6 (q 4) = some (.inl (cI, 3721, .inl fb36)) := by rw [eg_6, hs_n _ _ (h_ne p136 k5_4 (fun h => by cases h))]; exact p136
              have f6_7 : g_6 (q 5) = some (.inl (cI, 60, .inl fp36)) := by rw [eg_6, hs_n _ _ (h_ne p236 k5_4 (fun h => by cases h))]; exact p236
              have f6_8 : g_6 mm = some (mmC q (nI 0) (nI ((S.1 i).length)) (nI ((S.1 j).length)) (nI 0) (nI S.2.2.1.length) v14 v16 v17 (nI S.2.2.2.1.length) v23 (nI S.2.2.2.2.1.length)) := by rw [eg_6]; exact hs_s _ _ _
              have fr := fr.put eg_6 (by simp)
              refine lv_iconst (v := nI 0) S0.1 S0.2.1 dMM_common_44 (by decide) ?_
              refine lv_istore_n (lv' := [(3, .int (nI 0)), (0, .ref mm), (1, .int (nI i)), (2, .int (nI j))]) S0.1 S0.2.1 dMM_common_45 rfl hl (by decide) rfl (fun ls hl => ?_)
              have hna := hok.1 i hk_i
              have hnb := hok.1 j hk_j
              have loop_46 : ∀ (n_46 : Nat) (x : Nat) (fA : Nat → Int32) (fB : Nat → Int32) (gl : Nat → Option va_E) (H : Heap) (locs : List Loc) (ls : Array Slot), (S.1 i).length - x < n_46 → (x ≤ (S.1 i).length) → (rpN fA ((prs (S.1 i) (S.1 j) x).map Prod.fst)) → (rpN fB ((prs (S.1 i) (S.1 j) x).map Prod.snd)) → (hfr g gl [mm, q 6, q 7, q 2, q 3, q 4, q 5]) → (gl (q 6) = some (.inl (cI, 60, .inl fA))) → (gl (q 7) = some (.inl (cI, 60, .inl fB))) → (gl (q 2) = some (.inl (cI, 60, .inl fx32))) → (gl (q 3) = some (.inl (cI, 60, .inl fy32))) → (gl (q 4) = some (.inl (cI, 3721, .inl fb36))) → (gl (q 5) = some (.inl (cI, 60, .inl fp36))) → (gl mm = some (mmC q (nI 0) (nI ((S.1 i).length)) (nI ((S.1 j).length)) (nI ((prs (S.1 i) (S.1 j) x).length)) (nI S.2.2.1.length) v14 v16 v17 (nI S.2.2.2.1.length) v23 (nI S.2.2.2.2.1.length))) → hw D hC AX gl H → va_S AX sX.heap H locs → lv_has ls 4 [(0, .ref mm), (1, .int (nI i)), (2, .int (nI j)), (3, .int (nI x))] → W pX l eX RX sX mX argsX belowX methX cX H locs 0 0 QX (F0 mX 46 ls []) := by
                intro n_46
                induction n_46 with
                | zero => intros; omega
                | succ n_46 ih_46 =>
                  intro x fA fB gl H locs ls hm_46 hx hA2 hB2 fr l46_q6 l46_q7 l46_q2 l46_q3 l46_q4 l46_q5 l46_mm hg hS hl
                  have q46_q0 := fr.at (h_nm (h_ne f6_0 f6_8 (fun h => by cases h)) (h_nm (qne hq (by decide) (by decide) (by decide)) (h_nm (qne hq (by decide) (by decide) (by decide)) (h_nm (qne hq (by decide) (by decide) (by decide)) (h_nm (qne hq (by decide) (by decide) (by decide)) (h_nm (qne hq (by decide) (by decide) (by decide)) (h_nm (qne hq (by decide) (by decide) (by decide)) h_n0))))))) hsizes
                  have q46_q1 := fr.at (h_nm (h_ne f6_1 f6_8 (fun h => by cases h)) (h_nm (qne hq (by decide) (by decide) (by decide)) (h_nm (qne hq (by decide) (by decide) (by decide)) (h_nm (qne hq (by decide) (by decide) (by decide)) (h_nm (qne hq (by decide) (by decide) (by decide)) (h_nm (qne hq (by decide) (by decide) (by decide)) (h_nm (qne hq (by decide) (by decide) (by decide)) h_n0))))))) hlines
                  refine lv_iload_n S0.1 S0.2.1 dMM_common_46 rfl (lv_at hl 3 rfl) ?_
                  refine lv_aload_n S0.1 S0.2.1 dMM_common_47 rfl (lv_at hl 0 rfl) ?_
                  refine hw_get S0 hK hg l46_mm rfl inMM 3 (by decide) lf_MM_76 rfl rfl dMM_common_48 ?_
                  refine lv_icmp_ge (tgt := 104) S0.1 S0.2.1 dMM_common_51 (by decide) (fun c_51 => ?_) (fun c_51 => ?_)
                  · skip
                    have c_51 : ((S.1 i).length) ≤ x := (nI_leI (by omega) (by omega)).mp c_51
                    have ei : x = (S.1 i).length := by omega
                    have hpl := prs_len (S.1 i) (S.1 j) (S.1 i).length
                    have eprs : (prs (S.1 i) (S.1 j) (S.1 i).length) = (prs (S.1 i) (S.1 j) x) := by rw [ei]
                    have hm9 : gl mm = some (mmC q (nI 0) (nI ((S.1 i).length)) (nI ((S.1 j).length)) (nI ((prs (S.1 i) (S.1 j) (S.1 i).length).length)) (nI S.2.2.1.length) v14 v16 v17 (nI S.2.2.2.1.length) v23 (nI S.2.2.2.2.1.length)) := by rw [eprs]; exact l46_mm
                    rw [ei] at hA2 hB2
                    refine lv_aload_n S0.1 S0.2.1 dMM_common_104 rfl (lv_at hl 0 rfl) ?_
                    refine hw_get S0 hK hg hm9 rfl inMM 9 (by decide) lf_MM_96 rfl rfl dMM_common_105 ?_
                    have eop : o_common (nI i) (nI j) S = (0, nI (prs (S.1 i) (S.1 j) (S.1 i).length).length, (S.1, (prs (S.1 i) (S.1 j) (S.1 i).length), S.2.2)) := by unfold o_common; rw [e_i, e_j]
                    have hF2 : ∀ i, i < 18 → gl (q i) = some (.inl (cI, mSz i, .inl ((fun i => match i with | 6 => fA | 7 => fB | 2 => fx32 | 3 => fy32 | 4 => fb36 | 5 => fp36 | i => F i) i))) := by
                      intro i hi
                      match i, hi with
                      | 0, _ => exact fr.at (h_nm (h_ne (hF 0 (by decide)) h0 (fun h => by cases h)) (h_nm (qne hq (by decide) (by decide) (by decide)) (h_nm (qne hq (by decide) (by decide) (by decide)) (h_nm (qne hq (by decide) (by decide) (by decide)) (h_nm (qne hq (by decide) (by decide) (by decide)) (h_nm (qne hq (by decide) (by decide) (by decide)) (h_nm (qne hq (by decide) (by decide) (by decide)) h_n0))))))) (hF 0 (by decide))
                      | 1, _ => exact fr.at (h_nm (h_ne (hF 1 (by decide)) h0 (fun h => by cases h)) (h_nm (qne hq (by decide) (by decide) (by decide)) (h_nm (qne hq (by decide) (by decide) (by decide)) (h_nm (qne hq (by decide) (by decide) (by decide)) (h_nm (qne hq (by decide) (by decide) (by decide)) (h_nm (qne hq (by decide) (by decide) (by decide)) (h_nm (qne hq (by decide) (by decide) (by decide)) h_n0))))))) (hF 1 (by decide))
                      | 2, _ => exact l46_q2
                      | 3, _ => exact l46_q3
                      | 4, _ => exact l46_q4
                      | 5, _ => exact l46_q5
                      | 6, _ => exact l46_q6
                      | 7, _ => exact l46_q7
                      | 8, _ => exact fr.at (h_nm (h_ne (hF 8 (by decide)) h0 (fun h => by cases h)) (h_nm (qne hq (by decide) (by decide) (by decide)) (h_nm (qne hq (by decide) (by decide) (by decide)) (h_nm (qne hq (by decide) (by decide) (by decide)) (h_nm (qne hq (by decide) (by decide) (by decide)) (h_nm (qne hq (by decide) (by decide) (by decide)) (h_nm (qne hq (by decide) (by decide) (by decide)) h_n0))))))) (hF 8 (by decide))
                      | 9, _ => exact fr.at (h_nm (h_ne (hF 9 (by decide)) h0 (fun h => by cases h)) (h_nm (qne hq (by decide) (by decide) (by decide)) (h_nm (qne hq (by decide) (by decide) (by decide)) (h_nm (qne hq (by decide) (by decide) (by decide)) (h_nm (qne hq (by decide) (by decide) (by decide)) (h_nm (qne hq (by decide) (by decide) (by decide)) (h_nm (qne hq (by decide) (by decide) (by decide)) h_n0))))))) (hF 9 (by decide))
                      | 10, _ => exact fr.at (h_nm (h_ne (hF 10 (by decide)) h0 (fun h => by cases h)) (h_nm (qne hq (by decide) (by decide) (by decide)) (h_nm (qne hq (by decide) (by decide) (by decide)) (h_nm (qne hq (by decide) (by decide) (by decide)) (h_nm (qne hq (by decide) (by decide) (by decide)) (h_nm (qne hq (by decide) (by decide) (by decide)) (h_nm (qne hq (by decide) (by decide) (by decide)) h_n0))))))) (hF 10 (by decide))
                      | 11, _ => exact fr.at (h_nm (h_ne (hF 11 (by decide)) h0 (fun h => by cases h)) (h_nm (qne hq (by decide) (by decide) (by decide)) (h_nm (qne hq (by decide) (by decide) (by decide)) (h_nm (qne hq (by decide) (by decide) (by decide)) (h_nm (qne hq (by decide) (by decide) (by decide)) (h_nm (qne hq (by decide) (by decide) (by decide)) (h_nm (qne hq (by decide) (by decide) (by decide)) h_n0))))))) (hF 11 (by decide))
                      | 12, _ => exact fr.at (h_nm (h_ne (hF 12 (by decide)) h0 (fun h => by cases h)) (h_nm (qne hq (by decide) (by decide) (by decide)) (h_nm (qne hq (by decide) (by decide) (by decide)) (h_nm (qne hq (by decide) (by decide) (by decide)) (h_nm (qne hq (by decide) (by decide) (by decide)) (h_nm (qne hq (by decide) (by decide) (by decide)) (h_nm (qne hq (by decide) (by decide) (by decide)) h_n0))))))) (hF 12 (by decide))
                      | 13, _ => exact fr.at (h_nm (h_ne (hF 13 (by decide)) h0 (fun h => by cases h)) (h_nm (qne hq (by decide) (by decide) (by decide)) (h_nm (qne hq (by decide) (by decide) (by decide)) (h_nm (qne hq (by decide) (by decide) (by decide)) (h_nm (qne hq (by decide) (by decide) (by decide)) (h_nm (qne hq (by decide) (by decide) (by decide)) (h_nm (qne hq (by decide) (by decide) (by decide)) h_n0))))))) (hF 13 (by decide))
                      | 14, _ => exact fr.at (h_nm (h_ne (hF 14 (by decide)) h0 (fun h => by cases h)) (h_nm (qne hq (by decide) (by decide) (by decide)) (h_nm (qne hq (by decide) (by decide) (by decide)) (h_nm (qne hq (by decide) (by decide) (by decide)) (h_nm (qne hq (by decide) (by decide) (by decide)) (h_nm (qne hq (by decide) (by decide) (by decide)) (h_nm (qne hq (by decide) (by decide) (by decide)) h_n0))))))) (hF 14 (by decide))
                      | 15, _ => exact fr.at (h_nm (h_ne (hF 15 (by decide)) h0 (fun h => by cases h)) (h_nm (qne hq (by decide) (by decide) (by decide)) (h_nm (qne hq (by decide) (by decide) (by decide)) (h_nm (qne hq (by decide) (by decide) (by decide)) (h_nm (qne hq (by decide) (by decide) (by decide)) (h_nm (qne hq (by decide) (by decide) (by decide)) (h_nm (qne hq (by decide) (by decide) (by decide)) h_n0))))))) (hF 15 (by decide))
                      | 16, _ => exact fr.at (h_nm (h_ne (hF 16 (by decide)) h0 (fun h => by cases h)) (h_nm (qne hq (by decide) (by decide) (by decide)) (h_nm (qne hq (by decide) (by decide) (by decide)) (h_nm (qne hq (by decide) (by decide) (by decide)) (h_nm (qne hq (by decide) (by decide) (by decide)) (h_nm (qne hq (by decide) (by decide) (by decide)) (h_nm (qne hq (by decide) (by decide) (by decide)) h_n0))))))) (hF 16 (by decide))
                      | 17, _ => exact fr.at (h_nm (h_ne (hF 17 (by decide)) h0 (fun h => by cases h)) (h_nm (qne hq (by decide) (by decide) (by decide)) (h_nm (qne hq (by decide) (by decide) (by decide)) (h_nm (qne hq (by decide) (by decide) (by decide)) (h_nm (qne hq (by decide) (by decide) (by decide)) (h_nm (qne hq (by decide) (by decide) (by decide)) (h_nm (qne hq (by decide) (by decide) (by decide)) h_n0))))))) (hF 17 (by decide))
                      | i + 18, h => omega
                    have hrep : repM cI gl mm q (o_common (nI i) (nI j) S).1 (o_common (nI i) (nI j) S).2.2 := by rw [eop]; exact ⟨hq, (show stok (S.1, (prs (S.1 i) (S.1 j) (S.1 i).length), S.2.2) from ⟨hok.1, show (prs (S.1 i) (S.1 j) (S.1 i).length).length ≤ 60 by omega, hok.2.2⟩), (nI ((S.1 i).length)), (nI ((S.1 j).length)), v14, v16, v17, v23, (fun i => match i with | 6 => fA | 7 => fB | 2 => fx32 | 3 => fy32 | 4 => fb36 | 5 => fp36 | i => F i), hm9, hF2, hR_, hA2, hB2, hH_, hC_, hZ_, hV_, hL_⟩
                    have fr9 : hfr g gl (mS mm q) := fr.mono (by simp)
                    exact hend _ _ _ _ _ _ _ _ (by decide) (by decide) rfl (⟨fr9, hrep, fun h9 => by rw [eop] at h9 ⊢⟩) hg hS dMM_common_108
                  · skip
                    have c_51 : ¬ (((S.1 i).length) ≤ x) := fun h => c_51 ((nI_leI (by omega) (by omega)).mpr h)
                    have hpl := prs_len (S.1 i) (S.1 j) x
                    rcases hpn : pn (S.1 i) (S.1 j) x with _ | jz
                    · skip
                      have eP : fp36 x = -1 := by rw [pp36 x (by omega), hpn]; rfl
                      refine lv_aload_n S0.1 S0.2.1 dMM_common_54 rfl (lv_at hl 0 rfl) ?_
                      refine hw_get S0 hK hg l46_mm rfl inMM 8 (by decide) lf_MM_25 rfl rfl dMM_common_55 ?_
                      refine lv_iload_n S0.1 S0.2.1 dMM_common_58 rfl (lv_at hl 3 rfl) ?_
                      refine hw_iald S0 hK hg l46_q5 0 rfl (by omega) (by omega) dMM_common_59 ?_
                      refine lv_if_lt (tgt := 98) S0.1 S0.2.1 dMM_common_60 (by decide) (fun c_60 => ?_) (fun c_60 => ?_)
                      · skip
                        refine lv_iinc (v := nI (x + 1)) (lv' := [(3, .int (nI (x + 1))), (0, .ref mm), (1, .int (nI i)), (2, .int (nI j))]) S0.1 S0.2.1 dMM_common_98 hl (k := 3) rfl (by exact nI_add _ 1) (by decide) rfl (fun ls hl => ?_)
                        refine lv_goto (tgt := 46) S0.1 S0.2.1 dMM_common_101 (by decide) ?_
                        exact ih_46 (x + 1) fA fB gl _ _ _ (by omega) (by omega) (by rw [prs_none hpn]; exact hA2) (by rw [prs_none hpn]; exact hB2) fr l46_q6 l46_q7 l46_q2 l46_q3 l46_q4 l46_q5 (by rw [prs_none hpn]; exact l46_mm) hg hS (lv_sub hl [1, 2, 3, 0] rfl)
                      · skip
                        exact absurd (by rw [eP]; decide +kernel) c_60
                    · skip
                      have eP : fp36 x = nI jz := by rw [pp36 x (by omega), hpn]; rfl
                      have hsp := stp_spec (show stp (S.1 i) (S.1 j) (fro (S.1 i) (S.1 j) x) x = some jz from hpn)
                      refine lv_aload_n S0.1 S0.2.1 dMM_common_54 rfl (lv_at hl 0 rfl) ?_
                      refine hw_get S0 hK hg l46_mm rfl inMM 8 (by decide) lf_MM_25 rfl rfl dMM_common_55 ?_
                      refine lv_iload_n S0.1 S0.2.1 dMM_common_58 rfl (lv_at hl 3 rfl) ?_
                      refine hw_iald S0 hK hg l46_q5 0 rfl (by omega) (by omega) dMM_common_59 ?_
                      refine hw_top (nI jz) eP ?_
                      refine lv_if_lt (tgt := 98) S0.1 S0.2.1 dMM_common_60 (by decide) (fun c_60 => ?_) (fun c_60 => ?_)
                      · skip
                        rw [← nI_0] at c_60
                        have c_60 : jz < 0 := (nI_ltI (by omega) (by omega)).mp c_60
                        omega
                      · skip
                        rw [← nI_0] at c_60
                        have c_60 : ¬ (jz < 0) := fun h => c_60 ((nI_ltI (by omega) (by omega)).mpr h)
                        refine lv_aload_n S0.1 S0.2.1 dMM_common_63 rfl (lv_at hl 0 rfl) ?_
                        refine hw_get S0 hK hg l46_mm rfl inMM 10 (by decide) lf_MM_28 rfl rfl dMM_common_64 ?_
                        refine lv_aload_n S0.1 S0.2.1 dMM_common_67 rfl (lv_at hl 0 rfl) ?_
                        refine hw_get S0 hK hg l46_mm rfl inMM 9 (by decide) lf_MM_96 rfl rfl dMM_common_68 ?_
                        refine lv_iload_n S0.1 S0.2.1 dMM_common_71 rfl (lv_at hl 3 rfl) ?_
                        refine hw_iast S0 hK hg hS l46_q6 0 rfl (by omega) (by omega) dMM_common_72 (fun H locs hg hS => ?_)
                        obtain ⟨g_7, eg_7⟩ : ∃ z, z = hs gl (q 6) (.inl (cI, 60, .inl (upd fA ((prs (S.1 i) (S.1 j) x).length) (nI x)))) := ⟨_, rfl⟩
                        have hg : hw D hC AX g_7 H := by rw [eg_7]; exact hg
                        have f7_0 : g_7 (q 0) = some (.inl (cI, 6, .inl (F 0))) := by rw [eg_7, hs_n _ _ (qne hq (by decide) (by decide) (by decide))]; exact q46_q0
                        have f7_1 : g_7 (q 1) = some (.inl (cI, 360, .inl (F 1))) := by rw [eg_7, hs_n _ _ (qne hq (by decide) (by decide) (by decide))]; exact q46_q1
                        have f7_2 : g_7 (q 7) = some (.inl (cI, 60, .inl fB)) := by rw [eg_7, hs_n _ _ (qne hq (by decide) (by decide) (by decide))]; exact l46_q7
                        have f7_3 : g_7 (q 2) = some (.inl (cI, 60, .inl fx32)) := by rw [eg_7, hs_n _ _ (qne hq (by decide) (by decide) (by decide))]; exact l46_q2
                        have f7_4 : g_7 (q 3) = some (.inl (cI, 60, .inl fy32)) := by rw [eg_7, hs_n _ _ (qne hq (by decide) (by decide) (by decide))]; exact l46_q3
                        have f7_5 : g_7 (q 4) = some (.inl (cI, 3721, .inl fb36)) := by rw [eg_7, hs_n _ _ (qne hq (by decide) (by decide) (by decide))]; exact l46_q4
                        have f7_6 : g_7 (q 5) = some (.inl (cI, 60, .inl fp36)) := by rw [eg_7, hs_n _ _ (qne hq (by decide) (by decide) (by decide))]; exact l46_q5
                        have f7_7 : g_7 mm = some (mmC q (nI 0) (nI ((S.1 i).length)) (nI ((S.1 j).length)) (nI ((prs (S.1 i) (S.1 j) x).length)) (nI S.2.2.1.length) v14 v16 v17 (nI S.2.2.2.1.length) v23 (nI S.2.2.2.2.1.length)) := by rw [eg_7, hs_n _ _ (h_ne l46_mm l46_q6 (fun h => by cases h))]; exact l46_mm
                        have f7_8 : g_7 (q 6) = some (.inl (cI, 60, .inl (upd fA ((prs (S.1 i) (S.1 j) x).length) (nI x)))) := by rw [eg_7]; exact hs_s _ _ _
                        have fr := fr.put eg_7 (by simp)
                        refine lv_aload_n S0.1 S0.2.1 dMM_common_73 rfl (lv_at hl 0 rfl) ?_
                        refine hw_get S0 hK hg f7_7 rfl inMM 11 (by decide) lf_MM_31 rfl rfl dMM_common_74 ?_
                        refine lv_aload_n S0.1 S0.2.1 dMM_common_77 rfl (lv_at hl 0 rfl) ?_
                        refine hw_get S0 hK hg f7_7 rfl inMM 9 (by decide) lf_MM_96 rfl rfl dMM_common_78 ?_
                        refine lv_aload_n S0.1 S0.2.1 dMM_common_81 rfl (lv_at hl 0 rfl) ?_
                        refine hw_get S0 hK hg f7_7 rfl inMM 8 (by decide) lf_MM_25 rfl rfl dMM_common_82 ?_
                        refine lv_iload_n S0.1 S0.2.1 dMM_common_85 rfl (lv_at hl 3 rfl) ?_
                        refine hw_iald S0 hK hg f7_6 0 rfl (by omega) (by omega) dMM_common_86 ?_
                        refine hw_top (nI jz) eP ?_
                        refine hw_iast S0 hK hg hS f7_2 0 rfl (by omega) (by omega) dMM_common_87 (fun H locs hg hS => ?_)
                        obtain ⟨g_8, eg_8⟩ : ∃ z, z = hs g_7 (q 7) (.inl (cI, 60, .inl (upd fB ((prs (S.1 i) (S.1 j) x).length) (nI jz)))) := ⟨_, rfl⟩
                        have hg : hw D hC AX g_8 H := by rw [eg_8]; exact hg
                        have f8_0 : g_8 (q 0) = some (.inl (cI, 6, .inl (F 0))) := by rw [eg_8, hs_n _ _ (qne hq (by decide) (by decide) (by decide))]; exact f7_0
                        have f8_1 : g_8 (q 1) = some (.inl (cI, 360, .inl (F 1))) := by rw [eg_8, hs_n _ _ (qne hq (by decide) (by decide) (by decide))]; exact f7_1
                        have f8_2 : g_8 (q 2) = some (.inl (cI, 60, .inl fx32)) := by rw [eg_8, hs_n _ _ (qne hq (by decide) (by decide) (by decide))]; exact f7_3
                        have f8_3 : g_8 (q 3) = some (.inl (cI, 60, .inl fy32)) := by rw [eg_8, hs_n _ _ (qne hq (by decide) (by decide) (by decide))]; exact f7_4
                        have f8_4 : g_8 (q 4) = some (.inl (cI, 3721, .inl fb36)) := by rw [eg_8, hs_n _ _ (qne hq (by decide) (by decide) (by decide))]; exact f7_5
                        have f8_5 : g_8 (q 5) = some (.inl (cI, 60, .inl fp36)) := by rw [eg_8, hs_n _ _ (qne hq (by decide) (by decide) (by decide))]; exact f7_6
                        have f8_6 : g_8 mm = some (mmC q (nI 0) (nI ((S.1 i).length)) (nI ((S.1 j).length)) (nI ((prs (S.1 i) (S.1 j) x).length)) (nI S.2.2.1.length) v14 v16 v17 (nI S.2.2.2.1.length) v23 (nI S.2.2.2.2.1.length)) := by rw [eg_8, hs_n _ _ (h_ne f7_7 f7_2 (fun h => by cases h))]; exact f7_7
                        have f8_7 : g_8 (q 6) = some (.inl (cI, 60, .inl (upd fA ((prs (S.1 i) (S.1 j) x).length) (nI x)))) := by rw [eg_8, hs_n _ _ (qne hq (by decide) (by decide) (by decide))]; exact f7_8
                        have f8_8 : g_8 (q 7) = some (.inl (cI, 60, .inl (upd fB ((prs (S.1 i) (S.1 j) x).length) (nI jz)))) := by rw [eg_8]; exact hs_s _ _ _
                        have fr := fr.put eg_8 (by simp)
                        refine lv_aload_n S0.1 S0.2.1 dMM_common_88 rfl (lv_at hl 0 rfl) ?_
                        refine lv_dup S0.1 S0.2.1 dMM_common_89 rfl ?_
                        refine hw_get S0 hK hg f8_6 rfl inMM 9 (by decide) lf_MM_96 rfl rfl dMM_common_90 ?_
                        refine lv_iconst (v := nI 1) S0.1 S0.2.1 dMM_common_93 (by decide) ?_
                        refine lv_iadd S0.1 S0.2.1 dMM_common_94 ?_
                        refine hw_top (nI (((prs (S.1 i) (S.1 j) x).length) + 1)) (nI_add _ _) ?_
                        refine hw_put S0 hK hg hS f8_6 rfl inMM tyMM tokMM nmMM 9 (by decide) lf_MM_96 rfl rfl rfl rfl (Nat.le_of_ble_eq_true rfl) dMM_common_95 (fun H locs hg hS => ?_)
                        obtain ⟨g_9, eg_9⟩ : ∃ z, z = hs g_8 mm (mmC q (nI 0) (nI ((S.1 i).length)) (nI ((S.1 j).length)) (nI (((prs (S.1 i) (S.1 j) x).length) + 1)) (nI S.2.2.1.length) v14 v16 v17 (nI S.2.2.2.1.length) v23 (nI S.2.2.2.2.1.length)) := ⟨_, rfl⟩
                        have hg : hw D hC AX g_9 H := by rw [eg_9]; exact hg
                        have f9_0 : g_9 (q 0) = some (.inl (cI, 6, .inl (F 0))) := by rw [eg_9, hs_n _ _ (h_ne f8_0 f8_6 (fun h => by cases h))]; exact f8_0
                        have f9_1 : g_9 (q 1) = some (.inl (cI, 360, .inl (F 1))) := by rw [eg_9, hs_n _ _ (h_ne f8_1 f8_6 (fun h => by cases h))]; exact f8_1
                        have f9_2 : g_9 (q 2) = some (.inl (cI, 60, .inl fx32)) := by rw [eg_9, hs_n _ _ (h_ne f8_2 f8_6 (fun h => by cases h))]; exact f8_2
                        have f9_3 : g_9 (q 3) = some (.inl (cI, 60, .inl fy32)) := by rw [eg_9, hs_n _ _ (h_ne f8_3 f8_6 (fun h => by cases h))]; exact f8_3
                        have f9_4 : g_9 (q 4) = some (.inl (cI, 3721, .inl fb36)) := by rw [eg_9, hs_n _ _ (h_ne f8_4 f8_6 (fun h => by cases h))]; exact f8_4
                        have f9_5 : g_9 (q 5) = some (.inl (cI, 60, .inl fp36)) := by rw [eg_9, hs_n _ _ (h_ne f8_5 f8_6 (fun h => by cases h))]; exact f8_5
                        have f9_6 : g_9 (q 6) = some (.inl (cI, 60, .inl (upd fA ((prs (S.1 i) (S.1 j) x).length) (nI x)))) := by rw [eg_9, hs_n _ _ (h_ne f8_7 f8_6 (fun h => by cases h))]; exact f8_7
                        have f9_7 : g_9 (q 7) = some (.inl (cI, 60, .inl (upd fB ((prs (S.1 i) (S.1 j) x).length) (nI jz)))) := by rw [eg_9, hs_n _ _ (h_ne f8_8 f8_6 (fun h => by cases h))]; exact f8_8
                        have f9_8 : g_9 mm = some (mmC q (nI 0) (nI ((S.1 i).length)) (nI ((S.1 j).length)) (nI (((prs (S.1 i) (S.1 j) x).length) + 1)) (nI S.2.2.1.length) v14 v16 v17 (nI S.2.2.2.1.length) v23 (nI S.2.2.2.2.1.length)) := by rw [eg_9]; exact hs_s _ _ _
                        have fr := fr.put eg_9 (by simp)
                        refine lv_iinc (v := nI (x + 1)) (lv' := [(3, .int (nI (x + 1))), (0, .ref mm), (1, .int (nI i)), (2, .int (nI j))]) S0.1 S0.2.1 dMM_common_98 hl (k := 3) rfl (by exact nI_add _ 1) (by decide) rfl (fun ls hl => ?_)
                        refine lv_goto (tgt := 46) S0.1 S0.2.1 dMM_common_101 (by decide) ?_
                        exact ih_46 (x + 1) (upd fA ((prs (S.1 i) (S.1 j) x).length) (nI x)) (upd fB ((prs (S.1 i) (S.1 j) x).length) (nI jz)) g_9 _ _ _ (by omega) (by omega) (by rw [prs_some hpn, List.map_append]; have h8 := rpN_snoc hA2 x; rw [List.length_map] at h8; exact h8) (by rw [prs_some hpn, List.map_append]; have h8 := rpN_snoc hB2 jz; rw [List.length_map] at h8; exact h8) fr f9_6 f9_7 f9_2 f9_3 f9_4 f9_5 (by rw [prs_some hpn, List.length_append]; exact f9_8) hg hS (lv_sub hl [1, 2, 3, 0] rfl)
              exact loop_46 _ 0 (F 6) (F 7) g_6 _ _ _ (Nat.lt_succ_self _) (Nat.zero_le _) (rpN_nil _) (rpN_nil _) fr f6_2 f6_3 f6_4 f6_5 f6_6 f6_7 f6_8 hg hS (lv_sub hl [1, 2, 3, 0] rfl)
            · skip
              rw [← nI_0] at c_24
              have c_24 : ¬ (0 = 0) := fun h => c_24 ((nI_eq (by omega) (by omega)).mpr h)
              exact absurd c_24 (by decide)
        · skip
          rw [← nI_0] at c_12
          have c_12 : 1 = 0 := (nI_eq (by omega) (by omega)).mp c_12
          exact absurd c_12 (by decide)
      · skip
        obtain ⟨ho, hn_j⟩ := hp_9
        subst ho
        have e_j : ix b 6 = none := ix_none hn_j
        refine lv_if_ne (tgt := 19) S0.1 S0.2.1 dMM_common_12 (by decide) (fun c_12 => ?_) (fun c_12 => ?_)
        · skip
          rw [← nI_0] at c_12
          have c_12 : ¬ (0 = 0) := fun h => c_12 ((nI_eq (by omega) (by omega)).mpr h)
          exact absurd c_12 (by decide)
        · skip
          rw [← nI_0] at c_12
          have c_12 : 0 = 0 := (nI_eq (by omega) (by omega)).mp c_12
          refine lv_iconst (v := nI 1) S0.1 S0.2.1 dMM_common_15 (by decide) ?_
          refine lv_goto (tgt := 20) S0.1 S0.2.1 dMM_common_16 (by decide) ?_
          refine lv_iconst (v := nI 0) S0.1 S0.2.1 dMM_common_20 (by decide) ?_
          refine hw_Vi (As := [.int (nI 1), .int (nI 0)]) (rest := []) S0 hK hg hS hA0 h0 rfl (c_MM_refuse l D cI cR cJ g _ mm q hq (nI t) v3 v4 (nI S.2.1.length) (nI S.2.2.1.length) v14 v16 v17 (nI S.2.2.2.1.length) v23 (nI S.2.2.2.2.1.length) 1 0 (by decide) (by decide) h0) kMM_refuse lm_MM_72 (hR.call rfl) rfl hl.1 rfl (Nat.le_of_ble_eq_true rfl) dMM_common_21 (hR.new (by decide) (by decide)) (fun r_21 g_10 H locs hp_21 hg hS => ?_)
          obtain ⟨frr, rm_, hp_21⟩ := hp_21
          have rm_ : g_10 mm = some (mmC q (nI 1) v3 v4 (nI S.2.1.length) (nI S.2.2.1.length) v14 v16 v17 (nI S.2.2.2.1.length) v23 (nI S.2.2.2.2.1.length)) := rm_
          have k10_0 := frr.at (h_nm (h_ne hsizes h0 (fun h => by cases h)) h_n0) hsizes
          have k10_1 := frr.at (h_nm (h_ne hlines h0 (fun h => by cases h)) h_n0) hlines
          have k10_2 := frr.at (h_nm (h_ne hpairA h0 (fun h => by cases h)) h_n0) hpairA
          have k10_3 := frr.at (h_nm (h_ne hpairB h0 (fun h => by cases h)) h_n0) hpairB
          have k10_4 := frr.at (h_nm (h_ne hx h0 (fun h => by cases h)) h_n0) hx
          have k10_5 := frr.at (h_nm (h_ne hy h0 (fun h => by cases h)) h_n0) hy
          have k10_6 := frr.at (h_nm (h_ne hbest h0 (fun h => by cases h)) h_n0) hbest
          have k10_7 := frr.at (h_nm (h_ne hpartner h0 (fun h => by cases h)) h_n0) hpartner
          have fr := fr.call frr (by simp)
          rcases hp_21 with ⟨ho, hr_⟩ | ⟨ho, hr_⟩
          · skip
            subst ho
            refine lv_if_eq (tgt := 29) S0.1 S0.2.1 dMM_common_24 (by decide) (fun c_24 => ?_) (fun c_24 => ?_)
            · skip
              rw [← nI_0] at c_24
              have c_24 : 1 = 0 := (nI_eq (by omega) (by omega)).mp c_24
              exact absurd c_24 (by decide)
            · skip
              rw [← nI_0] at c_24
              have c_24 : ¬ (1 = 0) := fun h => c_24 ((nI_eq (by omega) (by omega)).mpr h)
              refine lv_iconst (v := nI 0) S0.1 S0.2.1 dMM_common_27 (by decide) ?_
              have eop : o_common (nI i) b S = (1, 0, S) := by unfold o_common; rw [e_i, e_j]
              have hF2 : ∀ i, i < 18 → g_10 (q i) = some (.inl (cI, mSz i, .inl ((fun i => match i with | 6 => F 6 | 7 => F 7 | 2 => F 2 | 3 => F 3 | 4 => F 4 | 5 => F 5 | i => F i) i))) := by
                intro i hi
                match i, hi with
                | 0, _ => exact fr.at (h_nm (h_ne (hF 0 (by decide)) h0 (fun h => by cases h)) (h_nm (qne hq (by decide) (by decide) (by decide)) (h_nm (qne hq (by decide) (by decide) (by decide)) (h_nm (qne hq (by decide) (by decide) (by decide)) (h_nm (qne hq (by decide) (by decide) (by decide)) (h_nm (qne hq (by decide) (by decide) (by decide)) (h_nm (qne hq (by decide) (by decide) (by decide)) h_n0))))))) (hF 0 (by decide))
                | 1, _ => exact fr.at (h_nm (h_ne (hF 1 (by decide)) h0 (fun h => by cases h)) (h_nm (qne hq (by decide) (by decide) (by decide)) (h_nm (qne hq (by decide) (by decide) (by decide)) (h_nm (qne hq (by decide) (by decide) (by decide)) (h_nm (qne hq (by decide) (by decide) (by decide)) (h_nm (qne hq (by decide) (by decide) (by decide)) (h_nm (qne hq (by decide) (by decide) (by decide)) h_n0))))))) (hF 1 (by decide))
                | 2, _ => exact k10_4
                | 3, _ => exact k10_5
                | 4, _ => exact k10_6
                | 5, _ => exact k10_7
                | 6, _ => exact k10_2
                | 7, _ => exact k10_3
                | 8, _ => exact fr.at (h_nm (h_ne (hF 8 (by decide)) h0 (fun h => by cases h)) (h_nm (qne hq (by decide) (by decide) (by decide)) (h_nm (qne hq (by decide) (by decide) (by decide)) (h_nm (qne hq (by decide) (by decide) (by decide)) (h_nm (qne hq (by decide) (by decide) (by decide)) (h_nm (qne hq (by decide) (by decide) (by decide)) (h_nm (qne hq (by decide) (by decide) (by decide)) h_n0))))))) (hF 8 (by decide))
                | 9, _ => exact fr.at (h_nm (h_ne (hF 9 (by decide)) h0 (fun h => by cases h)) (h_nm (qne hq (by decide) (by decide) (by decide)) (h_nm (qne hq (by decide) (by decide) (by decide)) (h_nm (qne hq (by decide) (by decide) (by decide)) (h_nm (qne hq (by decide) (by decide) (by decide)) (h_nm (qne hq (by decide) (by decide) (by decide)) (h_nm (qne hq (by decide) (by decide) (by decide)) h_n0))))))) (hF 9 (by decide))
                | 10, _ => exact fr.at (h_nm (h_ne (hF 10 (by decide)) h0 (fun h => by cases h)) (h_nm (qne hq (by decide) (by decide) (by decide)) (h_nm (qne hq (by decide) (by decide) (by decide)) (h_nm (qne hq (by decide) (by decide) (by decide)) (h_nm (qne hq (by decide) (by decide) (by decide)) (h_nm (qne hq (by decide) (by decide) (by decide)) (h_nm (qne hq (by decide) (by decide) (by decide)) h_n0))))))) (hF 10 (by decide))
                | 11, _ => exact fr.at (h_nm (h_ne (hF 11 (by decide)) h0 (fun h => by cases h)) (h_nm (qne hq (by decide) (by decide) (by decide)) (h_nm (qne hq (by decide) (by decide) (by decide)) (h_nm (qne hq (by decide) (by decide) (by decide)) (h_nm (qne hq (by decide) (by decide) (by decide)) (h_nm (qne hq (by decide) (by decide) (by decide)) (h_nm (qne hq (by decide) (by decide) (by decide)) h_n0))))))) (hF 11 (by decide))
                | 12, _ => exact fr.at (h_nm (h_ne (hF 12 (by decide)) h0 (fun h => by cases h)) (h_nm (qne hq (by decide) (by decide) (by decide)) (h_nm (qne hq (by decide) (by decide) (by decide)) (h_nm (qne hq (by decide) (by decide) (by decide)) (h_nm (qne hq (by decide) (by decide) (by decide)) (h_nm (qne hq (by decide) (by decide) (by decide)) (h_nm (qne hq (by decide) (by decide) (by decide)) h_n0))))))) (hF 12 (by decide))
                | 13, _ => exact fr.at (h_nm (h_ne (hF 13 (by decide)) h0 (fun h => by cases h)) (h_nm (qne hq (by decide) (by decide) (by decide)) (h_nm (qne hq (by decide) (by decide) (by decide)) (h_nm (qne hq (by decide) (by decide) (by decide)) (h_nm (qne hq (by decide) (by decide) (by decide)) (h_nm (qne hq (by decide) (by decide) (by decide)) (h_nm (qne hq (by decide) (by decide) (by decide)) h_n0))))))) (hF 13 (by decide))
                | 14, _ => exact fr.at (h_nm (h_ne (hF 14 (by decide)) h0 (fun h => by cases h)) (h_nm (qne hq (by decide) (by decide) (by decide)) (h_nm (qne hq (by decide) (by decide) (by decide)) (h_nm (qne hq (by decide) (by decide) (by decide)) (h_nm (qne hq (by decide) (by decide) (by decide)) (h_nm (qne hq (by decide) (by decide) (by decide)) (h_nm (qne hq (by decide) (by decide) (by decide)) h_n0))))))) (hF 14 (by decide))
                | 15, _ => exact fr.at (h_nm (h_ne (hF 15 (by decide)) h0 (fun h => by cases h)) (h_nm (qne hq (by decide) (by decide) (by decide)) (h_nm (qne hq (by decide) (by decide) (by decide)) (h_nm (qne hq (by decide) (by decide) (by decide)) (h_nm (qne hq (by decide) (by decide) (by decide)) (h_nm (qne hq (by decide) (by decide) (by decide)) (h_nm (qne hq (by decide) (by decide) (by decide)) h_n0))))))) (hF 15 (by decide))
                | 16, _ => exact fr.at (h_nm (h_ne (hF 16 (by decide)) h0 (fun h => by cases h)) (h_nm (qne hq (by decide) (by decide) (by decide)) (h_nm (qne hq (by decide) (by decide) (by decide)) (h_nm (qne hq (by decide) (by decide) (by decide)) (h_nm (qne hq (by decide) (by decide) (by decide)) (h_nm (qne hq (by decide) (by decide) (by decide)) (h_nm (qne hq (by decide) (by decide) (by decide)) h_n0))))))) (hF 16 (by decide))
                | 17, _ => exact fr.at (h_nm (h_ne (hF 17 (by decide)) h0 (fun h => by cases h)) (h_nm (qne hq (by decide) (by decide) (by decide)) (h_nm (qne hq (by decide) (by decide) (by decide)) (h_nm (qne hq (by decide) (by decide) (by decide)) (h_nm (qne hq (by decide) (by decide) (by decide)) (h_nm (qne hq (by decide) (by decide) (by decide)) (h_nm (qne hq (by decide) (by decide) (by decide)) h_n0))))))) (hF 17 (by decide))
                | i + 18, h => omega
              have hrep : repM cI g_10 mm q (o_common (nI i) b S).1 (o_common (nI i) b S).2.2 := by rw [eop]; exact ⟨hq, hok, v3, v4, v14, v16, v17, v23, (fun i => match i with | 6 => F 6 | 7 => F 7 | 2 => F 2 | 3 => F 3 | 4 => F 4 | 5 => F 5 | i => F i), rm_, hF2, hR_, hA_, hB_, hH_, hC_, hZ_, hV_, hL_⟩
              have fr9 : hfr g g_10 (mS mm q) := fr.mono (by simp)
              exact hend _ _ _ _ _ _ _ _ (by decide) (by decide) rfl (⟨fr9, hrep, fun h9 => by rw [eop] at h9 ⊢; cases h9⟩) hg hS dMM_common_28
          · skip
            exact absurd hr_ (by decide)
  · skip
    obtain ⟨ho, hn_i⟩ := hp_2
    subst ho
    have e_i : ix a 6 = none := ix_none hn_i
    refine lv_if_eq (tgt := 15) S0.1 S0.2.1 dMM_common_5 (by decide) (fun c_5 => ?_) (fun c_5 => ?_)
    · skip
      rw [← nI_0] at c_5
      have c_5 : 0 = 0 := (nI_eq (by omega) (by omega)).mp c_5
      refine lv_iconst (v := nI 1) S0.1 S0.2.1 dMM_common_15 (by decide) ?_
      refine lv_goto (tgt := 20) S0.1 S0.2.1 dMM_common_16 (by decide) ?_
      refine lv_iconst (v := nI 0) S0.1 S0.2.1 dMM_common_20 (by decide) ?_
      refine hw_Vi (As := [.int (nI 1), .int (nI 0)]) (rest := []) S0 hK hg hS hA0 h0 rfl (c_MM_refuse l D cI cR cJ g _ mm q hq (nI t) v3 v4 (nI S.2.1.length) (nI S.2.2.1.length) v14 v16 v17 (nI S.2.2.2.1.length) v23 (nI S.2.2.2.2.1.length) 1 0 (by decide) (by decide) h0) kMM_refuse lm_MM_72 (hR.call rfl) rfl hl.1 rfl (Nat.le_of_ble_eq_true rfl) dMM_common_21 (hR.new (by decide) (by decide)) (fun r_21 g_11 H locs hp_21 hg hS => ?_)
      obtain ⟨frr, rm_, hp_21⟩ := hp_21
      have rm_ : g_11 mm = some (mmC q (nI 1) v3 v4 (nI S.2.1.length) (nI S.2.2.1.length) v14 v16 v17 (nI S.2.2.2.1.length) v23 (nI S.2.2.2.2.1.length)) := rm_
      have k11_0 := frr.at (h_nm (h_ne hsizes h0 (fun h => by cases h)) h_n0) hsizes
      have k11_1 := frr.at (h_nm (h_ne hlines h0 (fun h => by cases h)) h_n0) hlines
      have k11_2 := frr.at (h_nm (h_ne hpairA h0 (fun h => by cases h)) h_n0) hpairA
      have k11_3 := frr.at (h_nm (h_ne hpairB h0 (fun h => by cases h)) h_n0) hpairB
      have k11_4 := frr.at (h_nm (h_ne hx h0 (fun h => by cases h)) h_n0) hx
      have k11_5 := frr.at (h_nm (h_ne hy h0 (fun h => by cases h)) h_n0) hy
      have k11_6 := frr.at (h_nm (h_ne hbest h0 (fun h => by cases h)) h_n0) hbest
      have k11_7 := frr.at (h_nm (h_ne hpartner h0 (fun h => by cases h)) h_n0) hpartner
      have fr := fr.call frr (by simp)
      rcases hp_21 with ⟨ho, hr_⟩ | ⟨ho, hr_⟩
      · skip
        subst ho
        refine lv_if_eq (tgt := 29) S0.1 S0.2.1 dMM_common_24 (by decide) (fun c_24 => ?_) (fun c_24 => ?_)
        · skip
          rw [← nI_0] at c_24
          have c_24 : 1 = 0 := (nI_eq (by omega) (by omega)).mp c_24
          exact absurd c_24 (by decide)
        · skip
          rw [← nI_0] at c_24
          have c_24 : ¬ (1 = 0) := fun h => c_24 ((nI_eq (by omega) (by omega)).mpr h)
          refine lv_iconst (v := nI 0) S0.1 S0.2.1 dMM_common_27 (by decide) ?_
          have eop : o_common a b S = (1, 0, S) := by unfold o_common; rw [e_i]
          have hF2 : ∀ i, i < 18 → g_11 (q i) = some (.inl (cI, mSz i, .inl ((fun i => match i with | 6 => F 6 | 7 => F 7 | 2 => F 2 | 3 => F 3 | 4 => F 4 | 5 => F 5 | i => F i) i))) := by
            intro i hi
            match i, hi with
            | 0, _ => exact fr.at (h_nm (h_ne (hF 0 (by decide)) h0 (fun h => by cases h)) (h_nm (qne hq (by decide) (by decide) (by decide)) (h_nm (qne hq (by decide) (by decide) (by decide)) (h_nm (qne hq (by decide) (by decide) (by decide)) (h_nm (qne hq (by decide) (by decide) (by decide)) (h_nm (qne hq (by decide) (by decide) (by decide)) (h_nm (qne hq (by decide) (by decide) (by decide)) h_n0))))))) (hF 0 (by decide))
            | 1, _ => exact fr.at (h_nm (h_ne (hF 1 (by decide)) h0 (fun h => by cases h)) (h_nm (qne hq (by decide) (by decide) (by decide)) (h_nm (qne hq (by decide) (by decide) (by decide)) (h_nm (qne hq (by decide) (by decide) (by decide)) (h_nm (qne hq (by decide) (by decide) (by decide)) (h_nm (qne hq (by decide) (by decide) (by decide)) (h_nm (qne hq (by decide) (by decide) (by decide)) h_n0))))))) (hF 1 (by decide))
            | 2, _ => exact k11_4
            | 3, _ => exact k11_5
            | 4, _ => exact k11_6
            | 5, _ => exact k11_7
            | 6, _ => exact k11_2
            | 7, _ => exact k11_3
            | 8, _ => exact fr.at (h_nm (h_ne (hF 8 (by decide)) h0 (fun h => by cases h)) (h_nm (qne hq (by decide) (by decide) (by decide)) (h_nm (qne hq (by decide) (by decide) (by decide)) (h_nm (qne hq (by decide) (by decide) (by decide)) (h_nm (qne hq (by decide) (by decide) (by decide)) (h_nm (qne hq (by decide) (by decide) (by decide)) (h_nm (qne hq (by decide) (by decide) (by decide)) h_n0))))))) (hF 8 (by decide))
            | 9, _ => exact fr.at (h_nm (h_ne (hF 9 (by decide)) h0 (fun h => by cases h)) (h_nm (qne hq (by decide) (by decide) (by decide)) (h_nm (qne hq (by decide) (by decide) (by decide)) (h_nm (qne hq (by decide) (by decide) (by decide)) (h_nm (qne hq (by decide) (by decide) (by decide)) (h_nm (qne hq (by decide) (by decide) (by decide)) (h_nm (qne hq (by decide) (by decide) (by decide)) h_n0))))))) (hF 9 (by decide))
            | 10, _ => exact fr.at (h_nm (h_ne (hF 10 (by decide)) h0 (fun h => by cases h)) (h_nm (qne hq (by decide) (by decide) (by decide)) (h_nm (qne hq (by decide) (by decide) (by decide)) (h_nm (qne hq (by decide) (by decide) (by decide)) (h_nm (qne hq (by decide) (by decide) (by decide)) (h_nm (qne hq (by decide) (by decide) (by decide)) (h_nm (qne hq (by decide) (by decide) (by decide)) h_n0))))))) (hF 10 (by decide))
            | 11, _ => exact fr.at (h_nm (h_ne (hF 11 (by decide)) h0 (fun h => by cases h)) (h_nm (qne hq (by decide) (by decide) (by decide)) (h_nm (qne hq (by decide) (by decide) (by decide)) (h_nm (qne hq (by decide) (by decide) (by decide)) (h_nm (qne hq (by decide) (by decide) (by decide)) (h_nm (qne hq (by decide) (by decide) (by decide)) (h_nm (qne hq (by decide) (by decide) (by decide)) h_n0))))))) (hF 11 (by decide))
            | 12, _ => exact fr.at (h_nm (h_ne (hF 12 (by decide)) h0 (fun h => by cases h)) (h_nm (qne hq (by decide) (by decide) (by decide)) (h_nm (qne hq (by decide) (by decide) (by decide)) (h_nm (qne hq (by decide) (by decide) (by decide)) (h_nm (qne hq (by decide) (by decide) (by decide)) (h_nm (qne hq (by decide) (by decide) (by decide)) (h_nm (qne hq (by decide) (by decide) (by decide)) h_n0))))))) (hF 12 (by decide))
            | 13, _ => exact fr.at (h_nm (h_ne (hF 13 (by decide)) h0 (fun h => by cases h)) (h_nm (qne hq (by decide) (by decide) (by decide)) (h_nm (qne hq (by decide) (by decide) (by decide)) (h_nm (qne hq (by decide) (by decide) (by decide)) (h_nm (qne hq (by decide) (by decide) (by decide)) (h_nm (qne hq (by decide) (by decide) (by decide)) (h_nm (qne hq (by decide) (by decide) (by decide)) h_n0))))))) (hF 13 (by decide))
            | 14, _ => exact fr.at (h_nm (h_ne (hF 14 (by decide)) h0 (fun h => by cases h)) (h_nm (qne hq (by decide) (by decide) (by decide)) (h_nm (qne hq (by decide) (by decide) (by decide)) (h_nm (qne hq (by decide) (by decide) (by decide)) (h_nm (qne hq (by decide) (by decide) (by decide)) (h_nm (qne hq (by decide) (by decide) (by decide)) (h_nm (qne hq (by decide) (by decide) (by decide)) h_n0))))))) (hF 14 (by decide))
            | 15, _ => exact fr.at (h_nm (h_ne (hF 15 (by decide)) h0 (fun h => by cases h)) (h_nm (qne hq (by decide) (by decide) (by decide)) (h_nm (qne hq (by decide) (by decide) (by decide)) (h_nm (qne hq (by decide) (by decide) (by decide)) (h_nm (qne hq (by decide) (by decide) (by decide)) (h_nm (qne hq (by decide) (by decide) (by decide)) (h_nm (qne hq (by decide) (by decide) (by decide)) h_n0))))))) (hF 15 (by decide))
            | 16, _ => exact fr.at (h_nm (h_ne (hF 16 (by decide)) h0 (fun h => by cases h)) (h_nm (qne hq (by decide) (by decide) (by decide)) (h_nm (qne hq (by decide) (by decide) (by decide)) (h_nm (qne hq (by decide) (by decide) (by decide)) (h_nm (qne hq (by decide) (by decide) (by decide)) (h_nm (qne hq (by decide) (by decide) (by decide)) (h_nm (qne hq (by decide) (by decide) (by decide)) h_n0))))))) (hF 16 (by decide))
            | 17, _ => exact fr.at (h_nm (h_ne (hF 17 (by decide)) h0 (fun h => by cases h)) (h_nm (qne hq (by decide) (by decide) (by decide)) (h_nm (qne hq (by decide) (by decide) (by decide)) (h_nm (qne hq (by decide) (by decide) (by decide)) (h_nm (qne hq (by decide) (by decide) (by decide)) (h_nm (qne hq (by decide) (by decide) (by decide)) (h_nm (qne hq (by decide) (by decide) (by decide)) h_n0))))))) (hF 17 (by decide))
            | i + 18, h => omega
          have hrep : repM cI g_11 mm q (o_common a b S).1 (o_common a b S).2.2 := by rw [eop]; exact ⟨hq, hok, v3, v4, v14, v16, v17, v23, (fun i => match i with | 6 => F 6 | 7 => F 7 | 2 => F 2 | 3 => F 3 | 4 => F 4 | 5 => F 5 | i => F i), rm_, hF2, hR_, hA_, hB_, hH_, hC_, hZ_, hV_, hL_⟩
          have fr9 : hfr g g_11 (mS mm q) := fr.mono (by simp)
          exact hend _ _ _ _ _ _ _ _ (by decide) (by decide) rfl (⟨fr9, hrep, fun h9 => by rw [eop] at h9 ⊢; cases h9⟩) hg hS dMM_common_28
      · skip
        exact absurd hr_ (by decide)
    · skip
      rw [← nI_0] at c_5
      have c_5 : ¬ (0 = 0) := fun h => c_5 ((nI_eq (by omega) (by omega)).mpr h)
      exact absurd c_5 (by decide)
set_option maxRecDepth 100000 in
set_option maxHeartbeats 4000000 in
theorem c_MM_hunks (l : Launch) (D : va_G) (cI cR cJ : ClassId) (g : Nat → Option va_E) (sz : Nat) (mm : Nat) (q : Nat → Nat) (t : Nat) (S : ST) (a b : Int32) (HM : repM cI g mm q t S) : hMi l yMM_hunks cMM_hunks 4 .int (hRm 3 100 0 0) D (hT cI cR cJ) g sz [.ref mm, .int a, .int b] (fun o g1 => hfr g g1 (mS mm q) ∧ repM cI g1 mm q (o_hunks a b S).1 (o_hunks a b S).2.2 ∧ ((o_hunks a b S).1 = 0 → o = (o_hunks a b S).2.1)) := by
  refine hMi_of (by decide +kernel) (Nat.le_of_ble_eq_true rfl) ?_
  intro pX eX RX sX mX argsX belowX methX cX QX AX hR S0 hnm hsz hg hK hS hA0 hend ls hl
  have hl : lv_has ls 4 [(0, .ref mm), (1, .int a), (2, .int b)] := hl
  obtain ⟨hq, hok, v3, v4, v14, v16, v17, v23, F, h0, hF, hR_, hA_, hB_, hH_, hC_, hZ_, hV_, hL_⟩ := HM
  have hsizes : g (q 0) = some (.inl (cI, 6, .inl (F 0))) := hF 0 (by decide)
  have hlines : g (q 1) = some (.inl (cI, 360, .inl (F 1))) := hF 1 (by decide)
  have hhunk : g (q 8) = some (.inl (cI, 250, .inl (F 8))) := hF 8 (by decide)
  have hpart : g (q 9) = some (.inl (cI, 250, .inl (F 9))) := hF 9 (by decide)
  have hx : g (q 2) = some (.inl (cI, 60, .inl (F 2))) := hF 2 (by decide)
  have hy : g (q 3) = some (.inl (cI, 60, .inl (F 3))) := hF 3 (by decide)
  have hbest : g (q 4) = some (.inl (cI, 3721, .inl (F 4))) := hF 4 (by decide)
  have hpartner : g (q 5) = some (.inl (cI, 60, .inl (F 5))) := hF 5 (by decide)
  have fr : hfr g g [mm, q 8, q 9, q 2, q 3, q 4, q 5] := hfr.rf
  refine lv_aload_n S0.1 S0.2.1 dMM_hunks_0 rfl (lv_at hl 0 rfl) ?_
  refine lv_iload_n S0.1 S0.2.1 dMM_hunks_1 rfl (lv_at hl 1 rfl) ?_
  refine hw_Si (As := [.int a]) (rest := [.ref mm]) S0 hK hg hS hA0 (c_MM_isRow l D cI cR cJ g _ a) kMM_isRow lm_MM_68 (hR.call rfl) rfl hl.1 rfl (Nat.le_of_ble_eq_true rfl) dMM_hunks_2 (hR.new (by decide) (by decide)) (fun r_2 g_1 H locs hp_2 hg hS => ?_)
  rw [hp_2.1] at hg
  replace hp_2 := hp_2.2
  rcases hp_2 with hp_2 | hp_2
  · skip
    obtain ⟨ho, i, hk_i, rfl⟩ := hp_2
    subst ho
    have e_i : ix (nI i) 6 = some i := ix_some hk_i (by decide)
    refine lv_if_eq (tgt := 15) S0.1 S0.2.1 dMM_hunks_5 (by decide) (fun c_5 => ?_) (fun c_5 => ?_)
    · skip
      rw [← nI_0] at c_5
      have c_5 : 1 = 0 := (nI_eq (by omega) (by omega)).mp c_5
      exact absurd c_5 (by decide)
    · skip
      rw [← nI_0] at c_5
      have c_5 : ¬ (1 = 0) := fun h => c_5 ((nI_eq (by omega) (by omega)).mpr h)
      refine lv_iload_n S0.1 S0.2.1 dMM_hunks_8 rfl (lv_at hl 2 rfl) ?_
      refine hw_Si (As := [.int b]) (rest := [.ref mm]) S0 hK hg hS hA0 (c_MM_isRow l D cI cR cJ g _ b) kMM_isRow lm_MM_68 (hR.call rfl) rfl hl.1 rfl (Nat.le_of_ble_eq_true rfl) dMM_hunks_9 (hR.new (by decide) (by decide)) (fun r_9 g_2 H locs hp_9 hg hS => ?_)
      rw [hp_9.1] at hg
      replace hp_9 := hp_9.2
      rcases hp_9 with hp_9 | hp_9
      · skip
        obtain ⟨ho, j, hk_j, rfl⟩ := hp_9
        subst ho
        have e_j : ix (nI j) 6 = some j := ix_some hk_j (by decide)
        refine lv_if_ne (tgt := 19) S0.1 S0.2.1 dMM_hunks_12 (by decide) (fun c_12 => ?_) (fun c_12 => ?_)
        · skip
          rw [← nI_0] at c_12
          have c_12 : ¬ (1 = 0) := fun h => c_12 ((nI_eq (by omega) (by omega)).mpr h)
          refine lv_iconst (v := nI 0) S0.1 S0.2.1 dMM_hunks_19 (by decide) ?_
          refine lv_iconst (v := nI 0) S0.1 S0.2.1 dMM_hunks_20 (by decide) ?_
          refine hw_Vi (As := [.int (nI 0), .int (nI 0)]) (rest := []) S0 hK hg hS hA0 h0 rfl (c_MM_refuse l D cI cR cJ g _ mm q hq (nI t) v3 v4 (nI S.2.1.length) (nI S.2.2.1.length) v14 v16 v17 (nI S.2.2.2.1.length) v23 (nI S.2.2.2.2.1.length) 0 0 (by decide) (by decide) h0) kMM_refuse lm_MM_72 (hR.call rfl) rfl hl.1 rfl (Nat.le_of_ble_eq_true rfl) dMM_hunks_21 (hR.new (by decide) (by decide)) (fun r_21 g_3 H locs hp_21 hg hS => ?_)
          obtain ⟨frr, rm_, hp_21⟩ := hp_21
          have rm_ : g_3 mm = some (mmC q (nI 0) v3 v4 (nI S.2.1.length) (nI S.2.2.1.length) v14 v16 v17 (nI S.2.2.2.1.length) v23 (nI S.2.2.2.2.1.length)) := rm_
          have k3_0 := frr.at (h_nm (h_ne hsizes h0 (fun h => by cases h)) h_n0) hsizes
          have k3_1 := frr.at (h_nm (h_ne hlines h0 (fun h => by cases h)) h_n0) hlines
          have k3_2 := frr.at (h_nm (h_ne hhunk h0 (fun h => by cases h)) h_n0) hhunk
          have k3_3 := frr.at (h_nm (h_ne hpart h0 (fun h => by cases h)) h_n0) hpart
          have k3_4 := frr.at (h_nm (h_ne hx h0 (fun h => by cases h)) h_n0) hx
          have k3_5 := frr.at (h_nm (h_ne hy h0 (fun h => by cases h)) h_n0) hy
          have k3_6 := frr.at (h_nm (h_ne hbest h0 (fun h => by cases h)) h_n0) hbest
          have k3_7 := frr.at (h_nm (h_ne hpartner h0 (fun h => by cases h)) h_n0) hpartner
          have fr := fr.call frr (by simp)
          rcases hp_21 with ⟨ho, hr_⟩ | ⟨ho, hr_⟩
          · skip
            exact absurd hr_ (by decide)
          · skip
            subst ho
            refine lv_if_eq (tgt := 29) S0.1 S0.2.1 dMM_hunks_24 (by decide) (fun c_24 => ?_) (fun c_24 => ?_)
            · skip
              rw [← nI_0] at c_24
              have c_24 : 0 = 0 := (nI_eq (by omega) (by omega)).mp c_24
              refine lv_aload_n S0.1 S0.2.1 dMM_hunks_29 rfl (lv_at hl 0 rfl) ?_
              refine lv_iload_n S0.1 S0.2.1 dMM_hunks_30 rfl (lv_at hl 1 rfl) ?_
              refine lv_iload_n S0.1 S0.2.1 dMM_hunks_31 rfl (lv_at hl 2 rfl) ?_
              refine hw_Vv (As := [.int (nI i), .int (nI j)]) (rest := []) S0 hK hg hS hA0 rm_ rfl (c_MM_rows l D cI cR cJ g_3 _ mm q hq (nI 0) v3 v4 (nI S.2.1.length) (nI S.2.2.1.length) v14 v16 v17 (nI S.2.2.2.1.length) v23 (nI S.2.2.2.2.1.length) i j S.1 (F 0) (F 1) (F 2) (F 3) rm_ k3_0 k3_1 k3_4 k3_5 hR_ hk_i hk_j) kMM_rows lm_MM_89 (hR.call rfl) rfl hl.1 rfl (Nat.le_of_ble_eq_true rfl) dMM_hunks_32 (hR.new (by decide) (by decide)) (fun g_4 H locs hp_32 hg hS => ?_)
              obtain ⟨frR32, r032, fx32, fy32, r132, r232, ex32, ey32⟩ := hp_32
              have k4_0 := frR32.at (h_nm (h_ne k3_0 rm_ (fun h => by cases h)) (h_nm (qne hq (by decide) (by decide) (by decide)) (h_nm (qne hq (by decide) (by decide) (by decide)) h_n0))) k3_0
              have k4_1 := frR32.at (h_nm (h_ne k3_1 rm_ (fun h => by cases h)) (h_nm (qne hq (by decide) (by decide) (by decide)) (h_nm (qne hq (by decide) (by decide) (by decide)) h_n0))) k3_1
              have k4_2 := frR32.at (h_nm (h_ne k3_2 rm_ (fun h => by cases h)) (h_nm (qne hq (by decide) (by decide) (by decide)) (h_nm (qne hq (by decide) (by decide) (by decide)) h_n0))) k3_2
              have k4_3 := frR32.at (h_nm (h_ne k3_3 rm_ (fun h => by cases h)) (h_nm (qne hq (by decide) (by decide) (by decide)) (h_nm (qne hq (by decide) (by decide) (by decide)) h_n0))) k3_3
              have k4_4 := frR32.at (h_nm (h_ne k3_6 rm_ (fun h => by cases h)) (h_nm (qne hq (by decide) (by decide) (by decide)) (h_nm (qne hq (by decide) (by decide) (by decide)) h_n0))) k3_6
              have k4_5 := frR32.at (h_nm (h_ne k3_7 rm_ (fun h => by cases h)) (h_nm (qne hq (by decide) (by decide) (by decide)) (h_nm (qne hq (by decide) (by decide) (by decide)) h_n0))) k3_7
              have fr := fr.call frR32 (by simp)
              refine lv_aload_n S0.1 S0.2.1 dMM_hunks_35 rfl (lv_at hl 0 rfl) ?_
              refine hw_Vv (As := []) (rest := []) S0 hK hg hS hA0 r032 rfl (c_MM_compare l D cI cR cJ g_4 _ mm q hq (nI 0) (nI S.2.1.length) (nI S.2.2.1.length) v14 v16 v17 (nI S.2.2.2.1.length) v23 (nI S.2.2.2.2.1.length) (S.1 i) (S.1 j) fx32 fy32 (F 4) (F 5) r032 r132 r232 k4_4 k4_5 ex32 ey32 (hok.1 i hk_i) (hok.1 j hk_j)) kMM_compare lm_MM_93 (hR.call rfl) rfl hl.1 rfl (Nat.le_of_ble_eq_true rfl) dMM_hunks_36 (hR.new (by decide) (by decide)) (fun g_5 H locs hp_36 hg hS => ?_)
              obtain ⟨frC36, fb36, fp36, p136, p236, pp36⟩ := hp_36
              have k5_0 := frC36.at (h_nm (qne hq (by decide) (by decide) (by decide)) (h_nm (qne hq (by decide) (by decide) (by decide)) h_n0)) k4_0
              have k5_1 := frC36.at (h_nm (qne hq (by decide) (by decide) (by decide)) (h_nm (qne hq (by decide) (by decide) (by decide)) h_n0)) k4_1
              have k5_2 := frC36.at (h_nm (qne hq (by decide) (by decide) (by decide)) (h_nm (qne hq (by decide) (by decide) (by decide)) h_n0)) k4_2
              have k5_3 := frC36.at (h_nm (qne hq (by decide) (by decide) (by decide)) (h_nm (qne hq (by decide) (by decide) (by decide)) h_n0)) k4_3
              have k5_4 := frC36.at (h_nm (h_ne r032 k4_4 (fun h => by cases h)) (h_nm (h_ne r032 k4_5 (fun h => by cases h)) h_n0)) r032
              have k5_5 := frC36.at (h_nm (qne hq (by decide) (by decide) (by decide)) (h_nm (qne hq (by decide) (by decide) (by decide)) h_n0)) r132
              have k5_6 := frC36.at (h_nm (qne hq (by decide) (by decide) (by decide)) (h_nm (qne hq (by decide) (by decide) (by decide)) h_n0)) r232
              have fr := fr.call frC36 (by simp)
              refine lv_aload_n S0.1 S0.2.1 dMM_hunks_39 rfl (lv_at hl 0 rfl) ?_
              refine hw_Vv (As := []) (rest := []) S0 hK hg hS hA0 k5_4 rfl (c_MM_cut l D cI cR cJ g_5 _ mm q hq (nI 0) (nI S.2.1.length) (nI S.2.2.1.length) v14 v16 v17 (nI S.2.2.2.1.length) v23 (nI S.2.2.2.2.1.length) (S.1 i) (S.1 j) fp36 (F 9) k5_4 p236 k5_3 pp36 (hok.1 i hk_i) (hok.1 j hk_j)) kMM_cut lm_MM_106 (hR.call rfl) rfl hl.1 rfl (Nat.le_of_ble_eq_true rfl) dMM_hunks_40 (hR.new (by decide) (by decide)) (fun g_6 H locs hp_40 hg hS => ?_)
              obtain ⟨frK40, fk40, k040, k140, kk40⟩ := hp_40
              have k6_0 := frK40.at (h_nm (h_ne k5_0 k5_4 (fun h => by cases h)) (h_nm (qne hq (by decide) (by decide) (by decide)) h_n0)) k5_0
              have k6_1 := frK40.at (h_nm (h_ne k5_1 k5_4 (fun h => by cases h)) (h_nm (qne hq (by decide) (by decide) (by decide)) h_n0)) k5_1
              have k6_2 := frK40.at (h_nm (h_ne k5_2 k5_4 (fun h => by cases h)) (h_nm (qne hq (by decide) (by decide) (by decide)) h_n0)) k5_2
              have k6_3 := frK40.at (h_nm (h_ne k5_5 k5_4 (fun h => by cases h)) (h_nm (qne hq (by decide) (by decide) (by decide)) h_n0)) k5_5
              have k6_4 := frK40.at (h_nm (h_ne k5_6 k5_4 (fun h => by cases h)) (h_nm (qne hq (by decide) (by decide) (by decide)) h_n0)) k5_6
              have k6_5 := frK40.at (h_nm (h_ne p136 k5_4 (fun h => by cases h)) (h_nm (qne hq (by decide) (by decide) (by decide)) h_n0)) p136
              have k6_6 := frK40.at (h_nm (h_ne p236 k5_4 (fun h => by cases h)) (h_nm (qne hq (by decide) (by decide) (by decide)) h_n0)) p236
              have fr := fr.call frK40 (by simp)
              have hho := hunks_ok (S.1 i) (S.1 j)
              have hhl := fl4_len (hunksOf (S.1 i) (S.1 j))
              refine lv_aload_n S0.1 S0.2.1 dMM_hunks_43 rfl (lv_at hl 0 rfl) ?_
              refine lv_aload_n S0.1 S0.2.1 dMM_hunks_44 rfl (lv_at hl 0 rfl) ?_
              refine hw_get S0 hK hg k040 rfl inMM 14 (by decide) lf_MM_99 rfl rfl dMM_hunks_45 ?_
              refine hw_put S0 hK hg hS k040 rfl inMM tyMM tokMM nmMM 12 (by decide) lf_MM_109 rfl rfl rfl rfl (Nat.le_of_ble_eq_true rfl) dMM_hunks_48 (fun H locs hg hS => ?_)
              obtain ⟨g_7, eg_7⟩ : ∃ z, z = hs g_6 mm (mmC q (nI 0) (nI ((S.1 i).length)) (nI ((S.1 j).length)) (nI S.2.1.length) (nI ((hunksOf (S.1 i) (S.1 j)).length)) (nI ((hunksOf (S.1 i) (S.1 j)).length)) v16 v17 (nI S.2.2.2.1.length) v23 (nI S.2.2.2.2.1.length)) := ⟨_, rfl⟩
              have hg : hw D hC AX g_7 H := by rw [eg_7]; exact hg
              have f7_0 : g_7 (q 0) = some (.inl (cI, 6, .inl (F 0))) := by rw [eg_7, hs_n _ _ (h_ne k6_0 k040 (fun h => by cases h))]; exact k6_0
              have f7_1 : g_7 (q 1) = some (.inl (cI, 360, .inl (F 1))) := by rw [eg_7, hs_n _ _ (h_ne k6_1 k040 (fun h => by cases h))]; exact k6_1
              have f7_2 : g_7 (q 8) = some (.inl (cI, 250, .inl (F 8))) := by rw [eg_7, hs_n _ _ (h_ne k6_2 k040 (fun h => by cases h))]; exact k6_2
              have f7_3 : g_7 (q 2) = some (.inl (cI, 60, .inl fx32)) := by rw [eg_7, hs_n _ _ (h_ne k6_3 k040 (fun h => by cases h))]; exact k6_3
              have f7_4 : g_7 (q 3) = some (.inl (cI, 60, .inl fy32)) := by rw [eg_7, hs_n _ _ (h_ne k6_4 k040 (fun h => by cases h))]; exact k6_4
              have f7_5 : g_7 (q 4) = some (.inl (cI, 3721, .inl fb36)) := by rw [eg_7, hs_n _ _ (h_ne k6_5 k040 (fun h => by cases h))]; exact k6_5
              have f7_6 : g_7 (q 5) = some (.inl (cI, 60, .inl fp36)) := by rw [eg_7, hs_n _ _ (h_ne k6_6 k040 (fun h => by cases h))]; exact k6_6
              have f7_7 : g_7 (q 9) = some (.inl (cI, 250, .inl fk40)) := by rw [eg_7, hs_n _ _ (h_ne k140 k040 (fun h => by cases h))]; exact k140
              have f7_8 : g_7 mm = some (mmC q (nI 0) (nI ((S.1 i).length)) (nI ((S.1 j).length)) (nI S.2.1.length) (nI ((hunksOf (S.1 i) (S.1 j)).length)) (nI ((hunksOf (S.1 i) (S.1 j)).length)) v16 v17 (nI S.2.2.2.1.length) v23 (nI S.2.2.2.2.1.length)) := by rw [eg_7]; exact hs_s _ _ _
              have fr := fr.put eg_7 (by simp)
              refine lv_iconst (v := nI 0) S0.1 S0.2.1 dMM_hunks_51 (by decide) ?_
              refine lv_istore_n (lv' := [(3, .int (nI 0)), (0, .ref mm), (1, .int (nI i)), (2, .int (nI j))]) S0.1 S0.2.1 dMM_hunks_52 rfl hl (by decide) rfl (fun ls hl => ?_)
              have hna := hok.1 i hk_i
              have hnb := hok.1 j hk_j
              obtain ⟨hho1, hho2, hho3⟩ := hho
              have loop_53 : ∀ (n_53 : Nat) (x : Nat) (fh : Nat → Int32) (gl : Nat → Option va_E) (H : Heap) (locs : List Loc) (ls : Array Slot), 4 * (hunksOf (S.1 i) (S.1 j)).length - x < n_53 → (x ≤ 4 * (hunksOf (S.1 i) (S.1 j)).length) → (∀ y, y < x → fh y = fk40 y) → (hfr g gl [mm, q 8, q 9, q 2, q 3, q 4, q 5]) → (gl (q 8) = some (.inl (cI, 250, .inl fh))) → (gl (q 2) = some (.inl (cI, 60, .inl fx32))) → (gl (q 3) = some (.inl (cI, 60, .inl fy32))) → (gl (q 4) = some (.inl (cI, 3721, .inl fb36))) → (gl (q 5) = some (.inl (cI, 60, .inl fp36))) → (gl (q 9) = some (.inl (cI, 250, .inl fk40))) → (gl mm = some (mmC q (nI 0) (nI ((S.1 i).length)) (nI ((S.1 j).length)) (nI S.2.1.length) (nI ((hunksOf (S.1 i) (S.1 j)).length)) (nI ((hunksOf (S.1 i) (S.1 j)).length)) v16 v17 (nI S.2.2.2.1.length) v23 (nI S.2.2.2.2.1.length))) → hw D hC AX gl H → va_S AX sX.heap H locs → lv_has ls 4 [(0, .ref mm), (1, .int (nI i)), (2, .int (nI j)), (3, .int (nI x))] → W pX l eX RX sX mX argsX belowX methX cX H locs 0 0 QX (F0 mX 53 ls []) := by
                intro n_53
                induction n_53 with
                | zero => intros; omega
                | succ n_53 ih_53 =>
                  intro x fh gl H locs ls hm_53 hx hh2 fr l53_q8 l53_q2 l53_q3 l53_q4 l53_q5 l53_q9 l53_mm hg hS hl
                  have q53_q0 := fr.at (h_nm (h_ne f7_0 f7_8 (fun h => by cases h)) (h_nm (qne hq (by decide) (by decide) (by decide)) (h_nm (qne hq (by decide) (by decide) (by decide)) (h_nm (qne hq (by decide) (by decide) (by decide)) (h_nm (qne hq (by decide) (by decide) (by decide)) (h_nm (qne hq (by decide) (by decide) (by decide)) (h_nm (qne hq (by decide) (by decide) (by decide)) h_n0))))))) hsizes
                  have q53_q1 := fr.at (h_nm (h_ne f7_1 f7_8 (fun h => by cases h)) (h_nm (qne hq (by decide) (by decide) (by decide)) (h_nm (qne hq (by decide) (by decide) (by decide)) (h_nm (qne hq (by decide) (by decide) (by decide)) (h_nm (qne hq (by decide) (by decide) (by decide)) (h_nm (qne hq (by decide) (by decide) (by decide)) (h_nm (qne hq (by decide) (by decide) (by decide)) h_n0))))))) hlines
                  refine lv_iload_n S0.1 S0.2.1 dMM_hunks_53 rfl (lv_at hl 3 rfl) ?_
                  refine lv_iconst (v := nI 4) S0.1 S0.2.1 dMM_hunks_54 (by decide) ?_
                  refine lv_aload_n S0.1 S0.2.1 dMM_hunks_55 rfl (lv_at hl 0 rfl) ?_
                  refine hw_get S0 hK hg l53_mm rfl inMM 14 (by decide) lf_MM_99 rfl rfl dMM_hunks_56 ?_
                  refine lv_imul S0.1 S0.2.1 dMM_hunks_59 ?_
                  refine hw_top (nI (4 * ((hunksOf (S.1 i) (S.1 j)).length))) (pk_mul _ _) ?_
                  refine lv_icmp_ge (tgt := 81) S0.1 S0.2.1 dMM_hunks_60 (by decide) (fun c_60 => ?_) (fun c_60 => ?_)
                  · skip
                    have c_60 : (4 * ((hunksOf (S.1 i) (S.1 j)).length)) ≤ x := (nI_leI (by omega) (by omega)).mp c_60
                    refine lv_aload_n S0.1 S0.2.1 dMM_hunks_81 rfl (lv_at hl 0 rfl) ?_
                    refine hw_get S0 hK hg l53_mm rfl inMM 12 (by decide) lf_MM_109 rfl rfl dMM_hunks_82 ?_
                    have eop : o_hunks (nI i) (nI j) S = (0, nI (hunksOf (S.1 i) (S.1 j)).length, (S.1, S.2.1, (hunksOf (S.1 i) (S.1 j)), S.2.2.2)) := by unfold o_hunks; rw [e_i, e_j]
                    have hH2 : rpN fh (fl4 (hunksOf (S.1 i) (S.1 j))) := rpN_congr kk40 (fun y h => hh2 y (by omega))
                    have hF2 : ∀ i, i < 18 → gl (q i) = some (.inl (cI, mSz i, .inl ((fun i => match i with | 8 => fh | 9 => fk40 | 2 => fx32 | 3 => fy32 | 4 => fb36 | 5 => fp36 | i => F i) i))) := by
                      intro i hi
                      match i, hi with
                      | 0, _ => exact fr.at (h_nm (h_ne (hF 0 (by decide)) h0 (fun h => by cases h)) (h_nm (qne hq (by decide) (by decide) (by decide)) (h_nm (qne hq (by decide) (by decide) (by decide)) (h_nm (qne hq (by decide) (by decide) (by decide)) (h_nm (qne hq (by decide) (by decide) (by decide)) (h_nm (qne hq (by decide) (by decide) (by decide)) (h_nm (qne hq (by decide) (by decide) (by decide)) h_n0))))))) (hF 0 (by decide))
                      | 1, _ => exact fr.at (h_nm (h_ne (hF 1 (by decide)) h0 (fun h => by cases h)) (h_nm (qne hq (by decide) (by decide) (by decide)) (h_nm (qne hq (by decide) (by decide) (by decide)) (h_nm (qne hq (by decide) (by decide) (by decide)) (h_nm (qne hq (by decide) (by decide) (by decide)) (h_nm (qne hq (by decide) (by decide) (by decide)) (h_nm (qne hq (by decide) (by decide) (by decide)) h_n0))))))) (hF 1 (by decide))
                      | 2, _ => exact l53_q2
                      | 3, _ => exact l53_q3
                      | 4, _ => exact l53_q4
                      | 5, _ => exact l53_q5
                      | 6, _ => exact fr.at (h_nm (h_ne (hF 6 (by decide)) h0 (fun h => by cases h)) (h_nm (qne hq (by decide) (by decide) (by decide)) (h_nm (qne hq (by decide) (by decide) (by decide)) (h_nm (qne hq (by decide) (by decide) (by decide)) (h_nm (qne hq (by decide) (by decide) (by decide)) (h_nm (qne hq (by decide) (by decide) (by decide)) (h_nm (qne hq (by decide) (by decide) (by decide)) h_n0))))))) (hF 6 (by decide))
                      | 7, _ => exact fr.at (h_nm (h_ne (hF 7 (by decide)) h0 (fun h => by cases h)) (h_nm (qne hq (by decide) (by decide) (by decide)) (h_nm (qne hq (by decide) (by decide) (by decide)) (h_nm (qne hq (by decide) (by decide) (by decide)) (h_nm (qne hq (by decide) (by decide) (by decide)) (h_nm (qne hq (by decide) (by decide) (by decide)) (h_nm (qne hq (by decide) (by decide) (by decide)) h_n0))))))) (hF 7 (by decide))
                      | 8, _ => exact l53_q8
                      | 9, _ => exact l53_q9
                      | 10, _ => exact fr.at (h_nm (h_ne (hF 10 (by decide)) h0 (fun h => by cases h)) (h_nm (qne hq (by decide) (by decide) (by decide)) (h_nm (qne hq (by decide) (by decide) (by decide)) (h_nm (qne hq (by decide) (by decide) (by decide)) (h_nm (qne hq (by decide) (by decide) (by decide)) (h_nm (qne hq (by decide) (by decide) (by decide)) (h_nm (qne hq (by decide) (by decide) (by decide)) h_n0))))))) (hF 10 (by decide))
                      | 11, _ => exact fr.at (h_nm (h_ne (hF 11 (by decide)) h0 (fun h => by cases h)) (h_nm (qne hq (by decide) (by decide) (by decide)) (h_nm (qne hq (by decide) (by decide) (by decide)) (h_nm (qne hq (by decide) (by decide) (by decide)) (h_nm (qne hq (by decide) (by decide) (by decide)) (h_nm (qne hq (by decide) (by decide) (by decide)) (h_nm (qne hq (by decide) (by decide) (by decide)) h_n0))))))) (hF 11 (by decide))
                      | 12, _ => exact fr.at (h_nm (h_ne (hF 12 (by decide)) h0 (fun h => by cases h)) (h_nm (qne hq (by decide) (by decide) (by decide)) (h_nm (qne hq (by decide) (by decide) (by decide)) (h_nm (qne hq (by decide) (by decide) (by decide)) (h_nm (qne hq (by decide) (by decide) (by decide)) (h_nm (qne hq (by decide) (by decide) (by decide)) (h_nm (qne hq (by decide) (by decide) (by decide)) h_n0))))))) (hF 12 (by decide))
                      | 13, _ => exact fr.at (h_nm (h_ne (hF 13 (by decide)) h0 (fun h => by cases h)) (h_nm (qne hq (by decide) (by decide) (by decide)) (h_nm (qne hq (by decide) (by decide) (by decide)) (h_nm (qne hq (by decide) (by decide) (by decide)) (h_nm (qne hq (by decide) (by decide) (by decide)) (h_nm (qne hq (by decide) (by decide) (by decide)) (h_nm (qne hq (by decide) (by decide) (by decide)) h_n0))))))) (hF 13 (by decide))
                      | 14, _ => exact fr.at (h_nm (h_ne (hF 14 (by decide)) h0 (fun h => by cases h)) (h_nm (qne hq (by decide) (by decide) (by decide)) (h_nm (qne hq (by decide) (by decide) (by decide)) (h_nm (qne hq (by decide) (by decide) (by decide)) (h_nm (qne hq (by decide) (by decide) (by decide)) (h_nm (qne hq (by decide) (by decide) (by decide)) (h_nm (qne hq (by decide) (by decide) (by decide)) h_n0))))))) (hF 14 (by decide))
                      | 15, _ => exact fr.at (h_nm (h_ne (hF 15 (by decide)) h0 (fun h => by cases h)) (h_nm (qne hq (by decide) (by decide) (by decide)) (h_nm (qne hq (by decide) (by decide) (by decide)) (h_nm (qne hq (by decide) (by decide) (by decide)) (h_nm (qne hq (by decide) (by decide) (by decide)) (h_nm (qne hq (by decide) (by decide) (by decide)) (h_nm (qne hq (by decide) (by decide) (by decide)) h_n0))))))) (hF 15 (by decide))
                      | 16, _ => exact fr.at (h_nm (h_ne (hF 16 (by decide)) h0 (fun h => by cases h)) (h_nm (qne hq (by decide) (by decide) (by decide)) (h_nm (qne hq (by decide) (by decide) (by decide)) (h_nm (qne hq (by decide) (by decide) (by decide)) (h_nm (qne hq (by decide) (by decide) (by decide)) (h_nm (qne hq (by decide) (by decide) (by decide)) (h_nm (qne hq (by decide) (by decide) (by decide)) h_n0))))))) (hF 16 (by decide))
                      | 17, _ => exact fr.at (h_nm (h_ne (hF 17 (by decide)) h0 (fun h => by cases h)) (h_nm (qne hq (by decide) (by decide) (by decide)) (h_nm (qne hq (by decide) (by decide) (by decide)) (h_nm (qne hq (by decide) (by decide) (by decide)) (h_nm (qne hq (by decide) (by decide) (by decide)) (h_nm (qne hq (by decide) (by decide) (by decide)) (h_nm (qne hq (by decide) (by decide) (by decide)) h_n0))))))) (hF 17 (by decide))
                      | i + 18, h => omega
                    have hrep : repM cI gl mm q (o_hunks (nI i) (nI j) S).1 (o_hunks (nI i) (nI j) S).2.2 := by rw [eop]; exact ⟨hq, (show stok (S.1, S.2.1, (hunksOf (S.1 i) (S.1 j)), S.2.2.2) from ⟨hok.1, hok.2.1, show (hunksOf (S.1 i) (S.1 j)).length ≤ 61 by omega, hok.2.2.2⟩), (nI ((S.1 i).length)), (nI ((S.1 j).length)), (nI ((hunksOf (S.1 i) (S.1 j)).length)), v16, v17, v23, (fun i => match i with | 8 => fh | 9 => fk40 | 2 => fx32 | 3 => fy32 | 4 => fb36 | 5 => fp36 | i => F i), l53_mm, hF2, hR_, hA_, hB_, hH2, hC_, hZ_, hV_, hL_⟩
                    have fr9 : hfr g gl (mS mm q) := fr.mono (by simp)
                    exact hend _ _ _ _ _ _ _ _ (by decide) (by decide) rfl (⟨fr9, hrep, fun h9 => by rw [eop] at h9 ⊢⟩) hg hS dMM_hunks_85
                  · skip
                    have c_60 : ¬ ((4 * ((hunksOf (S.1 i) (S.1 j)).length)) ≤ x) := fun h => c_60 ((nI_leI (by omega) (by omega)).mpr h)
                    refine lv_aload_n S0.1 S0.2.1 dMM_hunks_63 rfl (lv_at hl 0 rfl) ?_
                    refine hw_get S0 hK hg l53_mm rfl inMM 13 (by decide) lf_MM_34 rfl rfl dMM_hunks_64 ?_
                    refine lv_iload_n S0.1 S0.2.1 dMM_hunks_67 rfl (lv_at hl 3 rfl) ?_
                    refine lv_aload_n S0.1 S0.2.1 dMM_hunks_68 rfl (lv_at hl 0 rfl) ?_
                    refine hw_get S0 hK hg l53_mm rfl inMM 15 (by decide) lf_MM_37 rfl rfl dMM_hunks_69 ?_
                    refine lv_iload_n S0.1 S0.2.1 dMM_hunks_72 rfl (lv_at hl 3 rfl) ?_
                    refine hw_iald S0 hK hg l53_q9 0 rfl (by omega) (by omega) dMM_hunks_73 ?_
                    refine hw_iast S0 hK hg hS l53_q8 0 rfl (by omega) (by omega) dMM_hunks_74 (fun H locs hg hS => ?_)
                    obtain ⟨g_8, eg_8⟩ : ∃ z, z = hs gl (q 8) (.inl (cI, 250, .inl (upd fh x (fk40 x)))) := ⟨_, rfl⟩
                    have hg : hw D hC AX g_8 H := by rw [eg_8]; exact hg
                    have f8_0 : g_8 (q 0) = some (.inl (cI, 6, .inl (F 0))) := by rw [eg_8, hs_n _ _ (qne hq (by decide) (by decide) (by decide))]; exact q53_q0
                    have f8_1 : g_8 (q 1) = some (.inl (cI, 360, .inl (F 1))) := by rw [eg_8, hs_n _ _ (qne hq (by decide) (by decide) (by decide))]; exact q53_q1
                    have f8_2 : g_8 (q 2) = some (.inl (cI, 60, .inl fx32)) := by rw [eg_8, hs_n _ _ (qne hq (by decide) (by decide) (by decide))]; exact l53_q2
                    have f8_3 : g_8 (q 3) = some (.inl (cI, 60, .inl fy32)) := by rw [eg_8, hs_n _ _ (qne hq (by decide) (by decide) (by decide))]; exact l53_q3
                    have f8_4 : g_8 (q 4) = some (.inl (cI, 3721, .inl fb36)) := by rw [eg_8, hs_n _ _ (qne hq (by decide) (by decide) (by decide))]; exact l53_q4
                    have f8_5 : g_8 (q 5) = some (.inl (cI, 60, .inl fp36)) := by rw [eg_8, hs_n _ _ (qne hq (by decide) (by decide) (by decide))]; exact l53_q5
                    have f8_6 : g_8 (q 9) = some (.inl (cI, 250, .inl fk40)) := by rw [eg_8, hs_n _ _ (qne hq (by decide) (by decide) (by decide))]; exact l53_q9
                    have f8_7 : g_8 mm = some (mmC q (nI 0) (nI ((S.1 i).length)) (nI ((S.1 j).length)) (nI S.2.1.length) (nI ((hunksOf (S.1 i) (S.1 j)).length)) (nI ((hunksOf (S.1 i) (S.1 j)).length)) v16 v17 (nI S.2.2.2.1.length) v23 (nI S.2.2.2.2.1.length)) := by rw [eg_8, hs_n _ _ (h_ne l53_mm l53_q8 (fun h => by cases h))]; exact l53_mm
                    have f8_8 : g_8 (q 8) = some (.inl (cI, 250, .inl (upd fh x (fk40 x)))) := by rw [eg_8]; exact hs_s _ _ _
                    have fr := fr.put eg_8 (by simp)
                    refine lv_iinc (v := nI (x + 1)) (lv' := [(3, .int (nI (x + 1))), (0, .ref mm), (1, .int (nI i)), (2, .int (nI j))]) S0.1 S0.2.1 dMM_hunks_75 hl (k := 3) rfl (by exact nI_add _ 1) (by decide) rfl (fun ls hl => ?_)
                    refine lv_goto (tgt := 53) S0.1 S0.2.1 dMM_hunks_78 (by decide) ?_
                    exact ih_53 (x + 1) (upd fh x (fk40 x)) g_8 _ _ _ (by omega) (by omega) (fun y h => by rcases Nat.lt_or_ge y x with h9 | h9; rw [pk_un (by omega)]; exact hh2 y h9; rw [show y = x by omega, pk_us]) fr f8_8 f8_2 f8_3 f8_4 f8_5 f8_6 f8_7 hg hS (lv_sub hl [1, 2, 3, 0] rfl)
              exact loop_53 _ 0 (F 8) g_7 _ _ _ (Nat.lt_succ_self _) (Nat.zero_le _) (fun y h => absurd h (Nat.not_lt_zero y)) fr f7_2 f7_3 f7_4 f7_5 f7_6 f7_7 f7_8 hg hS (lv_sub hl [1, 2, 3, 0] rfl)
            · skip
              rw [← nI_0] at c_24
              have c_24 : ¬ (0 = 0) := fun h => c_24 ((nI_eq (by omega) (by omega)).mpr h)
              exact absurd c_24 (by decide)
        · skip
          rw [← nI_0] at c_12
          have c_12 : 1 = 0 := (nI_eq (by omega) (by omega)).mp c_12
          exact absurd c_12 (by decide)
      · skip
        obtain ⟨ho, hn_j⟩ := hp_9
        subst ho
        have e_j : ix b 6 = none := ix_none hn_j
        refine lv_if_ne (tgt := 19) S0.1 S0.2.1 dMM_hunks_12 (by decide) (fun c_12 => ?_) (fun c_12 => ?_)
        · skip
          rw [← nI_0] at c_12
          have c_12 : ¬ (0 = 0) := fun h => c_12 ((nI_eq (by omega) (by omega)).mpr h)
          exact absurd c_12 (by decide)
        · skip
          rw [← nI_0] at c_12
          have c_12 : 0 = 0 := (nI_eq (by omega) (by omega)).mp c_12
          refine lv_iconst (v := nI 1) S0.1 S0.2.1 dMM_hunks_15 (by decide) ?_
          refine lv_goto (tgt := 20) S0.1 S0.2.1 dMM_hunks_16 (by decide) ?_
          refine lv_iconst (v := nI 0) S0.1 S0.2.1 dMM_hunks_20 (by decide) ?_
          refine hw_Vi (As := [.int (nI 1), .int (nI 0)]) (rest := []) S0 hK hg hS hA0 h0 rfl (c_MM_refuse l D cI cR cJ g _ mm q hq (nI t) v3 v4 (nI S.2.1.length) (nI S.2.2.1.length) v14 v16 v17 (nI S.2.2.2.1.length) v23 (nI S.2.2.2.2.1.length) 1 0 (by decide) (by decide) h0) kMM_refuse lm_MM_72 (hR.call rfl) rfl hl.1 rfl (Nat.le_of_ble_eq_true rfl) dMM_hunks_21 (hR.new (by decide) (by decide)) (fun r_21 g_9 H locs hp_21 hg hS => ?_)
          obtain ⟨frr, rm_, hp_21⟩ := hp_21
          have rm_ : g_9 mm = some (mmC q (nI 1) v3 v4 (nI S.2.1.length) (nI S.2.2.1.length) v14 v16 v17 (nI S.2.2.2.1.length) v23 (nI S.2.2.2.2.1.length)) := rm_
          have k9_0 := frr.at (h_nm (h_ne hsizes h0 (fun h => by cases h)) h_n0) hsizes
          have k9_1 := frr.at (h_nm (h_ne hlines h0 (fun h => by cases h)) h_n0) hlines
          have k9_2 := frr.at (h_nm (h_ne hhunk h0 (fun h => by cases h)) h_n0) hhunk
          have k9_3 := frr.at (h_nm (h_ne hpart h0 (fun h => by cases h)) h_n0) hpart
          have k9_4 := frr.at (h_nm (h_ne hx h0 (fun h => by cases h)) h_n0) hx
          have k9_5 := frr.at (h_nm (h_ne hy h0 (fun h => by cases h)) h_n0) hy
          have k9_6 := frr.at (h_nm (h_ne hbest h0 (fun h => by cases h)) h_n0) hbest
          have k9_7 := frr.at (h_nm (h_ne hpartner h0 (fun h => by cases h)) h_n0) hpartner
          have fr := fr.call frr (by simp)
          rcases hp_21 with ⟨ho, hr_⟩ | ⟨ho, hr_⟩
          · skip
            subst ho
            refine lv_if_eq (tgt := 29) S0.1 S0.2.1 dMM_hunks_24 (by decide) (fun c_24 => ?_) (fun c_24 => ?_)
            · skip
              rw [← nI_0] at c_24
              have c_24 : 1 = 0 := (nI_eq (by omega) (by omega)).mp c_24
              exact absurd c_24 (by decide)
            · skip
              rw [← nI_0] at c_24
              have c_24 : ¬ (1 = 0) := fun h => c_24 ((nI_eq (by omega) (by omega)).mpr h)
              refine lv_iconst (v := nI 0) S0.1 S0.2.1 dMM_hunks_27 (by decide) ?_
              have eop : o_hunks (nI i) b S = (1, 0, S) := by unfold o_hunks; rw [e_i, e_j]
              have hF2 : ∀ i, i < 18 → g_9 (q i) = some (.inl (cI, mSz i, .inl ((fun i => match i with | 8 => F 8 | 9 => F 9 | 2 => F 2 | 3 => F 3 | 4 => F 4 | 5 => F 5 | i => F i) i))) := by
                intro i hi
                match i, hi with
                | 0, _ => exact fr.at (h_nm (h_ne (hF 0 (by decide)) h0 (fun h => by cases h)) (h_nm (qne hq (by decide) (by decide) (by decide)) (h_nm (qne hq (by decide) (by decide) (by decide)) (h_nm (qne hq (by decide) (by decide) (by decide)) (h_nm (qne hq (by decide) (by decide) (by decide)) (h_nm (qne hq (by decide) (by decide) (by decide)) (h_nm (qne hq (by decide) (by decide) (by decide)) h_n0))))))) (hF 0 (by decide))
                | 1, _ => exact fr.at (h_nm (h_ne (hF 1 (by decide)) h0 (fun h => by cases h)) (h_nm (qne hq (by decide) (by decide) (by decide)) (h_nm (qne hq (by decide) (by decide) (by decide)) (h_nm (qne hq (by decide) (by decide) (by decide)) (h_nm (qne hq (by decide) (by decide) (by decide)) (h_nm (qne hq (by decide) (by decide) (by decide)) (h_nm (qne hq (by decide) (by decide) (by decide)) h_n0))))))) (hF 1 (by decide))
                | 2, _ => exact k9_4
                | 3, _ => exact k9_5
                | 4, _ => exact k9_6
                | 5, _ => exact k9_7
                | 6, _ => exact fr.at (h_nm (h_ne (hF 6 (by decide)) h0 (fun h => by cases h)) (h_nm (qne hq (by decide) (by decide) (by decide)) (h_nm (qne hq (by decide) (by decide) (by decide)) (h_nm (qne hq (by decide) (by decide) (by decide)) (h_nm (qne hq (by decide) (by decide) (by decide)) (h_nm (qne hq (by decide) (by decide) (by decide)) (h_nm (qne hq (by decide) (by decide) (by decide)) h_n0))))))) (hF 6 (by decide))
                | 7, _ => exact fr.at (h_nm (h_ne (hF 7 (by decide)) h0 (fun h => by cases h)) (h_nm (qne hq (by decide) (by decide) (by decide)) (h_nm (qne hq (by decide) (by decide) (by decide)) (h_nm (qne hq (by decide) (by decide) (by decide)) (h_nm (qne hq (by decide) (by decide) (by decide)) (h_nm (qne hq (by decide) (by decide) (by decide)) (h_nm (qne hq (by decide) (by decide) (by decide)) h_n0))))))) (hF 7 (by decide))
                | 8, _ => exact k9_2
                | 9, _ => exact k9_3
                | 10, _ => exact fr.at (h_nm (h_ne (hF 10 (by decide)) h0 (fun h => by cases h)) (h_nm (qne hq (by decide) (by decide) (by decide)) (h_nm (qne hq (by decide) (by decide) (by decide)) (h_nm (qne hq (by decide) (by decide) (by decide)) (h_nm (qne hq (by decide) (by decide) (by decide)) (h_nm (qne hq (by decide) (by decide) (by decide)) (h_nm (qne hq (by decide) (by decide) (by decide)) h_n0))))))) (hF 10 (by decide))
                | 11, _ => exact fr.at (h_nm (h_ne (hF 11 (by decide)) h0 (fun h => by cases h)) (h_nm (qne hq (by decide) (by decide) (by decide)) (h_nm (qne hq (by decide) (by decide) (by decide)) (h_nm (qne hq (by decide) (by decide) (by decide)) (h_nm (qne hq (by decide) (by decide) (by decide)) (h_nm (qne hq (by decide) (by decide) (by decide)) (h_nm (qne hq (by decide) (by decide) (by decide)) h_n0))))))) (hF 11 (by decide))
                | 12, _ => exact fr.at (h_nm (h_ne (hF 12 (by decide)) h0 (fun h => by cases h)) (h_nm (qne hq (by decide) (by decide) (by decide)) (h_nm (qne hq (by decide) (by decide) (by decide)) (h_nm (qne hq (by decide) (by decide) (by decide)) (h_nm (qne hq (by decide) (by decide) (by decide)) (h_nm (qne hq (by decide) (by decide) (by decide)) (h_nm (qne hq (by decide) (by decide) (by decide)) h_n0))))))) (hF 12 (by decide))
                | 13, _ => exact fr.at (h_nm (h_ne (hF 13 (by decide)) h0 (fun h => by cases h)) (h_nm (qne hq (by decide) (by decide) (by decide)) (h_nm (qne hq (by decide) (by decide) (by decide)) (h_nm (qne hq (by decide) (by decide) (by decide)) (h_nm (qne hq (by decide) (by decide) (by decide)) (h_nm (qne hq (by decide) (by decide) (by decide)) (h_nm (qne hq (by decide) (by decide) (by decide)) h_n0))))))) (hF 13 (by decide))
                | 14, _ => exact fr.at (h_nm (h_ne (hF 14 (by decide)) h0 (fun h => by cases h)) (h_nm (qne hq (by decide) (by decide) (by decide)) (h_nm (qne hq (by decide) (by decide) (by decide)) (h_nm (qne hq (by decide) (by decide) (by decide)) (h_nm (qne hq (by decide) (by decide) (by decide)) (h_nm (qne hq (by decide) (by decide) (by decide)) (h_nm (qne hq (by decide) (by decide) (by decide)) h_n0))))))) (hF 14 (by decide))
                | 15, _ => exact fr.at (h_nm (h_ne (hF 15 (by decide)) h0 (fun h => by cases h)) (h_nm (qne hq (by decide) (by decide) (by decide)) (h_nm (qne hq (by decide) (by decide) (by decide)) (h_nm (qne hq (by decide) (by decide) (by decide)) (h_nm (qne hq (by decide) (by decide) (by decide)) (h_nm (qne hq (by decide) (by decide) (by decide)) (h_nm (qne hq (by decide) (by decide) (by decide)) h_n0))))))) (hF 15 (by decide))
                | 16, _ => exact fr.at (h_nm (h_ne (hF 16 (by decide)) h0 (fun h => by cases h)) (h_nm (qne hq (by decide) (by decide) (by decide)) (h_nm (qne hq (by decide) (by decide) (by decide)) (h_nm (qne hq (by decide) (by decide) (by decide)) (h_nm (qne hq (by decide) (by decide) (by decide)) (h_nm (qne hq (by decide) (by decide) (by decide)) (h_nm (qne hq (by decide) (by decide) (by decide)) h_n0))))))) (hF 16 (by decide))
                | 17, _ => exact fr.at (h_nm (h_ne (hF 17 (by decide)) h0 (fun h => by cases h)) (h_nm (qne hq (by decide) (by decide) (by decide)) (h_nm (qne hq (by decide) (by decide) (by decide)) (h_nm (qne hq (by decide) (by decide) (by decide)) (h_nm (qne hq (by decide) (by decide) (by decide)) (h_nm (qne hq (by decide) (by decide) (by decide)) (h_nm (qne hq (by decide) (by decide) (by decide)) h_n0))))))) (hF 17 (by decide))
                | i + 18, h => omega
              have hrep : repM cI g_9 mm q (o_hunks (nI i) b S).1 (o_hunks (nI i) b S).2.2 := by rw [eop]; exact ⟨hq, hok, v3, v4, v14, v16, v17, v23, (fun i => match i with | 8 => F 8 | 9 => F 9 | 2 => F 2 | 3 => F 3 | 4 => F 4 | 5 => F 5 | i => F i), rm_, hF2, hR_, hA_, hB_, hH_, hC_, hZ_, hV_, hL_⟩
              have fr9 : hfr g g_9 (mS mm q) := fr.mono (by simp)
              exact hend _ _ _ _ _ _ _ _ (by decide) (by decide) rfl (⟨fr9, hrep, fun h9 => by rw [eop] at h9 ⊢; cases h9⟩) hg hS dMM_hunks_28
          · skip
            exact absurd hr_ (by decide)
  · skip
    obtain ⟨ho, hn_i⟩ := hp_2
    subst ho
    have e_i : ix a 6 = none := ix_none hn_i
    refine lv_if_eq (tgt := 15) S0.1 S0.2.1 dMM_hunks_5 (by decide) (fun c_5 => ?_) (fun c_5 => ?_)
    · skip
      rw [← nI_0] at c_5
      have c_5 : 0 = 0 := (nI_eq (by omega) (by omega)).mp c_5
      refine lv_iconst (v := nI 1) S0.1 S0.2.1 dMM_hunks_15 (by decide) ?_
      refine lv_goto (tgt := 20) S0.1 S0.2.1 dMM_hunks_16 (by decide) ?_
      refine lv_iconst (v := nI 0) S0.1 S0.2.1 dMM_hunks_20 (by decide) ?_
      refine hw_Vi (As := [.int (nI 1), .int (nI 0)]) (rest := []) S0 hK hg hS hA0 h0 rfl (c_MM_refuse l D cI cR cJ g _ mm q hq (nI t) v3 v4 (nI S.2.1.length) (nI S.2.2.1.length) v14 v16 v17 (nI S.2.2.2.1.length) v23 (nI S.2.2.2.2.1.length) 1 0 (by decide) (by decide) h0) kMM_refuse lm_MM_72 (hR.call rfl) rfl hl.1 rfl (Nat.le_of_ble_eq_true rfl) dMM_hunks_21 (hR.new (by decide) (by decide)) (fun r_21 g_10 H locs hp_21 hg hS => ?_)
      obtain ⟨frr, rm_, hp_21⟩ := hp_21
      have rm_ : g_10 mm = some (mmC q (nI 1) v3 v4 (nI S.2.1.length) (nI S.2.2.1.length) v14 v16 v17 (nI S.2.2.2.1.length) v23 (nI S.2.2.2.2.1.length)) := rm_
      have k10_0 := frr.at (h_nm (h_ne hsizes h0 (fun h => by cases h)) h_n0) hsizes
      have k10_1 := frr.at (h_nm (h_ne hlines h0 (fun h => by cases h)) h_n0) hlines
      have k10_2 := frr.at (h_nm (h_ne hhunk h0 (fun h => by cases h)) h_n0) hhunk
      have k10_3 := frr.at (h_nm (h_ne hpart h0 (fun h => by cases h)) h_n0) hpart
      have k10_4 := frr.at (h_nm (h_ne hx h0 (fun h => by cases h)) h_n0) hx
      have k10_5 := frr.at (h_nm (h_ne hy h0 (fun h => by cases h)) h_n0) hy
      have k10_6 := frr.at (h_nm (h_ne hbest h0 (fun h => by cases h)) h_n0) hbest
      have k10_7 := frr.at (h_nm (h_ne hpartner h0 (fun h => by cases h)) h_n0) hpartner
      have fr := fr.call frr (by simp)
      rcases hp_21 with ⟨ho, hr_⟩ | ⟨ho, hr_⟩
      · skip
        subst ho
        refine lv_if_eq (tgt := 29) S0.1 S0.2.1 dMM_hunks_24 (by decide) (fun c_24 => ?_) (fun c_24 => ?_)
        · skip
          rw [← nI_0] at c_24
          have c_24 : 1 = 0 := (nI_eq (by omega) (by omega)).mp c_24
          exact absurd c_24 (by decide)
        · skip
          rw [← nI_0] at c_24
          have c_24 : ¬ (1 = 0) := fun h => c_24 ((nI_eq (by omega) (by omega)).mpr h)
          refine lv_iconst (v := nI 0) S0.1 S0.2.1 dMM_hunks_27 (by decide) ?_
          have eop : o_hunks a b S = (1, 0, S) := by unfold o_hunks; rw [e_i]
          have hF2 : ∀ i, i < 18 → g_10 (q i) = some (.inl (cI, mSz i, .inl ((fun i => match i with | 8 => F 8 | 9 => F 9 | 2 => F 2 | 3 => F 3 | 4 => F 4 | 5 => F 5 | i => F i) i))) := by
            intro i hi
            match i, hi with
            | 0, _ => exact fr.at (h_nm (h_ne (hF 0 (by decide)) h0 (fun h => by cases h)) (h_nm (qne hq (by decide) (by decide) (by decide)) (h_nm (qne hq (by decide) (by decide) (by decide)) (h_nm (qne hq (by decide) (by decide) (by decide)) (h_nm (qne hq (by decide) (by decide) (by decide)) (h_nm (qne hq (by decide) (by decide) (by decide)) (h_nm (qne hq (by decide) (by decide) (by decide)) h_n0))))))) (hF 0 (by decide))
            | 1, _ => exact fr.at (h_nm (h_ne (hF 1 (by decide)) h0 (fun h => by cases h)) (h_nm (qne hq (by decide) (by decide) (by decide)) (h_nm (qne hq (by decide) (by decide) (by decide)) (h_nm (qne hq (by decide) (by decide) (by decide)) (h_nm (qne hq (by decide) (by decide) (by decide)) (h_nm (qne hq (by decide) (by decide) (by decide)) (h_nm (qne hq (by decide) (by decide) (by decide)) h_n0))))))) (hF 1 (by decide))
            | 2, _ => exact k10_4
            | 3, _ => exact k10_5
            | 4, _ => exact k10_6
            | 5, _ => exact k10_7
            | 6, _ => exact fr.at (h_nm (h_ne (hF 6 (by decide)) h0 (fun h => by cases h)) (h_nm (qne hq (by decide) (by decide) (by decide)) (h_nm (qne hq (by decide) (by decide) (by decide)) (h_nm (qne hq (by decide) (by decide) (by decide)) (h_nm (qne hq (by decide) (by decide) (by decide)) (h_nm (qne hq (by decide) (by decide) (by decide)) (h_nm (qne hq (by decide) (by decide) (by decide)) h_n0))))))) (hF 6 (by decide))
            | 7, _ => exact fr.at (h_nm (h_ne (hF 7 (by decide)) h0 (fun h => by cases h)) (h_nm (qne hq (by decide) (by decide) (by decide)) (h_nm (qne hq (by decide) (by decide) (by decide)) (h_nm (qne hq (by decide) (by decide) (by decide)) (h_nm (qne hq (by decide) (by decide) (by decide)) (h_nm (qne hq (by decide) (by decide) (by decide)) (h_nm (qne hq (by decide) (by decide) (by decide)) h_n0))))))) (hF 7 (by decide))
            | 8, _ => exact k10_2
            | 9, _ => exact k10_3
            | 10, _ => exact fr.at (h_nm (h_ne (hF 10 (by decide)) h0 (fun h => by cases h)) (h_nm (qne hq (by decide) (by decide) (by decide)) (h_nm (qne hq (by decide) (by decide) (by decide)) (h_nm (qne hq (by decide) (by decide) (by decide)) (h_nm (qne hq (by decide) (by decide) (by decide)) (h_nm (qne hq (by decide) (by decide) (by decide)) (h_nm (qne hq (by decide) (by decide) (by decide)) h_n0))))))) (hF 10 (by decide))
            | 11, _ => exact fr.at (h_nm (h_ne (hF 11 (by decide)) h0 (fun h => by cases h)) (h_nm (qne hq (by decide) (by decide) (by decide)) (h_nm (qne hq (by decide) (by decide) (by decide)) (h_nm (qne hq (by decide) (by decide) (by decide)) (h_nm (qne hq (by decide) (by decide) (by decide)) (h_nm (qne hq (by decide) (by decide) (by decide)) (h_nm (qne hq (by decide) (by decide) (by decide)) h_n0))))))) (hF 11 (by decide))
            | 12, _ => exact fr.at (h_nm (h_ne (hF 12 (by decide)) h0 (fun h => by cases h)) (h_nm (qne hq (by decide) (by decide) (by decide)) (h_nm (qne hq (by decide) (by decide) (by decide)) (h_nm (qne hq (by decide) (by decide) (by decide)) (h_nm (qne hq (by decide) (by decide) (by decide)) (h_nm (qne hq (by decide) (by decide) (by decide)) (h_nm (qne hq (by decide) (by decide) (by decide)) h_n0))))))) (hF 12 (by decide))
            | 13, _ => exact fr.at (h_nm (h_ne (hF 13 (by decide)) h0 (fun h => by cases h)) (h_nm (qne hq (by decide) (by decide) (by decide)) (h_nm (qne hq (by decide) (by decide) (by decide)) (h_nm (qne hq (by decide) (by decide) (by decide)) (h_nm (qne hq (by decide) (by decide) (by decide)) (h_nm (qne hq (by decide) (by decide) (by decide)) (h_nm (qne hq (by decide) (by decide) (by decide)) h_n0))))))) (hF 13 (by decide))
            | 14, _ => exact fr.at (h_nm (h_ne (hF 14 (by decide)) h0 (fun h => by cases h)) (h_nm (qne hq (by decide) (by decide) (by decide)) (h_nm (qne hq (by decide) (by decide) (by decide)) (h_nm (qne hq (by decide) (by decide) (by decide)) (h_nm (qne hq (by decide) (by decide) (by decide)) (h_nm (qne hq (by decide) (by decide) (by decide)) (h_nm (qne hq (by decide) (by decide) (by decide)) h_n0))))))) (hF 14 (by decide))
            | 15, _ => exact fr.at (h_nm (h_ne (hF 15 (by decide)) h0 (fun h => by cases h)) (h_nm (qne hq (by decide) (by decide) (by decide)) (h_nm (qne hq (by decide) (by decide) (by decide)) (h_nm (qne hq (by decide) (by decide) (by decide)) (h_nm (qne hq (by decide) (by decide) (by decide)) (h_nm (qne hq (by decide) (by decide) (by decide)) (h_nm (qne hq (by decide) (by decide) (by decide)) h_n0))))))) (hF 15 (by decide))
            | 16, _ => exact fr.at (h_nm (h_ne (hF 16 (by decide)) h0 (fun h => by cases h)) (h_nm (qne hq (by decide) (by decide) (by decide)) (h_nm (qne hq (by decide) (by decide) (by decide)) (h_nm (qne hq (by decide) (by decide) (by decide)) (h_nm (qne hq (by decide) (by decide) (by decide)) (h_nm (qne hq (by decide) (by decide) (by decide)) (h_nm (qne hq (by decide) (by decide) (by decide)) h_n0))))))) (hF 16 (by decide))
            | 17, _ => exact fr.at (h_nm (h_ne (hF 17 (by decide)) h0 (fun h => by cases h)) (h_nm (qne hq (by decide) (by decide) (by decide)) (h_nm (qne hq (by decide) (by decide) (by decide)) (h_nm (qne hq (by decide) (by decide) (by decide)) (h_nm (qne hq (by decide) (by decide) (by decide)) (h_nm (qne hq (by decide) (by decide) (by decide)) (h_nm (qne hq (by decide) (by decide) (by decide)) h_n0))))))) (hF 17 (by decide))
            | i + 18, h => omega
          have hrep : repM cI g_10 mm q (o_hunks a b S).1 (o_hunks a b S).2.2 := by rw [eop]; exact ⟨hq, hok, v3, v4, v14, v16, v17, v23, (fun i => match i with | 8 => F 8 | 9 => F 9 | 2 => F 2 | 3 => F 3 | 4 => F 4 | 5 => F 5 | i => F i), rm_, hF2, hR_, hA_, hB_, hH_, hC_, hZ_, hV_, hL_⟩
          have fr9 : hfr g g_10 (mS mm q) := fr.mono (by simp)
          exact hend _ _ _ _ _ _ _ _ (by decide) (by decide) rfl (⟨fr9, hrep, fun h9 => by rw [eop] at h9 ⊢; cases h9⟩) hg hS dMM_hunks_28
      · skip
        exact absurd hr_ (by decide)
    · skip
      rw [← nI_0] at c_5
      have c_5 : ¬ (0 = 0) := fun h => c_5 ((nI_eq (by omega) (by omega)).mpr h)
      exact absurd c_5 (by decide)
theorem rpVm_snoc {f f1 : Nat → Int32} {vs : List (List Nat)} {o : List Nat} (h : rpVm f vs) (hl : ∀ v, v < vs.length → (vs.getD v []).length ≤ 60) (h1 : ∀ q, q < 60 * vs.length → f1 q = f q) (h2 : ∀ k, k < o.length → f1 (60 * vs.length + k) = nI (o.getD k 0)) : rpVm f1 (vs ++ [o]) := by
  intro v k hv hk
  rw [List.length_append, List.length_singleton] at hv
  rcases Nat.lt_or_ge v vs.length with h9 | h9
  · rw [vgetD_l h9] at hk ⊢
    have h60 := hl v h9
    rw [h1 _ (by omega)]
    exact h v k h9 hk
  · have e : v = vs.length := by omega
    subst e
    rw [vgetD_r] at hk ⊢
    exact h2 k hk
set_option maxRecDepth 100000 in
set_option maxHeartbeats 4000000 in
theorem c_MM_commit (l : Launch) (D : va_G) (cI cR cJ : ClassId) (g : Nat → Option va_E) (sz : Nat) (mm : Nat) (q : Nat → Nat) (t : Nat) (S : ST) (r : Int32) (HM : repM cI g mm q t S) : hMi l yMM_commit cMM_commit 5 .int (hRm 3 100 0 0) D (hT cI cR cJ) g sz [.ref mm, .int r] (fun o g1 => hfr g g1 (mS mm q) ∧ repM cI g1 mm q (o_commit r S).1 (o_commit r S).2.2 ∧ ((o_commit r S).1 = 0 → o = (o_commit r S).2.1)) := by
  refine hMi_of (by decide +kernel) (Nat.le_of_ble_eq_true rfl) ?_
  intro pX eX RX sX mX argsX belowX methX cX QX AX hR S0 hnm hsz hg hK hS hA0 hend ls hl
  have hl : lv_has ls 5 [(0, .ref mm), (1, .int r)] := hl
  obtain ⟨hq, hok, v3, v4, v14, v16, v17, v23, F, h0, hF, hR_, hA_, hB_, hH_, hC_, hZ_, hV_, hL_⟩ := HM
  have hsizes : g (q 0) = some (.inl (cI, 6, .inl (F 0))) := hF 0 (by decide)
  have hlines : g (q 1) = some (.inl (cI, 360, .inl (F 1))) := hF 1 (by decide)
  have hversionSizes : g (q 15) = some (.inl (cI, 30, .inl (F 15))) := hF 15 (by decide)
  have hversionLines : g (q 16) = some (.inl (cI, 1800, .inl (F 16))) := hF 16 (by decide)
  have horigins : g (q 17) = some (.inl (cI, 1800, .inl (F 17))) := hF 17 (by decide)
  have hx : g (q 2) = some (.inl (cI, 60, .inl (F 2))) := hF 2 (by decide)
  have hy : g (q 3) = some (.inl (cI, 60, .inl (F 3))) := hF 3 (by decide)
  have hbest : g (q 4) = some (.inl (cI, 3721, .inl (F 4))) := hF 4 (by decide)
  have hpartner : g (q 5) = some (.inl (cI, 60, .inl (F 5))) := hF 5 (by decide)
  have fr : hfr g g [mm, q 15, q 16, q 17, q 2, q 3, q 4, q 5] := hfr.rf
  obtain ⟨w1, w2, w3, w4, w5⟩ := id hok.2.2.2.2
  refine lv_iload_n S0.1 S0.2.1 dMM_commit_0 rfl (lv_at hl 1 rfl) ?_
  refine hw_Si (As := [.int r]) (rest := []) S0 hK hg hS hA0 (c_MM_isRow l D cI cR cJ g _ r) kMM_isRow lm_MM_68 (hR.call rfl) rfl hl.1 rfl (Nat.le_of_ble_eq_true rfl) dMM_commit_1 (hR.new (by decide) (by decide)) (fun r_1 g_1 H locs hp_1 hg hS => ?_)
  rw [hp_1.1] at hg
  replace hp_1 := hp_1.2
  rcases hp_1 with hp_1 | hp_1
  · skip
    obtain ⟨ho, k, hk_k, rfl⟩ := hp_1
    subst ho
    have e_k : ix (nI k) 6 = some k := ix_some hk_k (by decide)
    refine lv_istore_n (lv' := [(2, .int (nI 1)), (0, .ref mm), (1, .int (nI k))]) S0.1 S0.2.1 dMM_commit_4 rfl hl (by decide) rfl (fun ls hl => ?_)
    refine lv_aload_n S0.1 S0.2.1 dMM_commit_5 rfl (lv_at hl 1 rfl) ?_
    refine lv_iload_n S0.1 S0.2.1 dMM_commit_6 rfl (lv_at hl 0 rfl) ?_
    refine lv_if_ne (tgt := 14) S0.1 S0.2.1 dMM_commit_7 (by decide) (fun c_7 => ?_) (fun c_7 => ?_)
    · skip
      rw [← nI_0] at c_7
      have c_7 : ¬ (1 = 0) := fun h => c_7 ((nI_eq (by omega) (by omega)).mpr h)
      refine lv_iconst (v := nI 0) S0.1 S0.2.1 dMM_commit_14 (by decide) ?_
      refine lv_iload_n S0.1 S0.2.1 dMM_commit_15 rfl (lv_at hl 0 rfl) ?_
      refine lv_if_eq (tgt := 32) S0.1 S0.2.1 dMM_commit_16 (by decide) (fun c_16 => ?_) (fun c_16 => ?_)
      · skip
        rw [← nI_0] at c_16
        have c_16 : 1 = 0 := (nI_eq (by omega) (by omega)).mp c_16
        exact absurd c_16 (by decide)
      · skip
        rw [← nI_0] at c_16
        have c_16 : ¬ (1 = 0) := fun h => c_16 ((nI_eq (by omega) (by omega)).mpr h)
        refine lv_aload_n S0.1 S0.2.1 dMM_commit_19 rfl (lv_at hl 1 rfl) ?_
        refine hw_get S0 hK hg h0 rfl inMM 25 (by decide) lf_MM_152 rfl rfl dMM_commit_20 ?_
        refine lv_bipush (v := nI 30) S0.1 S0.2.1 dMM_commit_23 (by decide) ?_
        refine lv_icmp_ne (tgt := 32) S0.1 S0.2.1 dMM_commit_25 (by decide) (fun c_25 => ?_) (fun c_25 => ?_)
        · skip
          have c_25 : ¬ (S.2.2.2.2.1.length = 30) := fun h => c_25 ((nI_eq (by omega) (by omega)).mpr h)
          refine lv_iconst (v := nI 0) S0.1 S0.2.1 dMM_commit_32 (by decide) ?_
          refine hw_Vi (As := [.int (nI 0), .int (nI 0)]) (rest := []) S0 hK hg hS hA0 h0 rfl (c_MM_refuse l D cI cR cJ g _ mm q hq (nI t) v3 v4 (nI S.2.1.length) (nI S.2.2.1.length) v14 v16 v17 (nI S.2.2.2.1.length) v23 (nI S.2.2.2.2.1.length) 0 0 (by decide) (by decide) h0) kMM_refuse lm_MM_72 (hR.call rfl) rfl hl.1 rfl (Nat.le_of_ble_eq_true rfl) dMM_commit_33 (hR.new (by decide) (by decide)) (fun r_33 g_2 H locs hp_33 hg hS => ?_)
          obtain ⟨frr, rm_, hp_33⟩ := hp_33
          have rm_ : g_2 mm = some (mmC q (nI 0) v3 v4 (nI S.2.1.length) (nI S.2.2.1.length) v14 v16 v17 (nI S.2.2.2.1.length) v23 (nI S.2.2.2.2.1.length)) := rm_
          have k2_0 := frr.at (h_nm (h_ne hsizes h0 (fun h => by cases h)) h_n0) hsizes
          have k2_1 := frr.at (h_nm (h_ne hlines h0 (fun h => by cases h)) h_n0) hlines
          have k2_2 := frr.at (h_nm (h_ne hversionSizes h0 (fun h => by cases h)) h_n0) hversionSizes
          have k2_3 := frr.at (h_nm (h_ne hversionLines h0 (fun h => by cases h)) h_n0) hversionLines
          have k2_4 := frr.at (h_nm (h_ne horigins h0 (fun h => by cases h)) h_n0) horigins
          have k2_5 := frr.at (h_nm (h_ne hx h0 (fun h => by cases h)) h_n0) hx
          have k2_6 := frr.at (h_nm (h_ne hy h0 (fun h => by cases h)) h_n0) hy
          have k2_7 := frr.at (h_nm (h_ne hbest h0 (fun h => by cases h)) h_n0) hbest
          have k2_8 := frr.at (h_nm (h_ne hpartner h0 (fun h => by cases h)) h_n0) hpartner
          have fr := fr.call frr (by simp)
          rcases hp_33 with ⟨ho, hr_⟩ | ⟨ho, hr_⟩
          · skip
            exact absurd hr_ (by decide)
          · skip
            subst ho
            refine lv_if_eq (tgt := 41) S0.1 S0.2.1 dMM_commit_36 (by decide) (fun c_36 => ?_) (fun c_36 => ?_)
            · skip
              rw [← nI_0] at c_36
              have c_36 : 0 = 0 := (nI_eq (by omega) (by omega)).mp c_36
              have hnx := hok.1 k hk_k
              obtain ⟨t1, t2, t3⟩ := hR_ k hk_k
              refine lv_bipush (v := nI 60) S0.1 S0.2.1 dMM_commit_41 (by decide) ?_
              refine lv_aload_n S0.1 S0.2.1 dMM_commit_43 rfl (lv_at hl 1 rfl) ?_
              refine hw_get S0 hK hg rm_ rfl inMM 25 (by decide) lf_MM_152 rfl rfl dMM_commit_44 ?_
              refine lv_imul S0.1 S0.2.1 dMM_commit_47 ?_
              refine hw_top (nI (60 * S.2.2.2.2.1.length)) (pk_mul _ _) ?_
              refine lv_istore_n (lv' := [(3, .int (nI (60 * S.2.2.2.2.1.length))), (2, .int (nI 1)), (0, .ref mm), (1, .int (nI k))]) S0.1 S0.2.1 dMM_commit_48 rfl hl (by decide) rfl (fun ls hl => ?_)
              refine lv_aload_n S0.1 S0.2.1 dMM_commit_49 rfl (lv_at hl 2 rfl) ?_
              refine hw_get S0 hK hg rm_ rfl inMM 26 (by decide) lf_MM_55 rfl rfl dMM_commit_50 ?_
              refine lv_aload_n S0.1 S0.2.1 dMM_commit_53 rfl (lv_at hl 2 rfl) ?_
              refine hw_get S0 hK hg rm_ rfl inMM 25 (by decide) lf_MM_152 rfl rfl dMM_commit_54 ?_
              refine lv_aload_n S0.1 S0.2.1 dMM_commit_57 rfl (lv_at hl 2 rfl) ?_
              refine hw_get S0 hK hg rm_ rfl inMM 1 (by decide) lf_MM_7 rfl rfl dMM_commit_58 ?_
              refine lv_iload_n S0.1 S0.2.1 dMM_commit_61 rfl (lv_at hl 3 rfl) ?_
              refine hw_iald S0 hK hg k2_0 0 rfl (by omega) (by omega) dMM_commit_62 ?_
              refine hw_top (nI ((S.1 k).length)) t1 ?_
              refine hw_iast S0 hK hg hS k2_2 0 rfl (by omega) (by omega) dMM_commit_63 (fun H locs hg hS => ?_)
              obtain ⟨g_3, eg_3⟩ : ∃ z, z = hs g_2 (q 15) (.inl (cI, 30, .inl (upd (F 15) S.2.2.2.2.1.length (nI ((S.1 k).length))))) := ⟨_, rfl⟩
              have hg : hw D hC AX g_3 H := by rw [eg_3]; exact hg
              have f3_0 : g_3 (q 0) = some (.inl (cI, 6, .inl (F 0))) := by rw [eg_3, hs_n _ _ (qne hq (by decide) (by decide) (by decide))]; exact k2_0
              have f3_1 : g_3 (q 1) = some (.inl (cI, 360, .inl (F 1))) := by rw [eg_3, hs_n _ _ (qne hq (by decide) (by decide) (by decide))]; exact k2_1
              have f3_2 : g_3 (q 16) = some (.inl (cI, 1800, .inl (F 16))) := by rw [eg_3, hs_n _ _ (qne hq (by decide) (by decide) (by decide))]; exact k2_3
              have f3_3 : g_3 (q 17) = some (.inl (cI, 1800, .inl (F 17))) := by rw [eg_3, hs_n _ _ (qne hq (by decide) (by decide) (by decide))]; exact k2_4
              have f3_4 : g_3 (q 2) = some (.inl (cI, 60, .inl (F 2))) := by rw [eg_3, hs_n _ _ (qne hq (by decide) (by decide) (by decide))]; exact k2_5
              have f3_5 : g_3 (q 3) = some (.inl (cI, 60, .inl (F 3))) := by rw [eg_3, hs_n _ _ (qne hq (by decide) (by decide) (by decide))]; exact k2_6
              have f3_6 : g_3 (q 4) = some (.inl (cI, 3721, .inl (F 4))) := by rw [eg_3, hs_n _ _ (qne hq (by decide) (by decide) (by decide))]; exact k2_7
              have f3_7 : g_3 (q 5) = some (.inl (cI, 60, .inl (F 5))) := by rw [eg_3, hs_n _ _ (qne hq (by decide) (by decide) (by decide))]; exact k2_8
              have f3_8 : g_3 mm = some (mmC q (nI 0) v3 v4 (nI S.2.1.length) (nI S.2.2.1.length) v14 v16 v17 (nI S.2.2.2.1.length) v23 (nI S.2.2.2.2.1.length)) := by rw [eg_3, hs_n _ _ (h_ne rm_ k2_2 (fun h => by cases h))]; exact rm_
              have f3_9 : g_3 (q 15) = some (.inl (cI, 30, .inl (upd (F 15) S.2.2.2.2.1.length (nI ((S.1 k).length))))) := by rw [eg_3]; exact hs_s _ _ _
              have fr := fr.put eg_3 (by simp)
              refine lv_iconst (v := nI 0) S0.1 S0.2.1 dMM_commit_64 (by decide) ?_
              refine lv_istore (lv' := [(4, .int (nI 0)), (3, .int (nI (60 * S.2.2.2.2.1.length))), (2, .int (nI 1)), (0, .ref mm), (1, .int (nI k))]) S0.1 S0.2.1 dMM_commit_65 hl (by decide) rfl (fun ls hl => ?_)
              have loop_67 : ∀ (n_67 : Nat) (x : Nat) (fV : Nat → Int32) (fO : Nat → Int32) (gl : Nat → Option va_E) (H : Heap) (locs : List Loc) (ls : Array Slot), (S.1 k).length - x < n_67 → (x ≤ (S.1 k).length) → (∀ y, y < x → fV (60 * S.2.2.2.2.1.length + y) = (S.1 k).getD y 0) → (∀ y, y < 60 * S.2.2.2.2.1.length → fV y = F 16 y) → (∀ y, y < x → fO (60 * S.2.2.2.2.1.length + y) = nI S.2.2.2.2.1.length) → (∀ y, y < 60 * S.2.2.2.2.1.length → fO y = F 17 y) → (hfr g gl [mm, q 15, q 16, q 17, q 2, q 3, q 4, q 5]) → (gl (q 16) = some (.inl (cI, 1800, .inl fV))) → (gl (q 17) = some (.inl (cI, 1800, .inl fO))) → (gl (q 2) = some (.inl (cI, 60, .inl (F 2)))) → (gl (q 3) = some (.inl (cI, 60, .inl (F 3)))) → (gl (q 4) = some (.inl (cI, 3721, .inl (F 4)))) → (gl (q 5) = some (.inl (cI, 60, .inl (F 5)))) → (gl mm = some (mmC q (nI 0) v3 v4 (nI S.2.1.length) (nI S.2.2.1.length) v14 v16 v17 (nI S.2.2.2.1.length) v23 (nI S.2.2.2.2.1.length))) → (gl (q 15) = some (.inl (cI, 30, .inl (upd (F 15) S.2.2.2.2.1.length (nI ((S.1 k).length)))))) → hw D hC AX gl H → va_S AX sX.heap H locs → lv_has ls 5 [(0, .ref mm), (1, .int (nI k)), (3, .int (nI (60 * S.2.2.2.2.1.length))), (4, .int (nI x))] → W pX l eX RX sX mX argsX belowX methX cX H locs 0 0 QX (F0 mX 67 ls []) := by
                intro n_67
                induction n_67 with
                | zero => intros; omega
                | succ n_67 ih_67 =>
                  intro x fV fO gl H locs ls hm_67 hx hV1 hV2 hO1 hO2 fr l67_q16 l67_q17 l67_q2 l67_q3 l67_q4 l67_q5 l67_mm l67_q15 hg hS hl
                  have q67_q0 := fr.at (h_nm (h_ne f3_0 f3_8 (fun h => by cases h)) (h_nm (qne hq (by decide) (by decide) (by decide)) (h_nm (qne hq (by decide) (by decide) (by decide)) (h_nm (qne hq (by decide) (by decide) (by decide)) (h_nm (qne hq (by decide) (by decide) (by decide)) (h_nm (qne hq (by decide) (by decide) (by decide)) (h_nm (qne hq (by decide) (by decide) (by decide)) (h_nm (qne hq (by decide) (by decide) (by decide)) h_n0)))))))) hsizes
                  have q67_q1 := fr.at (h_nm (h_ne f3_1 f3_8 (fun h => by cases h)) (h_nm (qne hq (by decide) (by decide) (by decide)) (h_nm (qne hq (by decide) (by decide) (by decide)) (h_nm (qne hq (by decide) (by decide) (by decide)) (h_nm (qne hq (by decide) (by decide) (by decide)) (h_nm (qne hq (by decide) (by decide) (by decide)) (h_nm (qne hq (by decide) (by decide) (by decide)) (h_nm (qne hq (by decide) (by decide) (by decide)) h_n0)))))))) hlines
                  refine lv_iload S0.1 S0.2.1 dMM_commit_67 (lv_at hl 3 rfl) ?_
                  refine lv_aload_n S0.1 S0.2.1 dMM_commit_69 rfl (lv_at hl 0 rfl) ?_
                  refine hw_get S0 hK hg l67_mm rfl inMM 1 (by decide) lf_MM_7 rfl rfl dMM_commit_70 ?_
                  refine lv_iload_n S0.1 S0.2.1 dMM_commit_73 rfl (lv_at hl 1 rfl) ?_
                  refine hw_iald S0 hK hg q67_q0 0 rfl (by omega) (by omega) dMM_commit_74 ?_
                  refine hw_top (nI ((S.1 k).length)) t1 ?_
                  refine lv_icmp_ge (tgt := 118) S0.1 S0.2.1 dMM_commit_75 (by decide) (fun c_75 => ?_) (fun c_75 => ?_)
                  · skip
                    have c_75 : ((S.1 k).length) ≤ x := (nI_leI (by omega) (by omega)).mp c_75
                    refine lv_aload_n S0.1 S0.2.1 dMM_commit_118 rfl (lv_at hl 0 rfl) ?_
                    refine hw_get S0 hK hg l67_mm rfl inMM 25 (by decide) lf_MM_152 rfl rfl dMM_commit_119 ?_
                    refine lv_if_le (tgt := 221) S0.1 S0.2.1 dMM_commit_122 (by decide) (fun c_122 => ?_) (fun c_122 => ?_)
                    · skip
                      rw [← nI_0] at c_122
                      have c_122 : S.2.2.2.2.1.length ≤ 0 := (nI_leI (by omega) (by omega)).mp c_122
                      have e0 : S.2.2.2.2.1.length = 0 := by omega
                      have enw := w4 e0
                      have hO3 : ∀ y, y < (S.1 k).length → fO (60 * S.2.2.2.2.1.length + y) = nI ((orig S.2.2.2.2.1 S.2.2.2.2.2 (S.1 k)).getD y 0) := fun y h => by rw [show orig S.2.2.2.2.1 S.2.2.2.2.2 (S.1 k) = List.replicate (S.1 k).length S.2.2.2.2.1.length by rw [enw]; rfl, getD_rep h]; exact hO1 y (by omega)
                      refine lv_aload_n S0.1 S0.2.1 dMM_commit_221 rfl (lv_at hl 0 rfl) ?_
                      refine lv_dup S0.1 S0.2.1 dMM_commit_222 rfl ?_
                      refine hw_get S0 hK hg l67_mm rfl inMM 25 (by decide) lf_MM_152 rfl rfl dMM_commit_223 ?_
                      refine lv_iconst (v := nI 1) S0.1 S0.2.1 dMM_commit_226 (by decide) ?_
                      refine lv_iadd S0.1 S0.2.1 dMM_commit_227 ?_
                      refine hw_top (nI (S.2.2.2.2.1.length + 1)) (nI_add _ _) ?_
                      refine hw_put S0 hK hg hS l67_mm rfl inMM tyMM tokMM nmMM 25 (by decide) lf_MM_152 rfl rfl rfl rfl (Nat.le_of_ble_eq_true rfl) dMM_commit_228 (fun H locs hg hS => ?_)
                      obtain ⟨g_4, eg_4⟩ : ∃ z, z = hs gl mm (mmC q (nI 0) v3 v4 (nI S.2.1.length) (nI S.2.2.1.length) v14 v16 v17 (nI S.2.2.2.1.length) v23 (nI (S.2.2.2.2.1.length + 1))) := ⟨_, rfl⟩
                      have hg : hw D hC AX g_4 H := by rw [eg_4]; exact hg
                      have f4_0 : g_4 (q 0) = some (.inl (cI, 6, .inl (F 0))) := by rw [eg_4, hs_n _ _ (h_ne q67_q0 l67_mm (fun h => by cases h))]; exact q67_q0
                      have f4_1 : g_4 (q 1) = some (.inl (cI, 360, .inl (F 1))) := by rw [eg_4, hs_n _ _ (h_ne q67_q1 l67_mm (fun h => by cases h))]; exact q67_q1
                      have f4_2 : g_4 (q 16) = some (.inl (cI, 1800, .inl fV)) := by rw [eg_4, hs_n _ _ (h_ne l67_q16 l67_mm (fun h => by cases h))]; exact l67_q16
                      have f4_3 : g_4 (q 17) = some (.inl (cI, 1800, .inl fO)) := by rw [eg_4, hs_n _ _ (h_ne l67_q17 l67_mm (fun h => by cases h))]; exact l67_q17
                      have f4_4 : g_4 (q 2) = some (.inl (cI, 60, .inl (F 2))) := by rw [eg_4, hs_n _ _ (h_ne l67_q2 l67_mm (fun h => by cases h))]; exact l67_q2
                      have f4_5 : g_4 (q 3) = some (.inl (cI, 60, .inl (F 3))) := by rw [eg_4, hs_n _ _ (h_ne l67_q3 l67_mm (fun h => by cases h))]; exact l67_q3
                      have f4_6 : g_4 (q 4) = some (.inl (cI, 3721, .inl (F 4))) := by rw [eg_4, hs_n _ _ (h_ne l67_q4 l67_mm (fun h => by cases h))]; exact l67_q4
                      have f4_7 : g_4 (q 5) = some (.inl (cI, 60, .inl (F 5))) := by rw [eg_4, hs_n _ _ (h_ne l67_q5 l67_mm (fun h => by cases h))]; exact l67_q5
                      have f4_8 : g_4 (q 15) = some (.inl (cI, 30, .inl (upd (F 15) S.2.2.2.2.1.length (nI ((S.1 k).length))))) := by rw [eg_4, hs_n _ _ (h_ne l67_q15 l67_mm (fun h => by cases h))]; exact l67_q15
                      have f4_9 : g_4 mm = some (mmC q (nI 0) v3 v4 (nI S.2.1.length) (nI S.2.2.1.length) v14 v16 v17 (nI S.2.2.2.1.length) v23 (nI (S.2.2.2.2.1.length + 1))) := by rw [eg_4]; exact hs_s _ _ _
                      have fr := fr.put eg_4 (by simp)
                      refine lv_aload_n S0.1 S0.2.1 dMM_commit_231 rfl (lv_at hl 0 rfl) ?_
                      refine hw_get S0 hK hg f4_9 rfl inMM 25 (by decide) lf_MM_152 rfl rfl dMM_commit_232 ?_
                      refine lv_iconst (v := nI 1) S0.1 S0.2.1 dMM_commit_235 (by decide) ?_
                      refine lv_isub S0.1 S0.2.1 dMM_commit_236 ?_
                      refine hw_top (nI ((S.2.2.2.2.1.length + 1) - 1)) (pk_sub (by omega)) ?_
                      have eop : o_commit (nI k) S = (0, nI S.2.2.2.2.1.length, (S.1, S.2.1, S.2.2.1, S.2.2.2.1, S.2.2.2.2.1 ++ [(orig S.2.2.2.2.1 S.2.2.2.2.2 (S.1 k))], (S.1 k))) := by unfold o_commit; rw [e_k]; exact if_pos (by omega)
                      have elen : (S.2.2.2.2.1 ++ [(orig S.2.2.2.2.1 S.2.2.2.2.2 (S.1 k))]).length = S.2.2.2.2.1.length + 1 := by rw [List.length_append]; rfl
                      have hm9 : g_4 mm = some (mmC q (nI 0) v3 v4 (nI S.2.1.length) (nI S.2.2.1.length) v14 v16 v17 (nI S.2.2.2.1.length) v23 (nI ((S.2.2.2.2.1 ++ [(orig S.2.2.2.2.1 S.2.2.2.2.2 (S.1 k))]).length))) := by rw [elen]; exact f4_9
                      have hZ2 : rpS (upd (F 15) S.2.2.2.2.1.length (nI ((S.1 k).length))) (S.2.2.2.2.1 ++ [(orig S.2.2.2.2.1 S.2.2.2.2.2 (S.1 k))]) := by have h8 := rpS_snoc (o := (orig S.2.2.2.2.1 S.2.2.2.2.2 (S.1 k))) hZ_; rw [orig_len] at h8; exact h8
                      have hV9 : rpVm fO (S.2.2.2.2.1 ++ [(orig S.2.2.2.2.1 S.2.2.2.2.2 (S.1 k))]) := rpVm_snoc hV_ w3 hO2 (fun y h => hO3 y (by rw [orig_len] at h; exact h))
                      have hL9 : lastL fV (S.2.2.2.2.1 ++ [(orig S.2.2.2.2.1 S.2.2.2.2.2 (S.1 k))]) (S.1 k) := fun _ y h => by rw [elen, Nat.add_sub_cancel]; exact hV1 y (by omega)
                      have hF2 : ∀ i, i < 18 → g_4 (q i) = some (.inl (cI, mSz i, .inl ((fun i => match i with | 15 => upd (F 15) S.2.2.2.2.1.length (nI ((S.1 k).length)) | 16 => fV | 17 => fO | 2 => F 2 | 3 => F 3 | 4 => F 4 | 5 => F 5 | i => F i) i))) := by
                        intro i hi
                        match i, hi with
                        | 0, _ => exact fr.at (h_nm (h_ne (hF 0 (by decide)) h0 (fun h => by cases h)) (h_nm (qne hq (by decide) (by decide) (by decide)) (h_nm (qne hq (by decide) (by decide) (by decide)) (h_nm (qne hq (by decide) (by decide) (by decide)) (h_nm (qne hq (by decide) (by decide) (by decide)) (h_nm (qne hq (by decide) (by decide) (by decide)) (h_nm (qne hq (by decide) (by decide) (by decide)) (h_nm (qne hq (by decide) (by decide) (by decide)) h_n0)))))))) (hF 0 (by decide))
                        | 1, _ => exact fr.at (h_nm (h_ne (hF 1 (by decide)) h0 (fun h => by cases h)) (h_nm (qne hq (by decide) (by decide) (by decide)) (h_nm (qne hq (by decide) (by decide) (by decide)) (h_nm (qne hq (by decide) (by decide) (by decide)) (h_nm (qne hq (by decide) (by decide) (by decide)) (h_nm (qne hq (by decide) (by decide) (by decide)) (h_nm (qne hq (by decide) (by decide) (by decide)) (h_nm (qne hq (by decide) (by decide) (by decide)) h_n0)))))))) (hF 1 (by decide))
                        | 2, _ => exact f4_4
                        | 3, _ => exact f4_5
                        | 4, _ => exact f4_6
                        | 5, _ => exact f4_7
                        | 6, _ => exact fr.at (h_nm (h_ne (hF 6 (by decide)) h0 (fun h => by cases h)) (h_nm (qne hq (by decide) (by decide) (by decide)) (h_nm (qne hq (by decide) (by decide) (by decide)) (h_nm (qne hq (by decide) (by decide) (by decide)) (h_nm (qne hq (by decide) (by decide) (by decide)) (h_nm (qne hq (by decide) (by decide) (by decide)) (h_nm (qne hq (by decide) (by decide) (by decide)) (h_nm (qne hq (by decide) (by decide) (by decide)) h_n0)))))))) (hF 6 (by decide))
                        | 7, _ => exact fr.at (h_nm (h_ne (hF 7 (by decide)) h0 (fun h => by cases h)) (h_nm (qne hq (by decide) (by decide) (by decide)) (h_nm (qne hq (by decide) (by decide) (by decide)) (h_nm (qne hq (by decide) (by decide) (by decide)) (h_nm (qne hq (by decide) (by decide) (by decide)) (h_nm (qne hq (by decide) (by decide) (by decide)) (h_nm (qne hq (by decide) (by decide) (by decide)) (h_nm (qne hq (by decide) (by decide) (by decide)) h_n0)))))))) (hF 7 (by decide))
                        | 8, _ => exact fr.at (h_nm (h_ne (hF 8 (by decide)) h0 (fun h => by cases h)) (h_nm (qne hq (by decide) (by decide) (by decide)) (h_nm (qne hq (by decide) (by decide) (by decide)) (h_nm (qne hq (by decide) (by decide) (by decide)) (h_nm (qne hq (by decide) (by decide) (by decide)) (h_nm (qne hq (by decide) (by decide) (by decide)) (h_nm (qne hq (by decide) (by decide) (by decide)) (h_nm (qne hq (by decide) (by decide) (by decide)) h_n0)))))))) (hF 8 (by decide))
                        | 9, _ => exact fr.at (h_nm (h_ne (hF 9 (by decide)) h0 (fun h => by cases h)) (h_nm (qne hq (by decide) (by decide) (by decide)) (h_nm (qne hq (by decide) (by decide) (by decide)) (h_nm (qne hq (by decide) (by decide) (by decide)) (h_nm (qne hq (by decide) (by decide) (by decide)) (h_nm (qne hq (by decide) (by decide) (by decide)) (h_nm (qne hq (by decide) (by decide) (by decide)) (h_nm (qne hq (by decide) (by decide) (by decide)) h_n0)))))))) (hF 9 (by decide))
                        | 10, _ => exact fr.at (h_nm (h_ne (hF 10 (by decide)) h0 (fun h => by cases h)) (h_nm (qne hq (by decide) (by decide) (by decide)) (h_nm (qne hq (by decide) (by decide) (by decide)) (h_nm (qne hq (by decide) (by decide) (by decide)) (h_nm (qne hq (by decide) (by decide) (by decide)) (h_nm (qne hq (by decide) (by decide) (by decide)) (h_nm (qne hq (by decide) (by decide) (by decide)) (h_nm (qne hq (by decide) (by decide) (by decide)) h_n0)))))))) (hF 10 (by decide))
                        | 11, _ => exact fr.at (h_nm (h_ne (hF 11 (by decide)) h0 (fun h => by cases h)) (h_nm (qne hq (by decide) (by decide) (by decide)) (h_nm (qne hq (by decide) (by decide) (by decide)) (h_nm (qne hq (by decide) (by decide) (by decide)) (h_nm (qne hq (by decide) (by decide) (by decide)) (h_nm (qne hq (by decide) (by decide) (by decide)) (h_nm (qne hq (by decide) (by decide) (by decide)) (h_nm (qne hq (by decide) (by decide) (by decide)) h_n0)))))))) (hF 11 (by decide))
                        | 12, _ => exact fr.at (h_nm (h_ne (hF 12 (by decide)) h0 (fun h => by cases h)) (h_nm (qne hq (by decide) (by decide) (by decide)) (h_nm (qne hq (by decide) (by decide) (by decide)) (h_nm (qne hq (by decide) (by decide) (by decide)) (h_nm (qne hq (by decide) (by decide) (by decide)) (h_nm (qne hq (by decide) (by decide) (by decide)) (h_nm (qne hq (by decide) (by decide) (by decide)) (h_nm (qne hq (by decide) (by decide) (by decide)) h_n0)))))))) (hF 12 (by decide))
                        | 13, _ => exact fr.at (h_nm (h_ne (hF 13 (by decide)) h0 (fun h => by cases h)) (h_nm (qne hq (by decide) (by decide) (by decide)) (h_nm (qne hq (by decide) (by decide) (by decide)) (h_nm (qne hq (by decide) (by decide) (by decide)) (h_nm (qne hq (by decide) (by decide) (by decide)) (h_nm (qne hq (by decide) (by decide) (by decide)) (h_nm (qne hq (by decide) (by decide) (by decide)) (h_nm (qne hq (by decide) (by decide) (by decide)) h_n0)))))))) (hF 13 (by decide))
                        | 14, _ => exact fr.at (h_nm (h_ne (hF 14 (by decide)) h0 (fun h => by cases h)) (h_nm (qne hq (by decide) (by decide) (by decide)) (h_nm (qne hq (by decide) (by decide) (by decide)) (h_nm (qne hq (by decide) (by decide) (by decide)) (h_nm (qne hq (by decide) (by decide) (by decide)) (h_nm (qne hq (by decide) (by decide) (by decide)) (h_nm (qne hq (by decide) (by decide) (by decide)) (h_nm (qne hq (by decide) (by decide) (by decide)) h_n0)))))))) (hF 14 (by decide))
                        | 15, _ => exact f4_8
                        | 16, _ => exact f4_2
                        | 17, _ => exact f4_3
                        | i + 18, h => omega
                      have hrep : repM cI g_4 mm q (o_commit (nI k) S).1 (o_commit (nI k) S).2.2 := by rw [eop]; exact ⟨hq, (show stok (S.1, S.2.1, S.2.2.1, S.2.2.2.1, S.2.2.2.2.1 ++ [(orig S.2.2.2.2.1 S.2.2.2.2.2 (S.1 k))], (S.1 k)) from ⟨hok.1, hok.2.1, hok.2.2.1, hok.2.2.2.1, vok_snoc hok.2.2.2.2 (by omega) hnx⟩), v3, v4, v14, v16, v17, v23, (fun i => match i with | 15 => upd (F 15) S.2.2.2.2.1.length (nI ((S.1 k).length)) | 16 => fV | 17 => fO | 2 => F 2 | 3 => F 3 | 4 => F 4 | 5 => F 5 | i => F i), hm9, hF2, hR_, hA_, hB_, hH_, hC_, hZ2, hV9, hL9⟩
                      have fr9 : hfr g g_4 (mS mm q) := fr.mono (by simp)
                      exact hend _ _ _ _ _ _ _ _ (by decide) (by decide) rfl (⟨fr9, hrep, fun h9 => by rw [eop] at h9 ⊢; first | rfl | (congr 1; omega)⟩) hg hS dMM_commit_237
                    · skip
                      rw [← nI_0] at c_122
                      have c_122 : ¬ (S.2.2.2.2.1.length ≤ 0) := fun h => c_122 ((nI_leI (by omega) (by omega)).mpr h)
                      have e5 := w5 (by omega)
                      have hvl : ∀ y, y < S.2.2.2.2.2.length → fV (60 * S.2.2.2.2.1.length - 60 + y) = S.2.2.2.2.2.getD y 0 := fun y h => by rw [hV2 _ (by omega), show 60 * S.2.2.2.2.1.length - 60 + y = 60 * (S.2.2.2.2.1.length - 1) + y by omega]; exact hL_ (by omega) y h
                      have hvs : upd (F 15) S.2.2.2.2.1.length (nI (S.1 k).length) (S.2.2.2.2.1.length - 1) = nI S.2.2.2.2.2.length := by rw [pk_un (by omega), hZ_ _ (by omega), e5]
                      refine lv_aload_n S0.1 S0.2.1 dMM_commit_125 rfl (lv_at hl 0 rfl) ?_
                      refine lv_aload_n S0.1 S0.2.1 dMM_commit_126 rfl (lv_at hl 0 rfl) ?_
                      refine hw_get S0 hK hg l67_mm rfl inMM 27 (by decide) lf_MM_58 rfl rfl dMM_commit_127 ?_
                      refine lv_iload_n S0.1 S0.2.1 dMM_commit_130 rfl (lv_at hl 2 rfl) ?_
                      refine lv_bipush (v := nI 60) S0.1 S0.2.1 dMM_commit_131 (by decide) ?_
                      refine lv_isub S0.1 S0.2.1 dMM_commit_133 ?_
                      refine hw_top (nI ((60 * S.2.2.2.2.1.length) - 60)) (pk_sub (by omega)) ?_
                      refine lv_aload_n S0.1 S0.2.1 dMM_commit_134 rfl (lv_at hl 0 rfl) ?_
                      refine hw_get S0 hK hg l67_mm rfl inMM 26 (by decide) lf_MM_55 rfl rfl dMM_commit_135 ?_
                      refine lv_aload_n S0.1 S0.2.1 dMM_commit_138 rfl (lv_at hl 0 rfl) ?_
                      refine hw_get S0 hK hg l67_mm rfl inMM 25 (by decide) lf_MM_152 rfl rfl dMM_commit_139 ?_
                      refine lv_iconst (v := nI 1) S0.1 S0.2.1 dMM_commit_142 (by decide) ?_
                      refine lv_isub S0.1 S0.2.1 dMM_commit_143 ?_
                      refine hw_top (nI (S.2.2.2.2.1.length - 1)) (pk_sub (by omega)) ?_
                      refine hw_iald S0 hK hg l67_q15 0 rfl (by omega) (by omega) dMM_commit_144 ?_
                      refine hw_top (nI S.2.2.2.2.2.length) hvs ?_
                      refine hw_Vv (As := [.ref (q 16), .int (nI ((60 * S.2.2.2.2.1.length) - 60)), .int (nI S.2.2.2.2.2.length)]) (rest := []) S0 hK hg hS hA0 l67_mm rfl (c_MM_first l D cI cR cJ gl _ mm q hq (nI 0) v3 v4 (nI S.2.1.length) (nI S.2.2.1.length) v14 v16 v17 (nI S.2.2.2.1.length) v23 (nI S.2.2.2.2.1.length) (q 16) (60 * S.2.2.2.2.1.length - 60) 1800 S.2.2.2.2.2 fV (F 2) l67_mm l67_q2 l67_q16 (qne hq (by decide) (by decide) (by decide)) hvl w2 (by omega) (by omega)) kMM_first lm_MM_82 (hR.call rfl) rfl hl.1 rfl (Nat.le_of_ble_eq_true rfl) dMM_commit_145 (hR.new (by decide) (by decide)) (fun g_5 H locs hp_145 hg hS => ?_)
                      obtain ⟨frF145, s0145, fs145, s1145, es145⟩ := hp_145
                      have k5_0 := frF145.at (h_nm (h_ne q67_q0 l67_mm (fun h => by cases h)) (h_nm (qne hq (by decide) (by decide) (by decide)) h_n0)) q67_q0
                      have k5_1 := frF145.at (h_nm (h_ne q67_q1 l67_mm (fun h => by cases h)) (h_nm (qne hq (by decide) (by decide) (by decide)) h_n0)) q67_q1
                      have k5_2 := frF145.at (h_nm (h_ne l67_q16 l67_mm (fun h => by cases h)) (h_nm (qne hq (by decide) (by decide) (by decide)) h_n0)) l67_q16
                      have k5_3 := frF145.at (h_nm (h_ne l67_q17 l67_mm (fun h => by cases h)) (h_nm (qne hq (by decide) (by decide) (by decide)) h_n0)) l67_q17
                      have k5_4 := frF145.at (h_nm (h_ne l67_q3 l67_mm (fun h => by cases h)) (h_nm (qne hq (by decide) (by decide) (by decide)) h_n0)) l67_q3
                      have k5_5 := frF145.at (h_nm (h_ne l67_q4 l67_mm (fun h => by cases h)) (h_nm (qne hq (by decide) (by decide) (by decide)) h_n0)) l67_q4
                      have k5_6 := frF145.at (h_nm (h_ne l67_q5 l67_mm (fun h => by cases h)) (h_nm (qne hq (by decide) (by decide) (by decide)) h_n0)) l67_q5
                      have k5_7 := frF145.at (h_nm (h_ne l67_q15 l67_mm (fun h => by cases h)) (h_nm (qne hq (by decide) (by decide) (by decide)) h_n0)) l67_q15
                      have fr := fr.call frF145 (by simp)
                      refine lv_aload_n S0.1 S0.2.1 dMM_commit_148 rfl (lv_at hl 0 rfl) ?_
                      refine lv_aload_n S0.1 S0.2.1 dMM_commit_149 rfl (lv_at hl 0 rfl) ?_
                      refine hw_get S0 hK hg s0145 rfl inMM 27 (by decide) lf_MM_58 rfl rfl dMM_commit_150 ?_
                      refine lv_iload_n S0.1 S0.2.1 dMM_commit_153 rfl (lv_at hl 2 rfl) ?_
                      refine lv_aload_n S0.1 S0.2.1 dMM_commit_154 rfl (lv_at hl 0 rfl) ?_
                      refine hw_get S0 hK hg s0145 rfl inMM 1 (by decide) lf_MM_7 rfl rfl dMM_commit_155 ?_
                      refine lv_iload_n S0.1 S0.2.1 dMM_commit_158 rfl (lv_at hl 1 rfl) ?_
                      refine hw_iald S0 hK hg k5_0 0 rfl (by omega) (by omega) dMM_commit_159 ?_
                      refine hw_top (nI ((S.1 k).length)) t1 ?_
                      refine hw_Vv (As := [.ref (q 16), .int (nI (60 * S.2.2.2.2.1.length)), .int (nI ((S.1 k).length))]) (rest := []) S0 hK hg hS hA0 s0145 rfl (c_MM_second l D cI cR cJ g_5 _ mm q hq (nI 0) (nI S.2.2.2.2.2.length) v4 (nI S.2.1.length) (nI S.2.2.1.length) v14 v16 v17 (nI S.2.2.2.1.length) v23 (nI S.2.2.2.2.1.length) (q 16) (60 * S.2.2.2.2.1.length) 1800 (S.1 k) fV (F 3) s0145 k5_4 k5_2 (qne hq (by decide) (by decide) (by decide)) (fun y h => hV1 y (by omega)) hnx (by omega) (by omega)) kMM_second lm_MM_86 (hR.call rfl) rfl hl.1 rfl (Nat.le_of_ble_eq_true rfl) dMM_commit_160 (hR.new (by decide) (by decide)) (fun g_6 H locs hp_160 hg hS => ?_)
                      obtain ⟨frF160, s0160, fs160, s1160, es160⟩ := hp_160
                      have k6_0 := frF160.at (h_nm (h_ne k5_0 s0145 (fun h => by cases h)) (h_nm (qne hq (by decide) (by decide) (by decide)) h_n0)) k5_0
                      have k6_1 := frF160.at (h_nm (h_ne k5_1 s0145 (fun h => by cases h)) (h_nm (qne hq (by decide) (by decide) (by decide)) h_n0)) k5_1
                      have k6_2 := frF160.at (h_nm (h_ne k5_2 s0145 (fun h => by cases h)) (h_nm (qne hq (by decide) (by decide) (by decide)) h_n0)) k5_2
                      have k6_3 := frF160.at (h_nm (h_ne k5_3 s0145 (fun h => by cases h)) (h_nm (qne hq (by decide) (by decide) (by decide)) h_n0)) k5_3
                      have k6_4 := frF160.at (h_nm (h_ne k5_5 s0145 (fun h => by cases h)) (h_nm (qne hq (by decide) (by decide) (by decide)) h_n0)) k5_5
                      have k6_5 := frF160.at (h_nm (h_ne k5_6 s0145 (fun h => by cases h)) (h_nm (qne hq (by decide) (by decide) (by decide)) h_n0)) k5_6
                      have k6_6 := frF160.at (h_nm (h_ne k5_7 s0145 (fun h => by cases h)) (h_nm (qne hq (by decide) (by decide) (by decide)) h_n0)) k5_7
                      have k6_7 := frF160.at (h_nm (h_ne s1145 s0145 (fun h => by cases h)) (h_nm (qne hq (by decide) (by decide) (by decide)) h_n0)) s1145
                      have fr := fr.call frF160 (by simp)
                      refine lv_aload_n S0.1 S0.2.1 dMM_commit_163 rfl (lv_at hl 0 rfl) ?_
                      refine hw_Vv (As := []) (rest := []) S0 hK hg hS hA0 s0160 rfl (c_MM_compare l D cI cR cJ g_6 _ mm q hq (nI 0) (nI S.2.1.length) (nI S.2.2.1.length) v14 v16 v17 (nI S.2.2.2.1.length) v23 (nI S.2.2.2.2.1.length) S.2.2.2.2.2 (S.1 k) fs145 fs160 (F 4) (F 5) s0160 k6_7 s1160 k6_4 k6_5 es145 es160 w2 hnx) kMM_compare lm_MM_93 (hR.call rfl) rfl hl.1 rfl (Nat.le_of_ble_eq_true rfl) dMM_commit_164 (hR.new (by decide) (by decide)) (fun g_7 H locs hp_164 hg hS => ?_)
                      obtain ⟨frC164, fb164, fp164, p1164, p2164, pp164⟩ := hp_164
                      have k7_0 := frC164.at (h_nm (qne hq (by decide) (by decide) (by decide)) (h_nm (qne hq (by decide) (by decide) (by decide)) h_n0)) k6_0
                      have k7_1 := frC164.at (h_nm (qne hq (by decide) (by decide) (by decide)) (h_nm (qne hq (by decide) (by decide) (by decide)) h_n0)) k6_1
                      have k7_2 := frC164.at (h_nm (qne hq (by decide) (by decide) (by decide)) (h_nm (qne hq (by decide) (by decide) (by decide)) h_n0)) k6_2
                      have k7_3 := frC164.at (h_nm (qne hq (by decide) (by decide) (by decide)) (h_nm (qne hq (by decide) (by decide) (by decide)) h_n0)) k6_3
                      have k7_4 := frC164.at (h_nm (qne hq (by decide) (by decide) (by decide)) (h_nm (qne hq (by decide) (by decide) (by decide)) h_n0)) k6_6
                      have k7_5 := frC164.at (h_nm (qne hq (by decide) (by decide) (by decide)) (h_nm (qne hq (by decide) (by decide) (by decide)) h_n0)) k6_7
                      have k7_6 := frC164.at (h_nm (h_ne s0160 k6_4 (fun h => by cases h)) (h_nm (h_ne s0160 k6_5 (fun h => by cases h)) h_n0)) s0160
                      have k7_7 := frC164.at (h_nm (qne hq (by decide) (by decide) (by decide)) (h_nm (qne hq (by decide) (by decide) (by decide)) h_n0)) s1160
                      have fr := fr.call frC164 (by simp)
                      refine lv_iconst (v := nI 0) S0.1 S0.2.1 dMM_commit_167 (by decide) ?_
                      refine lv_istore (lv' := [(4, .int (nI 0)), (0, .ref mm), (1, .int (nI k)), (3, .int (nI (60 * S.2.2.2.2.1.length)))]) S0.1 S0.2.1 dMM_commit_168 hl (by decide) rfl (fun ls hl => ?_)
                      have loop_170 : ∀ (n_170 : Nat) (x2 : Nat) (fO2 : Nat → Int32) (gm : Nat → Option va_E) (H : Heap) (locs : List Loc) (ls : Array Slot), S.2.2.2.2.2.length - x2 < n_170 → (x2 ≤ S.2.2.2.2.2.length) → (∀ y, y < 60 * S.2.2.2.2.1.length → fO2 y = F 17 y) → (∀ y, y < (S.1 k).length → fO2 (60 * S.2.2.2.2.1.length + y) = nI ((ofold (S.2.2.2.2.1.getD (S.2.2.2.2.1.length - 1) []) (prs S.2.2.2.2.2 (S.1 k) x2) (List.replicate (S.1 k).length S.2.2.2.2.1.length)).getD y 0)) → (hfr g gm [mm, q 15, q 16, q 17, q 2, q 3, q 4, q 5]) → (gm (q 16) = some (.inl (cI, 1800, .inl fV))) → (gm (q 17) = some (.inl (cI, 1800, .inl fO2))) → (gm (q 15) = some (.inl (cI, 30, .inl (upd (F 15) S.2.2.2.2.1.length (nI ((S.1 k).length)))))) → (gm (q 2) = some (.inl (cI, 60, .inl fs145))) → (gm mm = some (mmC q (nI 0) (nI S.2.2.2.2.2.length) (nI ((S.1 k).length)) (nI S.2.1.length) (nI S.2.2.1.length) v14 v16 v17 (nI S.2.2.2.1.length) v23 (nI S.2.2.2.2.1.length))) → (gm (q 3) = some (.inl (cI, 60, .inl fs160))) → (gm (q 4) = some (.inl (cI, 3721, .inl fb164))) → (gm (q 5) = some (.inl (cI, 60, .inl fp164))) → hw D hC AX gm H → va_S AX sX.heap H locs → lv_has ls 5 [(0, .ref mm), (1, .int (nI k)), (3, .int (nI (60 * S.2.2.2.2.1.length))), (4, .int (nI x2))] → W pX l eX RX sX mX argsX belowX methX cX H locs 0 0 QX (F0 mX 170 ls []) := by
                        intro n_170
                        induction n_170 with
                        | zero => intros; omega
                        | succ n_170 ih_170 =>
                          intro x2 fO2 gm H locs ls hm_170 hx2 hP2 hP1 fr l170_q16 l170_q17 l170_q15 l170_q2 l170_mm l170_q3 l170_q4 l170_q5 hg hS hl
                          have q170_q0 := fr.at (h_nm (h_ne k7_0 k7_6 (fun h => by cases h)) (h_nm (qne hq (by decide) (by decide) (by decide)) (h_nm (qne hq (by decide) (by decide) (by decide)) (h_nm (qne hq (by decide) (by decide) (by decide)) (h_nm (qne hq (by decide) (by decide) (by decide)) (h_nm (qne hq (by decide) (by decide) (by decide)) (h_nm (qne hq (by decide) (by decide) (by decide)) (h_nm (qne hq (by decide) (by decide) (by decide)) h_n0)))))))) hsizes
                          have q170_q1 := fr.at (h_nm (h_ne k7_1 k7_6 (fun h => by cases h)) (h_nm (qne hq (by decide) (by decide) (by decide)) (h_nm (qne hq (by decide) (by decide) (by decide)) (h_nm (qne hq (by decide) (by decide) (by decide)) (h_nm (qne hq (by decide) (by decide) (by decide)) (h_nm (qne hq (by decide) (by decide) (by decide)) (h_nm (qne hq (by decide) (by decide) (by decide)) (h_nm (qne hq (by decide) (by decide) (by decide)) h_n0)))))))) hlines
                          refine lv_iload S0.1 S0.2.1 dMM_commit_170 (lv_at hl 3 rfl) ?_
                          refine lv_aload_n S0.1 S0.2.1 dMM_commit_172 rfl (lv_at hl 0 rfl) ?_
                          refine hw_get S0 hK hg l170_mm rfl inMM 3 (by decide) lf_MM_76 rfl rfl dMM_commit_173 ?_
                          refine lv_icmp_ge (tgt := 221) S0.1 S0.2.1 dMM_commit_176 (by decide) (fun c_176 => ?_) (fun c_176 => ?_)
                          · skip
                            have c_176 : S.2.2.2.2.2.length ≤ x2 := (nI_leI (by omega) (by omega)).mp c_176
                            have ei : x2 = S.2.2.2.2.2.length := by omega
                            rw [ei] at hP1
                            have hO3 : ∀ y, y < (S.1 k).length → fO2 (60 * S.2.2.2.2.1.length + y) = nI ((orig S.2.2.2.2.1 S.2.2.2.2.2 (S.1 k)).getD y 0) := hP1
                            refine lv_aload_n S0.1 S0.2.1 dMM_commit_221 rfl (lv_at hl 0 rfl) ?_
                            refine lv_dup S0.1 S0.2.1 dMM_commit_222 rfl ?_
                            refine hw_get S0 hK hg l170_mm rfl inMM 25 (by decide) lf_MM_152 rfl rfl dMM_commit_223 ?_
                            refine lv_iconst (v := nI 1) S0.1 S0.2.1 dMM_commit_226 (by decide) ?_
                            refine lv_iadd S0.1 S0.2.1 dMM_commit_227 ?_
                            refine hw_top (nI (S.2.2.2.2.1.length + 1)) (nI_add _ _) ?_
                            refine hw_put S0 hK hg hS l170_mm rfl inMM tyMM tokMM nmMM 25 (by decide) lf_MM_152 rfl rfl rfl rfl (Nat.le_of_ble_eq_true rfl) dMM_commit_228 (fun H locs hg hS => ?_)
                            obtain ⟨g_8, eg_8⟩ : ∃ z, z = hs gm mm (mmC q (nI 0) (nI S.2.2.2.2.2.length) (nI ((S.1 k).length)) (nI S.2.1.length) (nI S.2.2.1.length) v14 v16 v17 (nI S.2.2.2.1.length) v23 (nI (S.2.2.2.2.1.length + 1))) := ⟨_, rfl⟩
                            have hg : hw D hC AX g_8 H := by rw [eg_8]; exact hg
                            have f8_0 : g_8 (q 0) = some (.inl (cI, 6, .inl (F 0))) := by rw [eg_8, hs_n _ _ (h_ne q170_q0 l170_mm (fun h => by cases h))]; exact q170_q0
                            have f8_1 : g_8 (q 1) = some (.inl (cI, 360, .inl (F 1))) := by rw [eg_8, hs_n _ _ (h_ne q170_q1 l170_mm (fun h => by cases h))]; exact q170_q1
                            have f8_2 : g_8 (q 16) = some (.inl (cI, 1800, .inl fV)) := by rw [eg_8, hs_n _ _ (h_ne l170_q16 l170_mm (fun h => by cases h))]; exact l170_q16
                            have f8_3 : g_8 (q 17) = some (.inl (cI, 1800, .inl fO2)) := by rw [eg_8, hs_n _ _ (h_ne l170_q17 l170_mm (fun h => by cases h))]; exact l170_q17
                            have f8_4 : g_8 (q 15) = some (.inl (cI, 30, .inl (upd (F 15) S.2.2.2.2.1.length (nI ((S.1 k).length))))) := by rw [eg_8, hs_n _ _ (h_ne l170_q15 l170_mm (fun h => by cases h))]; exact l170_q15
                            have f8_5 : g_8 (q 2) = some (.inl (cI, 60, .inl fs145)) := by rw [eg_8, hs_n _ _ (h_ne l170_q2 l170_mm (fun h => by cases h))]; exact l170_q2
                            have f8_6 : g_8 (q 3) = some (.inl (cI, 60, .inl fs160)) := by rw [eg_8, hs_n _ _ (h_ne l170_q3 l170_mm (fun h => by cases h))]; exact l170_q3
                            have f8_7 : g_8 (q 4) = some (.inl (cI, 3721, .inl fb164)) := by rw [eg_8, hs_n _ _ (h_ne l170_q4 l170_mm (fun h => by cases h))]; exact l170_q4
                            have f8_8 : g_8 (q 5) = some (.inl (cI, 60, .inl fp164)) := by rw [eg_8, hs_n _ _ (h_ne l170_q5 l170_mm (fun h => by cases h))]; exact l170_q5
                            have f8_9 : g_8 mm = some (mmC q (nI 0) (nI S.2.2.2.2.2.length) (nI ((S.1 k).length)) (nI S.2.1.length) (nI S.2.2.1.length) v14 v16 v17 (nI S.2.2.2.1.length) v23 (nI (S.2.2.2.2.1.length + 1))) := by rw [eg_8]; exact hs_s _ _ _
                            have fr := fr.put eg_8 (by simp)
                            refine lv_aload_n S0.1 S0.2.1 dMM_commit_231 rfl (lv_at hl 0 rfl) ?_
                            refine hw_get S0 hK hg f8_9 rfl inMM 25 (by decide) lf_MM_152 rfl rfl dMM_commit_232 ?_
                            refine lv_iconst (v := nI 1) S0.1 S0.2.1 dMM_commit_235 (by decide) ?_
                            refine lv_isub S0.1 S0.2.1 dMM_commit_236 ?_
                            refine hw_top (nI ((S.2.2.2.2.1.length + 1) - 1)) (pk_sub (by omega)) ?_
                            have eop : o_commit (nI k) S = (0, nI S.2.2.2.2.1.length, (S.1, S.2.1, S.2.2.1, S.2.2.2.1, S.2.2.2.2.1 ++ [(orig S.2.2.2.2.1 S.2.2.2.2.2 (S.1 k))], (S.1 k))) := by unfold o_commit; rw [e_k]; exact if_pos (by omega)
                            have elen : (S.2.2.2.2.1 ++ [(orig S.2.2.2.2.1 S.2.2.2.2.2 (S.1 k))]).length = S.2.2.2.2.1.length + 1 := by rw [List.length_append]; rfl
                            have hm9 : g_8 mm = some (mmC q (nI 0) (nI S.2.2.2.2.2.length) (nI ((S.1 k).length)) (nI S.2.1.length) (nI S.2.2.1.length) v14 v16 v17 (nI S.2.2.2.1.length) v23 (nI ((S.2.2.2.2.1 ++ [(orig S.2.2.2.2.1 S.2.2.2.2.2 (S.1 k))]).length))) := by rw [elen]; exact f8_9
                            have hZ2 : rpS (upd (F 15) S.2.2.2.2.1.length (nI ((S.1 k).length))) (S.2.2.2.2.1 ++ [(orig S.2.2.2.2.1 S.2.2.2.2.2 (S.1 k))]) := by have h8 := rpS_snoc (o := (orig S.2.2.2.2.1 S.2.2.2.2.2 (S.1 k))) hZ_; rw [orig_len] at h8; exact h8
                            have hV9 : rpVm fO2 (S.2.2.2.2.1 ++ [(orig S.2.2.2.2.1 S.2.2.2.2.2 (S.1 k))]) := rpVm_snoc hV_ w3 hP2 (fun y h => hO3 y (by rw [orig_len] at h; exact h))
                            have hL9 : lastL fV (S.2.2.2.2.1 ++ [(orig S.2.2.2.2.1 S.2.2.2.2.2 (S.1 k))]) (S.1 k) := fun _ y h => by rw [elen, Nat.add_sub_cancel]; exact hV1 y (by omega)
                            have hF2 : ∀ i, i < 18 → g_8 (q i) = some (.inl (cI, mSz i, .inl ((fun i => match i with | 15 => upd (F 15) S.2.2.2.2.1.length (nI ((S.1 k).length)) | 16 => fV | 17 => fO2 | 2 => fs145 | 3 => fs160 | 4 => fb164 | 5 => fp164 | i => F i) i))) := by
                              intro i hi
                              match i, hi with
                              | 0, _ => exact fr.at (h_nm (h_ne (hF 0 (by decide)) h0 (fun h => by cases h)) (h_nm (qne hq (by decide) (by decide) (by decide)) (h_nm (qne hq (by decide) (by decide) (by decide)) (h_nm (qne hq (by decide) (by decide) (by decide)) (h_nm (qne hq (by decide) (by decide) (by decide)) (h_nm (qne hq (by decide) (by decide) (by decide)) (h_nm (qne hq (by decide) (by decide) (by decide)) (h_nm (qne hq (by decide) (by decide) (by decide)) h_n0)))))))) (hF 0 (by decide))
                              | 1, _ => exact fr.at (h_nm (h_ne (hF 1 (by decide)) h0 (fun h => by cases h)) (h_nm (qne hq (by decide) (by decide) (by decide)) (h_nm (qne hq (by decide) (by decide) (by decide)) (h_nm (qne hq (by decide) (by decide) (by decide)) (h_nm (qne hq (by decide) (by decide) (by decide)) (h_nm (qne hq (by decide) (by decide) (by decide)) (h_nm (qne hq (by decide) (by decide) (by decide)) (h_nm (qne hq (by decide) (by decide) (by decide)) h_n0)))))))) (hF 1 (by decide))
                              | 2, _ => exact f8_5
                              | 3, _ => exact f8_6
                              | 4, _ => exact f8_7
                              | 5, _ => exact f8_8
                              | 6, _ => exact fr.at (h_nm (h_ne (hF 6 (by decide)) h0 (fun h => by cases h)) (h_nm (qne hq (by decide) (by decide) (by decide)) (h_nm (qne hq (by decide) (by decide) (by decide)) (h_nm (qne hq (by decide) (by decide) (by decide)) (h_nm (qne hq (by decide) (by decide) (by decide)) (h_nm (qne hq (by decide) (by decide) (by decide)) (h_nm (qne hq (by decide) (by decide) (by decide)) (h_nm (qne hq (by decide) (by decide) (by decide)) h_n0)))))))) (hF 6 (by decide))
                              | 7, _ => exact fr.at (h_nm (h_ne (hF 7 (by decide)) h0 (fun h => by cases h)) (h_nm (qne hq (by decide) (by decide) (by decide)) (h_nm (qne hq (by decide) (by decide) (by decide)) (h_nm (qne hq (by decide) (by decide) (by decide)) (h_nm (qne hq (by decide) (by decide) (by decide)) (h_nm (qne hq (by decide) (by decide) (by decide)) (h_nm (qne hq (by decide) (by decide) (by decide)) (h_nm (qne hq (by decide) (by decide) (by decide)) h_n0)))))))) (hF 7 (by decide))
                              | 8, _ => exact fr.at (h_nm (h_ne (hF 8 (by decide)) h0 (fun h => by cases h)) (h_nm (qne hq (by decide) (by decide) (by decide)) (h_nm (qne hq (by decide) (by decide) (by decide)) (h_nm (qne hq (by decide) (by decide) (by decide)) (h_nm (qne hq (by decide) (by decide) (by decide)) (h_nm (qne hq (by decide) (by decide) (by decide)) (h_nm (qne hq (by decide) (by decide) (by decide)) (h_nm (qne hq (by decide) (by decide) (by decide)) h_n0)))))))) (hF 8 (by decide))
                              | 9, _ => exact fr.at (h_nm (h_ne (hF 9 (by decide)) h0 (fun h => by cases h)) (h_nm (qne hq (by decide) (by decide) (by decide)) (h_nm (qne hq (by decide) (by decide) (by decide)) (h_nm (qne hq (by decide) (by decide) (by decide)) (h_nm (qne hq (by decide) (by decide) (by decide)) (h_nm (qne hq (by decide) (by decide) (by decide)) (h_nm (qne hq (by decide) (by decide) (by decide)) (h_nm (qne hq (by decide) (by decide) (by decide)) h_n0)))))))) (hF 9 (by decide))
                              | 10, _ => exact fr.at (h_nm (h_ne (hF 10 (by decide)) h0 (fun h => by cases h)) (h_nm (qne hq (by decide) (by decide) (by decide)) (h_nm (qne hq (by decide) (by decide) (by decide)) (h_nm (qne hq (by decide) (by decide) (by decide)) (h_nm (qne hq (by decide) (by decide) (by decide)) (h_nm (qne hq (by decide) (by decide) (by decide)) (h_nm (qne hq (by decide) (by decide) (by decide)) (h_nm (qne hq (by decide) (by decide) (by decide)) h_n0)))))))) (hF 10 (by decide))
                              | 11, _ => exact fr.at (h_nm (h_ne (hF 11 (by decide)) h0 (fun h => by cases h)) (h_nm (qne hq (by decide) (by decide) (by decide)) (h_nm (qne hq (by decide) (by decide) (by decide)) (h_nm (qne hq (by decide) (by decide) (by decide)) (h_nm (qne hq (by decide) (by decide) (by decide)) (h_nm (qne hq (by decide) (by decide) (by decide)) (h_nm (qne hq (by decide) (by decide) (by decide)) (h_nm (qne hq (by decide) (by decide) (by decide)) h_n0)))))))) (hF 11 (by decide))
                              | 12, _ => exact fr.at (h_nm (h_ne (hF 12 (by decide)) h0 (fun h => by cases h)) (h_nm (qne hq (by decide) (by decide) (by decide)) (h_nm (qne hq (by decide) (by decide) (by decide)) (h_nm (qne hq (by decide) (by decide) (by decide)) (h_nm (qne hq (by decide) (by decide) (by decide)) (h_nm (qne hq (by decide) (by decide) (by decide)) (h_nm (qne hq (by decide) (by decide) (by decide)) (h_nm (qne hq (by decide) (by decide) (by decide)) h_n0)))))))) (hF 12 (by decide))
                              | 13, _ => exact fr.at (h_nm (h_ne (hF 13 (by decide)) h0 (fun h => by cases h)) (h_nm (qne hq (by decide) (by decide) (by decide)) (h_nm (qne hq (by decide) (by decide) (by decide)) (h_nm (qne hq (by decide) (by decide) (by decide)) (h_nm (qne hq (by decide) (by decide) (by decide)) (h_nm (qne hq (by decide) (by decide) (by decide)) (h_nm (qne hq (by decide) (by decide) (by decide)) (h_nm (qne hq (by decide) (by decide) (by decide)) h_n0)))))))) (hF 13 (by decide))
                              | 14, _ => exact fr.at (h_nm (h_ne (hF 14 (by decide)) h0 (fun h => by cases h)) (h_nm (qne hq (by decide) (by decide) (by decide)) (h_nm (qne hq (by decide) (by decide) (by decide)) (h_nm (qne hq (by decide) (by decide) (by decide)) (h_nm (qne hq (by decide) (by decide) (by decide)) (h_nm (qne hq (by decide) (by decide) (by decide)) (h_nm (qne hq (by decide) (by decide) (by decide)) (h_nm (qne hq (by decide) (by decide) (by decide)) h_n0)))))))) (hF 14 (by decide))
                              | 15, _ => exact f8_4
                              | 16, _ => exact f8_2
                              | 17, _ => exact f8_3
                              | i + 18, h => omega
                            have hrep : repM cI g_8 mm q (o_commit (nI k) S).1 (o_commit (nI k) S).2.2 := by rw [eop]; exact ⟨hq, (show stok (S.1, S.2.1, S.2.2.1, S.2.2.2.1, S.2.2.2.2.1 ++ [(orig S.2.2.2.2.1 S.2.2.2.2.2 (S.1 k))], (S.1 k)) from ⟨hok.1, hok.2.1, hok.2.2.1, hok.2.2.2.1, vok_snoc hok.2.2.2.2 (by omega) hnx⟩), (nI S.2.2.2.2.2.length), (nI ((S.1 k).length)), v14, v16, v17, v23, (fun i => match i with | 15 => upd (F 15) S.2.2.2.2.1.length (nI ((S.1 k).length)) | 16 => fV | 17 => fO2 | 2 => fs145 | 3 => fs160 | 4 => fb164 | 5 => fp164 | i => F i), hm9, hF2, hR_, hA_, hB_, hH_, hC_, hZ2, hV9, hL9⟩
                            have fr9 : hfr g g_8 (mS mm q) := fr.mono (by simp)
                            exact hend _ _ _ _ _ _ _ _ (by decide) (by decide) rfl (⟨fr9, hrep, fun h9 => by rw [eop] at h9 ⊢; first | rfl | (congr 1; omega)⟩) hg hS dMM_commit_237
                          · skip
                            have c_176 : ¬ (S.2.2.2.2.2.length ≤ x2) := fun h => c_176 ((nI_leI (by omega) (by omega)).mpr h)
                            rcases hpn : pn S.2.2.2.2.2 (S.1 k) x2 with _ | jz
                            · skip
                              have eP : fp164 x2 = -1 := by rw [pp164 x2 (by omega), hpn]; rfl
                              refine lv_aload_n S0.1 S0.2.1 dMM_commit_179 rfl (lv_at hl 0 rfl) ?_
                              refine hw_get S0 hK hg l170_mm rfl inMM 8 (by decide) lf_MM_25 rfl rfl dMM_commit_180 ?_
                              refine lv_iload S0.1 S0.2.1 dMM_commit_183 (lv_at hl 3 rfl) ?_
                              refine hw_iald S0 hK hg l170_q5 0 rfl (by omega) (by omega) dMM_commit_185 ?_
                              refine lv_if_lt (tgt := 215) S0.1 S0.2.1 dMM_commit_186 (by decide) (fun c_186 => ?_) (fun c_186 => ?_)
                              · skip
                                refine lv_iinc (v := nI (x2 + 1)) (lv' := [(4, .int (nI (x2 + 1))), (0, .ref mm), (1, .int (nI k)), (3, .int (nI (60 * S.2.2.2.2.1.length)))]) S0.1 S0.2.1 dMM_commit_215 hl (k := 3) rfl (by exact nI_add _ 1) (by decide) rfl (fun ls hl => ?_)
                                refine lv_goto (tgt := 170) S0.1 S0.2.1 dMM_commit_218 (by decide) ?_
                                exact ih_170 (x2 + 1) fO2 gm _ _ _ (by omega) (by omega) hP2 (by rw [prs_none hpn]; exact hP1) fr l170_q16 l170_q17 l170_q15 l170_q2 l170_mm l170_q3 l170_q4 l170_q5 hg hS (lv_sub hl [1, 2, 3, 0] rfl)
                              · skip
                                exact absurd (by rw [eP]; decide +kernel) c_186
                            · skip
                              have eP : fp164 x2 = nI jz := by rw [pp164 x2 (by omega), hpn]; rfl
                              have hsp := stp_spec (show stp S.2.2.2.2.2 (S.1 k) (fro S.2.2.2.2.2 (S.1 k) x2) x2 = some jz from hpn)
                              have hval : fO2 (60 * S.2.2.2.2.1.length - 60 + x2) = nI ((S.2.2.2.2.1.getD (S.2.2.2.2.1.length - 1) []).getD x2 0) := by rw [hP2 _ (by omega), show 60 * S.2.2.2.2.1.length - 60 + x2 = 60 * (S.2.2.2.2.1.length - 1) + x2 by omega]; exact hV_ (S.2.2.2.2.1.length - 1) x2 (by omega) (by omega)
                              refine lv_aload_n S0.1 S0.2.1 dMM_commit_179 rfl (lv_at hl 0 rfl) ?_
                              refine hw_get S0 hK hg l170_mm rfl inMM 8 (by decide) lf_MM_25 rfl rfl dMM_commit_180 ?_
                              refine lv_iload S0.1 S0.2.1 dMM_commit_183 (lv_at hl 3 rfl) ?_
                              refine hw_iald S0 hK hg l170_q5 0 rfl (by omega) (by omega) dMM_commit_185 ?_
                              refine hw_top (nI jz) eP ?_
                              refine lv_if_lt (tgt := 215) S0.1 S0.2.1 dMM_commit_186 (by decide) (fun c_186 => ?_) (fun c_186 => ?_)
                              · skip
                                rw [← nI_0] at c_186
                                have c_186 : jz < 0 := (nI_ltI (by omega) (by omega)).mp c_186
                                omega
                              · skip
                                rw [← nI_0] at c_186
                                have c_186 : ¬ (jz < 0) := fun h => c_186 ((nI_ltI (by omega) (by omega)).mpr h)
                                refine lv_aload_n S0.1 S0.2.1 dMM_commit_189 rfl (lv_at hl 0 rfl) ?_
                                refine hw_get S0 hK hg l170_mm rfl inMM 28 (by decide) lf_MM_61 rfl rfl dMM_commit_190 ?_
                                refine lv_iload_n S0.1 S0.2.1 dMM_commit_193 rfl (lv_at hl 2 rfl) ?_
                                refine lv_aload_n S0.1 S0.2.1 dMM_commit_194 rfl (lv_at hl 0 rfl) ?_
                                refine hw_get S0 hK hg l170_mm rfl inMM 8 (by decide) lf_MM_25 rfl rfl dMM_commit_195 ?_
                                refine lv_iload S0.1 S0.2.1 dMM_commit_198 (lv_at hl 3 rfl) ?_
                                refine hw_iald S0 hK hg l170_q5 0 rfl (by omega) (by omega) dMM_commit_200 ?_
                                refine hw_top (nI jz) eP ?_
                                refine lv_iadd S0.1 S0.2.1 dMM_commit_201 ?_
                                refine hw_top (nI ((60 * S.2.2.2.2.1.length) + jz)) (nI_add _ _) ?_
                                refine lv_aload_n S0.1 S0.2.1 dMM_commit_202 rfl (lv_at hl 0 rfl) ?_
                                refine hw_get S0 hK hg l170_mm rfl inMM 28 (by decide) lf_MM_61 rfl rfl dMM_commit_203 ?_
                                refine lv_iload_n S0.1 S0.2.1 dMM_commit_206 rfl (lv_at hl 2 rfl) ?_
                                refine lv_bipush (v := nI 60) S0.1 S0.2.1 dMM_commit_207 (by decide) ?_
                                refine lv_isub S0.1 S0.2.1 dMM_commit_209 ?_
                                refine hw_top (nI ((60 * S.2.2.2.2.1.length) - 60)) (pk_sub (by omega)) ?_
                                refine lv_iload S0.1 S0.2.1 dMM_commit_210 (lv_at hl 3 rfl) ?_
                                refine lv_iadd S0.1 S0.2.1 dMM_commit_212 ?_
                                refine hw_top (nI (((60 * S.2.2.2.2.1.length) - 60) + x2)) (nI_add _ _) ?_
                                refine hw_iald S0 hK hg l170_q17 0 rfl (by omega) (by omega) dMM_commit_213 ?_
                                refine hw_iast S0 hK hg hS l170_q17 0 rfl (by omega) (by omega) dMM_commit_214 (fun H locs hg hS => ?_)
                                obtain ⟨g_9, eg_9⟩ : ∃ z, z = hs gm (q 17) (.inl (cI, 1800, .inl (upd fO2 ((60 * S.2.2.2.2.1.length) + jz) (fO2 (((60 * S.2.2.2.2.1.length) - 60) + x2))))) := ⟨_, rfl⟩
                                have hg : hw D hC AX g_9 H := by rw [eg_9]; exact hg
                                have f9_0 : g_9 (q 0) = some (.inl (cI, 6, .inl (F 0))) := by rw [eg_9, hs_n _ _ (qne hq (by decide) (by decide) (by decide))]; exact q170_q0
                                have f9_1 : g_9 (q 1) = some (.inl (cI, 360, .inl (F 1))) := by rw [eg_9, hs_n _ _ (qne hq (by decide) (by decide) (by decide))]; exact q170_q1
                                have f9_2 : g_9 (q 16) = some (.inl (cI, 1800, .inl fV)) := by rw [eg_9, hs_n _ _ (qne hq (by decide) (by decide) (by decide))]; exact l170_q16
                                have f9_3 : g_9 (q 15) = some (.inl (cI, 30, .inl (upd (F 15) S.2.2.2.2.1.length (nI ((S.1 k).length))))) := by rw [eg_9, hs_n _ _ (qne hq (by decide) (by decide) (by decide))]; exact l170_q15
                                have f9_4 : g_9 (q 2) = some (.inl (cI, 60, .inl fs145)) := by rw [eg_9, hs_n _ _ (qne hq (by decide) (by decide) (by decide))]; exact l170_q2
                                have f9_5 : g_9 mm = some (mmC q (nI 0) (nI S.2.2.2.2.2.length) (nI ((S.1 k).length)) (nI S.2.1.length) (nI S.2.2.1.length) v14 v16 v17 (nI S.2.2.2.1.length) v23 (nI S.2.2.2.2.1.length)) := by rw [eg_9, hs_n _ _ (h_ne l170_mm l170_q17 (fun h => by cases h))]; exact l170_mm
                                have f9_6 : g_9 (q 3) = some (.inl (cI, 60, .inl fs160)) := by rw [eg_9, hs_n _ _ (qne hq (by decide) (by decide) (by decide))]; exact l170_q3
                                have f9_7 : g_9 (q 4) = some (.inl (cI, 3721, .inl fb164)) := by rw [eg_9, hs_n _ _ (qne hq (by decide) (by decide) (by decide))]; exact l170_q4
                                have f9_8 : g_9 (q 5) = some (.inl (cI, 60, .inl fp164)) := by rw [eg_9, hs_n _ _ (qne hq (by decide) (by decide) (by decide))]; exact l170_q5
                                have f9_9 : g_9 (q 17) = some (.inl (cI, 1800, .inl (upd fO2 ((60 * S.2.2.2.2.1.length) + jz) (fO2 (((60 * S.2.2.2.2.1.length) - 60) + x2))))) := by rw [eg_9]; exact hs_s _ _ _
                                have fr := fr.put eg_9 (by simp)
                                refine lv_iinc (v := nI (x2 + 1)) (lv' := [(4, .int (nI (x2 + 1))), (0, .ref mm), (1, .int (nI k)), (3, .int (nI (60 * S.2.2.2.2.1.length)))]) S0.1 S0.2.1 dMM_commit_215 hl (k := 3) rfl (by exact nI_add _ 1) (by decide) rfl (fun ls hl => ?_)
                                refine lv_goto (tgt := 170) S0.1 S0.2.1 dMM_commit_218 (by decide) ?_
                                exact ih_170 (x2 + 1) (upd fO2 ((60 * S.2.2.2.2.1.length) + jz) (fO2 (((60 * S.2.2.2.2.1.length) - 60) + x2))) g_9 _ _ _ (by omega) (by omega) (fun y h => by rw [pk_un (by omega)]; exact hP2 y h) (fun y h => by rw [prs_some hpn, ofold_snoc, getD_set (by rw [ofold_len, List.length_replicate]; omega)]; by_cases e : y = jz; rw [if_pos e, e, pk_us, hval]; rw [if_neg e, pk_un (by omega)]; exact hP1 y h) fr f9_2 f9_9 f9_3 f9_4 f9_5 f9_6 f9_7 f9_8 hg hS (lv_sub hl [1, 2, 3, 0] rfl)
                      exact loop_170 _ 0 fO g_7 _ _ _ (Nat.lt_succ_self _) (Nat.zero_le _) hO2 (fun y h => by rw [show (ofold (S.2.2.2.2.1.getD (S.2.2.2.2.1.length - 1) []) (prs S.2.2.2.2.2 (S.1 k) 0) (List.replicate (S.1 k).length S.2.2.2.2.1.length)) = List.replicate (S.1 k).length S.2.2.2.2.1.length from rfl, getD_rep h]; exact hO1 y (by omega)) fr k7_2 k7_3 k7_4 k7_5 k7_6 k7_7 p1164 p2164 hg hS (lv_sub hl [1, 2, 3, 0] rfl)
                  · skip
                    have c_75 : ¬ (((S.1 k).length) ≤ x) := fun h => c_75 ((nI_leI (by omega) (by omega)).mpr h)
                    refine lv_aload_n S0.1 S0.2.1 dMM_commit_78 rfl (lv_at hl 0 rfl) ?_
                    refine hw_get S0 hK hg l67_mm rfl inMM 27 (by decide) lf_MM_58 rfl rfl dMM_commit_79 ?_
                    refine lv_iload_n S0.1 S0.2.1 dMM_commit_82 rfl (lv_at hl 2 rfl) ?_
                    refine lv_iload S0.1 S0.2.1 dMM_commit_83 (lv_at hl 3 rfl) ?_
                    refine lv_iadd S0.1 S0.2.1 dMM_commit_85 ?_
                    refine hw_top (nI ((60 * S.2.2.2.2.1.length) + x)) (nI_add _ _) ?_
                    refine lv_aload_n S0.1 S0.2.1 dMM_commit_86 rfl (lv_at hl 0 rfl) ?_
                    refine hw_get S0 hK hg l67_mm rfl inMM 2 (by decide) lf_MM_13 rfl rfl dMM_commit_87 ?_
                    refine lv_bipush (v := nI 60) S0.1 S0.2.1 dMM_commit_90 (by decide) ?_
                    refine lv_iload_n S0.1 S0.2.1 dMM_commit_92 rfl (lv_at hl 1 rfl) ?_
                    refine lv_imul S0.1 S0.2.1 dMM_commit_93 ?_
                    refine hw_top (nI (60 * k)) (pk_mul _ _) ?_
                    refine lv_iload S0.1 S0.2.1 dMM_commit_94 (lv_at hl 3 rfl) ?_
                    refine lv_iadd S0.1 S0.2.1 dMM_commit_96 ?_
                    refine hw_top (nI ((60 * k) + x)) (nI_add _ _) ?_
                    refine hw_iald S0 hK hg q67_q1 0 rfl (by omega) (by omega) dMM_commit_97 ?_
                    refine hw_iast S0 hK hg hS l67_q16 0 rfl (by omega) (by omega) dMM_commit_98 (fun H locs hg hS => ?_)
                    obtain ⟨g_10, eg_10⟩ : ∃ z, z = hs gl (q 16) (.inl (cI, 1800, .inl (upd fV ((60 * S.2.2.2.2.1.length) + x) ((F 1) ((60 * k) + x))))) := ⟨_, rfl⟩
                    have hg : hw D hC AX g_10 H := by rw [eg_10]; exact hg
                    have f10_0 : g_10 (q 0) = some (.inl (cI, 6, .inl (F 0))) := by rw [eg_10, hs_n _ _ (qne hq (by decide) (by decide) (by decide))]; exact q67_q0
                    have f10_1 : g_10 (q 1) = some (.inl (cI, 360, .inl (F 1))) := by rw [eg_10, hs_n _ _ (qne hq (by decide) (by decide) (by decide))]; exact q67_q1
                    have f10_2 : g_10 (q 17) = some (.inl (cI, 1800, .inl fO)) := by rw [eg_10, hs_n _ _ (qne hq (by decide) (by decide) (by decide))]; exact l67_q17
                    have f10_3 : g_10 (q 2) = some (.inl (cI, 60, .inl (F 2))) := by rw [eg_10, hs_n _ _ (qne hq (by decide) (by decide) (by decide))]; exact l67_q2
                    have f10_4 : g_10 (q 3) = some (.inl (cI, 60, .inl (F 3))) := by rw [eg_10, hs_n _ _ (qne hq (by decide) (by decide) (by decide))]; exact l67_q3
                    have f10_5 : g_10 (q 4) = some (.inl (cI, 3721, .inl (F 4))) := by rw [eg_10, hs_n _ _ (qne hq (by decide) (by decide) (by decide))]; exact l67_q4
                    have f10_6 : g_10 (q 5) = some (.inl (cI, 60, .inl (F 5))) := by rw [eg_10, hs_n _ _ (qne hq (by decide) (by decide) (by decide))]; exact l67_q5
                    have f10_7 : g_10 mm = some (mmC q (nI 0) v3 v4 (nI S.2.1.length) (nI S.2.2.1.length) v14 v16 v17 (nI S.2.2.2.1.length) v23 (nI S.2.2.2.2.1.length)) := by rw [eg_10, hs_n _ _ (h_ne l67_mm l67_q16 (fun h => by cases h))]; exact l67_mm
                    have f10_8 : g_10 (q 15) = some (.inl (cI, 30, .inl (upd (F 15) S.2.2.2.2.1.length (nI ((S.1 k).length))))) := by rw [eg_10, hs_n _ _ (qne hq (by decide) (by decide) (by decide))]; exact l67_q15
                    have f10_9 : g_10 (q 16) = some (.inl (cI, 1800, .inl (upd fV ((60 * S.2.2.2.2.1.length) + x) ((F 1) ((60 * k) + x))))) := by rw [eg_10]; exact hs_s _ _ _
                    have fr := fr.put eg_10 (by simp)
                    refine lv_aload_n S0.1 S0.2.1 dMM_commit_99 rfl (lv_at hl 0 rfl) ?_
                    refine hw_get S0 hK hg f10_7 rfl inMM 28 (by decide) lf_MM_61 rfl rfl dMM_commit_100 ?_
                    refine lv_iload_n S0.1 S0.2.1 dMM_commit_103 rfl (lv_at hl 2 rfl) ?_
                    refine lv_iload S0.1 S0.2.1 dMM_commit_104 (lv_at hl 3 rfl) ?_
                    refine lv_iadd S0.1 S0.2.1 dMM_commit_106 ?_
                    refine hw_top (nI ((60 * S.2.2.2.2.1.length) + x)) (nI_add _ _) ?_
                    refine lv_aload_n S0.1 S0.2.1 dMM_commit_107 rfl (lv_at hl 0 rfl) ?_
                    refine hw_get S0 hK hg f10_7 rfl inMM 25 (by decide) lf_MM_152 rfl rfl dMM_commit_108 ?_
                    refine hw_iast S0 hK hg hS f10_2 0 rfl (by omega) (by omega) dMM_commit_111 (fun H locs hg hS => ?_)
                    obtain ⟨g_11, eg_11⟩ : ∃ z, z = hs g_10 (q 17) (.inl (cI, 1800, .inl (upd fO ((60 * S.2.2.2.2.1.length) + x) (nI S.2.2.2.2.1.length)))) := ⟨_, rfl⟩
                    have hg : hw D hC AX g_11 H := by rw [eg_11]; exact hg
                    have f11_0 : g_11 (q 0) = some (.inl (cI, 6, .inl (F 0))) := by rw [eg_11, hs_n _ _ (qne hq (by decide) (by decide) (by decide))]; exact f10_0
                    have f11_1 : g_11 (q 1) = some (.inl (cI, 360, .inl (F 1))) := by rw [eg_11, hs_n _ _ (qne hq (by decide) (by decide) (by decide))]; exact f10_1
                    have f11_2 : g_11 (q 2) = some (.inl (cI, 60, .inl (F 2))) := by rw [eg_11, hs_n _ _ (qne hq (by decide) (by decide) (by decide))]; exact f10_3
                    have f11_3 : g_11 (q 3) = some (.inl (cI, 60, .inl (F 3))) := by rw [eg_11, hs_n _ _ (qne hq (by decide) (by decide) (by decide))]; exact f10_4
                    have f11_4 : g_11 (q 4) = some (.inl (cI, 3721, .inl (F 4))) := by rw [eg_11, hs_n _ _ (qne hq (by decide) (by decide) (by decide))]; exact f10_5
                    have f11_5 : g_11 (q 5) = some (.inl (cI, 60, .inl (F 5))) := by rw [eg_11, hs_n _ _ (qne hq (by decide) (by decide) (by decide))]; exact f10_6
                    have f11_6 : g_11 mm = some (mmC q (nI 0) v3 v4 (nI S.2.1.length) (nI S.2.2.1.length) v14 v16 v17 (nI S.2.2.2.1.length) v23 (nI S.2.2.2.2.1.length)) := by rw [eg_11, hs_n _ _ (h_ne f10_7 f10_2 (fun h => by cases h))]; exact f10_7
                    have f11_7 : g_11 (q 15) = some (.inl (cI, 30, .inl (upd (F 15) S.2.2.2.2.1.length (nI ((S.1 k).length))))) := by rw [eg_11, hs_n _ _ (qne hq (by decide) (by decide) (by decide))]; exact f10_8
                    have f11_8 : g_11 (q 16) = some (.inl (cI, 1800, .inl (upd fV ((60 * S.2.2.2.2.1.length) + x) ((F 1) ((60 * k) + x))))) := by rw [eg_11, hs_n _ _ (qne hq (by decide) (by decide) (by decide))]; exact f10_9
                    have f11_9 : g_11 (q 17) = some (.inl (cI, 1800, .inl (upd fO ((60 * S.2.2.2.2.1.length) + x) (nI S.2.2.2.2.1.length)))) := by rw [eg_11]; exact hs_s _ _ _
                    have fr := fr.put eg_11 (by simp)
                    refine lv_iinc (v := nI (x + 1)) (lv' := [(4, .int (nI (x + 1))), (0, .ref mm), (1, .int (nI k)), (3, .int (nI (60 * S.2.2.2.2.1.length)))]) S0.1 S0.2.1 dMM_commit_112 hl (k := 3) rfl (by exact nI_add _ 1) (by decide) rfl (fun ls hl => ?_)
                    refine lv_goto (tgt := 67) S0.1 S0.2.1 dMM_commit_115 (by decide) ?_
                    exact ih_67 (x + 1) (upd fV ((60 * S.2.2.2.2.1.length) + x) ((F 1) ((60 * k) + x))) (upd fO ((60 * S.2.2.2.2.1.length) + x) (nI S.2.2.2.2.1.length)) g_11 _ _ _ (by omega) (by omega) (fun y h => by rcases Nat.lt_or_ge y x with h9 | h9; rw [pk_un (by omega)]; exact hV1 y h9; rw [show y = x by omega, pk_us]; exact t3 x (by omega)) (fun y h => by rw [pk_un (by omega)]; exact hV2 y h) (fun y h => by rcases Nat.lt_or_ge y x with h9 | h9; rw [pk_un (by omega)]; exact hO1 y h9; rw [show y = x by omega, pk_us]) (fun y h => by rw [pk_un (by omega)]; exact hO2 y h) fr f11_8 f11_9 f11_2 f11_3 f11_4 f11_5 f11_6 f11_7 hg hS (lv_sub hl [1, 2, 3, 0] rfl)
              exact loop_67 _ 0 (F 16) (F 17) g_3 _ _ _ (Nat.lt_succ_self _) (Nat.zero_le _) (fun y h => absurd h (Nat.not_lt_zero y)) (fun y h => rfl) (fun y h => absurd h (Nat.not_lt_zero y)) (fun y h => rfl) fr f3_2 f3_3 f3_4 f3_5 f3_6 f3_7 f3_8 f3_9 hg hS (lv_sub hl [3, 4, 1, 0] rfl)
            · skip
              rw [← nI_0] at c_36
              have c_36 : ¬ (0 = 0) := fun h => c_36 ((nI_eq (by omega) (by omega)).mpr h)
              exact absurd c_36 (by decide)
        · skip
          have c_25 : S.2.2.2.2.1.length = 30 := (nI_eq (by omega) (by omega)).mp c_25
          refine lv_iconst (v := nI 1) S0.1 S0.2.1 dMM_commit_28 (by decide) ?_
          refine lv_goto (tgt := 33) S0.1 S0.2.1 dMM_commit_29 (by decide) ?_
          refine hw_Vi (As := [.int (nI 0), .int (nI 1)]) (rest := []) S0 hK hg hS hA0 h0 rfl (c_MM_refuse l D cI cR cJ g _ mm q hq (nI t) v3 v4 (nI S.2.1.length) (nI S.2.2.1.length) v14 v16 v17 (nI S.2.2.2.1.length) v23 (nI S.2.2.2.2.1.length) 0 1 (by decide) (by decide) h0) kMM_refuse lm_MM_72 (hR.call rfl) rfl hl.1 rfl (Nat.le_of_ble_eq_true rfl) dMM_commit_33 (hR.new (by decide) (by decide)) (fun r_33 g_12 H locs hp_33 hg hS => ?_)
          obtain ⟨frr, rm_, hp_33⟩ := hp_33
          have rm_ : g_12 mm = some (mmC q (nI 2) v3 v4 (nI S.2.1.length) (nI S.2.2.1.length) v14 v16 v17 (nI S.2.2.2.1.length) v23 (nI S.2.2.2.2.1.length)) := rm_
          have k12_0 := frr.at (h_nm (h_ne hsizes h0 (fun h => by cases h)) h_n0) hsizes
          have k12_1 := frr.at (h_nm (h_ne hlines h0 (fun h => by cases h)) h_n0) hlines
          have k12_2 := frr.at (h_nm (h_ne hversionSizes h0 (fun h => by cases h)) h_n0) hversionSizes
          have k12_3 := frr.at (h_nm (h_ne hversionLines h0 (fun h => by cases h)) h_n0) hversionLines
          have k12_4 := frr.at (h_nm (h_ne horigins h0 (fun h => by cases h)) h_n0) horigins
          have k12_5 := frr.at (h_nm (h_ne hx h0 (fun h => by cases h)) h_n0) hx
          have k12_6 := frr.at (h_nm (h_ne hy h0 (fun h => by cases h)) h_n0) hy
          have k12_7 := frr.at (h_nm (h_ne hbest h0 (fun h => by cases h)) h_n0) hbest
          have k12_8 := frr.at (h_nm (h_ne hpartner h0 (fun h => by cases h)) h_n0) hpartner
          have fr := fr.call frr (by simp)
          rcases hp_33 with ⟨ho, hr_⟩ | ⟨ho, hr_⟩
          · skip
            subst ho
            refine lv_if_eq (tgt := 41) S0.1 S0.2.1 dMM_commit_36 (by decide) (fun c_36 => ?_) (fun c_36 => ?_)
            · skip
              rw [← nI_0] at c_36
              have c_36 : 1 = 0 := (nI_eq (by omega) (by omega)).mp c_36
              exact absurd c_36 (by decide)
            · skip
              rw [← nI_0] at c_36
              have c_36 : ¬ (1 = 0) := fun h => c_36 ((nI_eq (by omega) (by omega)).mpr h)
              refine lv_iconst (v := nI 0) S0.1 S0.2.1 dMM_commit_39 (by decide) ?_
              have hF2 : ∀ i, i < 18 → g_12 (q i) = some (.inl (cI, mSz i, .inl ((fun i => match i with | 15 => F 15 | 16 => F 16 | 17 => F 17 | 2 => F 2 | 3 => F 3 | 4 => F 4 | 5 => F 5 | i => F i) i))) := by
                intro i hi
                match i, hi with
                | 0, _ => exact fr.at (h_nm (h_ne (hF 0 (by decide)) h0 (fun h => by cases h)) (h_nm (qne hq (by decide) (by decide) (by decide)) (h_nm (qne hq (by decide) (by decide) (by decide)) (h_nm (qne hq (by decide) (by decide) (by decide)) (h_nm (qne hq (by decide) (by decide) (by decide)) (h_nm (qne hq (by decide) (by decide) (by decide)) (h_nm (qne hq (by decide) (by decide) (by decide)) (h_nm (qne hq (by decide) (by decide) (by decide)) h_n0)))))))) (hF 0 (by decide))
                | 1, _ => exact fr.at (h_nm (h_ne (hF 1 (by decide)) h0 (fun h => by cases h)) (h_nm (qne hq (by decide) (by decide) (by decide)) (h_nm (qne hq (by decide) (by decide) (by decide)) (h_nm (qne hq (by decide) (by decide) (by decide)) (h_nm (qne hq (by decide) (by decide) (by decide)) (h_nm (qne hq (by decide) (by decide) (by decide)) (h_nm (qne hq (by decide) (by decide) (by decide)) (h_nm (qne hq (by decide) (by decide) (by decide)) h_n0)))))))) (hF 1 (by decide))
                | 2, _ => exact k12_5
                | 3, _ => exact k12_6
                | 4, _ => exact k12_7
                | 5, _ => exact k12_8
                | 6, _ => exact fr.at (h_nm (h_ne (hF 6 (by decide)) h0 (fun h => by cases h)) (h_nm (qne hq (by decide) (by decide) (by decide)) (h_nm (qne hq (by decide) (by decide) (by decide)) (h_nm (qne hq (by decide) (by decide) (by decide)) (h_nm (qne hq (by decide) (by decide) (by decide)) (h_nm (qne hq (by decide) (by decide) (by decide)) (h_nm (qne hq (by decide) (by decide) (by decide)) (h_nm (qne hq (by decide) (by decide) (by decide)) h_n0)))))))) (hF 6 (by decide))
                | 7, _ => exact fr.at (h_nm (h_ne (hF 7 (by decide)) h0 (fun h => by cases h)) (h_nm (qne hq (by decide) (by decide) (by decide)) (h_nm (qne hq (by decide) (by decide) (by decide)) (h_nm (qne hq (by decide) (by decide) (by decide)) (h_nm (qne hq (by decide) (by decide) (by decide)) (h_nm (qne hq (by decide) (by decide) (by decide)) (h_nm (qne hq (by decide) (by decide) (by decide)) (h_nm (qne hq (by decide) (by decide) (by decide)) h_n0)))))))) (hF 7 (by decide))
                | 8, _ => exact fr.at (h_nm (h_ne (hF 8 (by decide)) h0 (fun h => by cases h)) (h_nm (qne hq (by decide) (by decide) (by decide)) (h_nm (qne hq (by decide) (by decide) (by decide)) (h_nm (qne hq (by decide) (by decide) (by decide)) (h_nm (qne hq (by decide) (by decide) (by decide)) (h_nm (qne hq (by decide) (by decide) (by decide)) (h_nm (qne hq (by decide) (by decide) (by decide)) (h_nm (qne hq (by decide) (by decide) (by decide)) h_n0)))))))) (hF 8 (by decide))
                | 9, _ => exact fr.at (h_nm (h_ne (hF 9 (by decide)) h0 (fun h => by cases h)) (h_nm (qne hq (by decide) (by decide) (by decide)) (h_nm (qne hq (by decide) (by decide) (by decide)) (h_nm (qne hq (by decide) (by decide) (by decide)) (h_nm (qne hq (by decide) (by decide) (by decide)) (h_nm (qne hq (by decide) (by decide) (by decide)) (h_nm (qne hq (by decide) (by decide) (by decide)) (h_nm (qne hq (by decide) (by decide) (by decide)) h_n0)))))))) (hF 9 (by decide))
                | 10, _ => exact fr.at (h_nm (h_ne (hF 10 (by decide)) h0 (fun h => by cases h)) (h_nm (qne hq (by decide) (by decide) (by decide)) (h_nm (qne hq (by decide) (by decide) (by decide)) (h_nm (qne hq (by decide) (by decide) (by decide)) (h_nm (qne hq (by decide) (by decide) (by decide)) (h_nm (qne hq (by decide) (by decide) (by decide)) (h_nm (qne hq (by decide) (by decide) (by decide)) (h_nm (qne hq (by decide) (by decide) (by decide)) h_n0)))))))) (hF 10 (by decide))
                | 11, _ => exact fr.at (h_nm (h_ne (hF 11 (by decide)) h0 (fun h => by cases h)) (h_nm (qne hq (by decide) (by decide) (by decide)) (h_nm (qne hq (by decide) (by decide) (by decide)) (h_nm (qne hq (by decide) (by decide) (by decide)) (h_nm (qne hq (by decide) (by decide) (by decide)) (h_nm (qne hq (by decide) (by decide) (by decide)) (h_nm (qne hq (by decide) (by decide) (by decide)) (h_nm (qne hq (by decide) (by decide) (by decide)) h_n0)))))))) (hF 11 (by decide))
                | 12, _ => exact fr.at (h_nm (h_ne (hF 12 (by decide)) h0 (fun h => by cases h)) (h_nm (qne hq (by decide) (by decide) (by decide)) (h_nm (qne hq (by decide) (by decide) (by decide)) (h_nm (qne hq (by decide) (by decide) (by decide)) (h_nm (qne hq (by decide) (by decide) (by decide)) (h_nm (qne hq (by decide) (by decide) (by decide)) (h_nm (qne hq (by decide) (by decide) (by decide)) (h_nm (qne hq (by decide) (by decide) (by decide)) h_n0)))))))) (hF 12 (by decide))
                | 13, _ => exact fr.at (h_nm (h_ne (hF 13 (by decide)) h0 (fun h => by cases h)) (h_nm (qne hq (by decide) (by decide) (by decide)) (h_nm (qne hq (by decide) (by decide) (by decide)) (h_nm (qne hq (by decide) (by decide) (by decide)) (h_nm (qne hq (by decide) (by decide) (by decide)) (h_nm (qne hq (by decide) (by decide) (by decide)) (h_nm (qne hq (by decide) (by decide) (by decide)) (h_nm (qne hq (by decide) (by decide) (by decide)) h_n0)))))))) (hF 13 (by decide))
                | 14, _ => exact fr.at (h_nm (h_ne (hF 14 (by decide)) h0 (fun h => by cases h)) (h_nm (qne hq (by decide) (by decide) (by decide)) (h_nm (qne hq (by decide) (by decide) (by decide)) (h_nm (qne hq (by decide) (by decide) (by decide)) (h_nm (qne hq (by decide) (by decide) (by decide)) (h_nm (qne hq (by decide) (by decide) (by decide)) (h_nm (qne hq (by decide) (by decide) (by decide)) (h_nm (qne hq (by decide) (by decide) (by decide)) h_n0)))))))) (hF 14 (by decide))
                | 15, _ => exact k12_2
                | 16, _ => exact k12_3
                | 17, _ => exact k12_4
                | i + 18, h => omega
              have hrep : repM cI g_12 mm q (o_commit (nI k) S).1 (o_commit (nI k) S).2.2 := by rw [show o_commit (nI k) S = (2, 0, S) by unfold o_commit; rw [e_k]; exact if_neg (by omega)]; exact ⟨hq, hok, v3, v4, v14, v16, v17, v23, (fun i => match i with | 15 => F 15 | 16 => F 16 | 17 => F 17 | 2 => F 2 | 3 => F 3 | 4 => F 4 | 5 => F 5 | i => F i), rm_, hF2, hR_, hA_, hB_, hH_, hC_, hZ_, hV_, hL_⟩
              have fr9 : hfr g g_12 (mS mm q) := fr.mono (by simp)
              exact hend _ _ _ _ _ _ _ _ (by decide) (by decide) rfl (⟨fr9, hrep, fun h9 => by rw [show o_commit (nI k) S = (2, 0, S) by unfold o_commit; rw [e_k]; exact if_neg (by omega)] at h9 ⊢; cases h9⟩) hg hS dMM_commit_40
          · skip
            exact absurd hr_ (by decide)
    · skip
      rw [← nI_0] at c_7
      have c_7 : 1 = 0 := (nI_eq (by omega) (by omega)).mp c_7
      exact absurd c_7 (by decide)
  · skip
    obtain ⟨ho, hn_k⟩ := hp_1
    subst ho
    have e_k : ix r 6 = none := ix_none hn_k
    refine lv_istore_n (lv' := [(2, .int (nI 0)), (0, .ref mm), (1, .int r)]) S0.1 S0.2.1 dMM_commit_4 rfl hl (by decide) rfl (fun ls hl => ?_)
    refine lv_aload_n S0.1 S0.2.1 dMM_commit_5 rfl (lv_at hl 1 rfl) ?_
    refine lv_iload_n S0.1 S0.2.1 dMM_commit_6 rfl (lv_at hl 0 rfl) ?_
    refine lv_if_ne (tgt := 14) S0.1 S0.2.1 dMM_commit_7 (by decide) (fun c_7 => ?_) (fun c_7 => ?_)
    · skip
      rw [← nI_0] at c_7
      have c_7 : ¬ (0 = 0) := fun h => c_7 ((nI_eq (by omega) (by omega)).mpr h)
      exact absurd c_7 (by decide)
    · skip
      rw [← nI_0] at c_7
      have c_7 : 0 = 0 := (nI_eq (by omega) (by omega)).mp c_7
      refine lv_iconst (v := nI 1) S0.1 S0.2.1 dMM_commit_10 (by decide) ?_
      refine lv_goto (tgt := 15) S0.1 S0.2.1 dMM_commit_11 (by decide) ?_
      refine lv_iload_n S0.1 S0.2.1 dMM_commit_15 rfl (lv_at hl 0 rfl) ?_
      refine lv_if_eq (tgt := 32) S0.1 S0.2.1 dMM_commit_16 (by decide) (fun c_16 => ?_) (fun c_16 => ?_)
      · skip
        rw [← nI_0] at c_16
        have c_16 : 0 = 0 := (nI_eq (by omega) (by omega)).mp c_16
        refine lv_iconst (v := nI 0) S0.1 S0.2.1 dMM_commit_32 (by decide) ?_
        refine hw_Vi (As := [.int (nI 1), .int (nI 0)]) (rest := []) S0 hK hg hS hA0 h0 rfl (c_MM_refuse l D cI cR cJ g _ mm q hq (nI t) v3 v4 (nI S.2.1.length) (nI S.2.2.1.length) v14 v16 v17 (nI S.2.2.2.1.length) v23 (nI S.2.2.2.2.1.length) 1 0 (by decide) (by decide) h0) kMM_refuse lm_MM_72 (hR.call rfl) rfl hl.1 rfl (Nat.le_of_ble_eq_true rfl) dMM_commit_33 (hR.new (by decide) (by decide)) (fun r_33 g_13 H locs hp_33 hg hS => ?_)
        obtain ⟨frr, rm_, hp_33⟩ := hp_33
        have rm_ : g_13 mm = some (mmC q (nI 1) v3 v4 (nI S.2.1.length) (nI S.2.2.1.length) v14 v16 v17 (nI S.2.2.2.1.length) v23 (nI S.2.2.2.2.1.length)) := rm_
        have k13_0 := frr.at (h_nm (h_ne hsizes h0 (fun h => by cases h)) h_n0) hsizes
        have k13_1 := frr.at (h_nm (h_ne hlines h0 (fun h => by cases h)) h_n0) hlines
        have k13_2 := frr.at (h_nm (h_ne hversionSizes h0 (fun h => by cases h)) h_n0) hversionSizes
        have k13_3 := frr.at (h_nm (h_ne hversionLines h0 (fun h => by cases h)) h_n0) hversionLines
        have k13_4 := frr.at (h_nm (h_ne horigins h0 (fun h => by cases h)) h_n0) horigins
        have k13_5 := frr.at (h_nm (h_ne hx h0 (fun h => by cases h)) h_n0) hx
        have k13_6 := frr.at (h_nm (h_ne hy h0 (fun h => by cases h)) h_n0) hy
        have k13_7 := frr.at (h_nm (h_ne hbest h0 (fun h => by cases h)) h_n0) hbest
        have k13_8 := frr.at (h_nm (h_ne hpartner h0 (fun h => by cases h)) h_n0) hpartner
        have fr := fr.call frr (by simp)
        rcases hp_33 with ⟨ho, hr_⟩ | ⟨ho, hr_⟩
        · skip
          subst ho
          refine lv_if_eq (tgt := 41) S0.1 S0.2.1 dMM_commit_36 (by decide) (fun c_36 => ?_) (fun c_36 => ?_)
          · skip
            rw [← nI_0] at c_36
            have c_36 : 1 = 0 := (nI_eq (by omega) (by omega)).mp c_36
            exact absurd c_36 (by decide)
          · skip
            rw [← nI_0] at c_36
            have c_36 : ¬ (1 = 0) := fun h => c_36 ((nI_eq (by omega) (by omega)).mpr h)
            refine lv_iconst (v := nI 0) S0.1 S0.2.1 dMM_commit_39 (by decide) ?_
            have eop : o_commit r S = (1, 0, S) := by unfold o_commit; rw [e_k]
            have hF2 : ∀ i, i < 18 → g_13 (q i) = some (.inl (cI, mSz i, .inl ((fun i => match i with | 15 => F 15 | 16 => F 16 | 17 => F 17 | 2 => F 2 | 3 => F 3 | 4 => F 4 | 5 => F 5 | i => F i) i))) := by
              intro i hi
              match i, hi with
              | 0, _ => exact fr.at (h_nm (h_ne (hF 0 (by decide)) h0 (fun h => by cases h)) (h_nm (qne hq (by decide) (by decide) (by decide)) (h_nm (qne hq (by decide) (by decide) (by decide)) (h_nm (qne hq (by decide) (by decide) (by decide)) (h_nm (qne hq (by decide) (by decide) (by decide)) (h_nm (qne hq (by decide) (by decide) (by decide)) (h_nm (qne hq (by decide) (by decide) (by decide)) (h_nm (qne hq (by decide) (by decide) (by decide)) h_n0)))))))) (hF 0 (by decide))
              | 1, _ => exact fr.at (h_nm (h_ne (hF 1 (by decide)) h0 (fun h => by cases h)) (h_nm (qne hq (by decide) (by decide) (by decide)) (h_nm (qne hq (by decide) (by decide) (by decide)) (h_nm (qne hq (by decide) (by decide) (by decide)) (h_nm (qne hq (by decide) (by decide) (by decide)) (h_nm (qne hq (by decide) (by decide) (by decide)) (h_nm (qne hq (by decide) (by decide) (by decide)) (h_nm (qne hq (by decide) (by decide) (by decide)) h_n0)))))))) (hF 1 (by decide))
              | 2, _ => exact k13_5
              | 3, _ => exact k13_6
              | 4, _ => exact k13_7
              | 5, _ => exact k13_8
              | 6, _ => exact fr.at (h_nm (h_ne (hF 6 (by decide)) h0 (fun h => by cases h)) (h_nm (qne hq (by decide) (by decide) (by decide)) (h_nm (qne hq (by decide) (by decide) (by decide)) (h_nm (qne hq (by decide) (by decide) (by decide)) (h_nm (qne hq (by decide) (by decide) (by decide)) (h_nm (qne hq (by decide) (by decide) (by decide)) (h_nm (qne hq (by decide) (by decide) (by decide)) (h_nm (qne hq (by decide) (by decide) (by decide)) h_n0)))))))) (hF 6 (by decide))
              | 7, _ => exact fr.at (h_nm (h_ne (hF 7 (by decide)) h0 (fun h => by cases h)) (h_nm (qne hq (by decide) (by decide) (by decide)) (h_nm (qne hq (by decide) (by decide) (by decide)) (h_nm (qne hq (by decide) (by decide) (by decide)) (h_nm (qne hq (by decide) (by decide) (by decide)) (h_nm (qne hq (by decide) (by decide) (by decide)) (h_nm (qne hq (by decide) (by decide) (by decide)) (h_nm (qne hq (by decide) (by decide) (by decide)) h_n0)))))))) (hF 7 (by decide))
              | 8, _ => exact fr.at (h_nm (h_ne (hF 8 (by decide)) h0 (fun h => by cases h)) (h_nm (qne hq (by decide) (by decide) (by decide)) (h_nm (qne hq (by decide) (by decide) (by decide)) (h_nm (qne hq (by decide) (by decide) (by decide)) (h_nm (qne hq (by decide) (by decide) (by decide)) (h_nm (qne hq (by decide) (by decide) (by decide)) (h_nm (qne hq (by decide) (by decide) (by decide)) (h_nm (qne hq (by decide) (by decide) (by decide)) h_n0)))))))) (hF 8 (by decide))
              | 9, _ => exact fr.at (h_nm (h_ne (hF 9 (by decide)) h0 (fun h => by cases h)) (h_nm (qne hq (by decide) (by decide) (by decide)) (h_nm (qne hq (by decide) (by decide) (by decide)) (h_nm (qne hq (by decide) (by decide) (by decide)) (h_nm (qne hq (by decide) (by decide) (by decide)) (h_nm (qne hq (by decide) (by decide) (by decide)) (h_nm (qne hq (by decide) (by decide) (by decide)) (h_nm (qne hq (by decide) (by decide) (by decide)) h_n0)))))))) (hF 9 (by decide))
              | 10, _ => exact fr.at (h_nm (h_ne (hF 10 (by decide)) h0 (fun h => by cases h)) (h_nm (qne hq (by decide) (by decide) (by decide)) (h_nm (qne hq (by decide) (by decide) (by decide)) (h_nm (qne hq (by decide) (by decide) (by decide)) (h_nm (qne hq (by decide) (by decide) (by decide)) (h_nm (qne hq (by decide) (by decide) (by decide)) (h_nm (qne hq (by decide) (by decide) (by decide)) (h_nm (qne hq (by decide) (by decide) (by decide)) h_n0)))))))) (hF 10 (by decide))
              | 11, _ => exact fr.at (h_nm (h_ne (hF 11 (by decide)) h0 (fun h => by cases h)) (h_nm (qne hq (by decide) (by decide) (by decide)) (h_nm (qne hq (by decide) (by decide) (by decide)) (h_nm (qne hq (by decide) (by decide) (by decide)) (h_nm (qne hq (by decide) (by decide) (by decide)) (h_nm (qne hq (by decide) (by decide) (by decide)) (h_nm (qne hq (by decide) (by decide) (by decide)) (h_nm (qne hq (by decide) (by decide) (by decide)) h_n0)))))))) (hF 11 (by decide))
              | 12, _ => exact fr.at (h_nm (h_ne (hF 12 (by decide)) h0 (fun h => by cases h)) (h_nm (qne hq (by decide) (by decide) (by decide)) (h_nm (qne hq (by decide) (by decide) (by decide)) (h_nm (qne hq (by decide) (by decide) (by decide)) (h_nm (qne hq (by decide) (by decide) (by decide)) (h_nm (qne hq (by decide) (by decide) (by decide)) (h_nm (qne hq (by decide) (by decide) (by decide)) (h_nm (qne hq (by decide) (by decide) (by decide)) h_n0)))))))) (hF 12 (by decide))
              | 13, _ => exact fr.at (h_nm (h_ne (hF 13 (by decide)) h0 (fun h => by cases h)) (h_nm (qne hq (by decide) (by decide) (by decide)) (h_nm (qne hq (by decide) (by decide) (by decide)) (h_nm (qne hq (by decide) (by decide) (by decide)) (h_nm (qne hq (by decide) (by decide) (by decide)) (h_nm (qne hq (by decide) (by decide) (by decide)) (h_nm (qne hq (by decide) (by decide) (by decide)) (h_nm (qne hq (by decide) (by decide) (by decide)) h_n0)))))))) (hF 13 (by decide))
              | 14, _ => exact fr.at (h_nm (h_ne (hF 14 (by decide)) h0 (fun h => by cases h)) (h_nm (qne hq (by decide) (by decide) (by decide)) (h_nm (qne hq (by decide) (by decide) (by decide)) (h_nm (qne hq (by decide) (by decide) (by decide)) (h_nm (qne hq (by decide) (by decide) (by decide)) (h_nm (qne hq (by decide) (by decide) (by decide)) (h_nm (qne hq (by decide) (by decide) (by decide)) (h_nm (qne hq (by decide) (by decide) (by decide)) h_n0)))))))) (hF 14 (by decide))
              | 15, _ => exact k13_2
              | 16, _ => exact k13_3
              | 17, _ => exact k13_4
              | i + 18, h => omega
            have hrep : repM cI g_13 mm q (o_commit r S).1 (o_commit r S).2.2 := by rw [eop]; exact ⟨hq, hok, v3, v4, v14, v16, v17, v23, (fun i => match i with | 15 => F 15 | 16 => F 16 | 17 => F 17 | 2 => F 2 | 3 => F 3 | 4 => F 4 | 5 => F 5 | i => F i), rm_, hF2, hR_, hA_, hB_, hH_, hC_, hZ_, hV_, hL_⟩
            have fr9 : hfr g g_13 (mS mm q) := fr.mono (by simp)
            exact hend _ _ _ _ _ _ _ _ (by decide) (by decide) rfl (⟨fr9, hrep, fun h9 => by rw [eop] at h9 ⊢; cases h9⟩) hg hS dMM_commit_40
        · skip
          exact absurd hr_ (by decide)
      · skip
        rw [← nI_0] at c_16
        have c_16 : ¬ (0 = 0) := fun h => c_16 ((nI_eq (by omega) (by omega)).mpr h)
        exact absurd c_16 (by decide)
