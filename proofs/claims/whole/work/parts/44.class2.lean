/-! THE CLASS, on -/
set_option maxRecDepth 100000 in
set_option maxHeartbeats 4000000 in
theorem c_MR_common (l : Launch) (D : va_G) (cI cR cJ : ClassId) (g : Nat → Option va_E) (sz : Nat) (hst : l.stackTraces = false) (x : Nat → Nat) (S : ST) (ja jb : Int32) (HX : repX cI cR g x S) : xMi l yMR_common cMR_common 5 .int (hRm 7 115 2 12) D (hT cI cR cJ) g sz [.ref (x 0), .int ja, .int jb] (fun o g1 => hfr g g1 (xS x) ∧ repX cI cR g1 x (o_common ja jb S).2.2 ∧ (o_common ja jb S).1 = 0 ∧ o = (o_common ja jb S).2.1) (fun E_ g1 => hfr g g1 (xS x) ∧ repX cI cR g1 x (o_common ja jb S).2.2 ∧ ((o_common ja jb S).1 = 1 ∧ E_ = eI ∨ (o_common ja jb S).1 = 2 ∧ E_ = eU)) := by
  refine xMi_of (by decide +kernel) rfl (Nat.le_of_ble_eq_true rfl) hst ⟨by decide, by decide⟩ ?_
  intro pX eV RX sX mX argsX belowX methX cX QX AX hR S0 hnm hsz hg hK hS hA0 hx hz hend hout hthr ls hl
  have hl : lv_has ls 5 [(0, .ref (x 0)), (1, .int ja), (2, .int jb)] := hl
  have HX0 := HX
  obtain ⟨hxi, hok, b, F, V, U, z, fq, FR, hb, hO, hfq, hrow, hv9, hA_, hB_, hv12, hH_, hv19, hZ_, hV_, hv22, hL_, hvm, hC_⟩ := HX
  have hO0 : g (x 0) = some (.inr (7, [.ref (x 1), .ref (x 9), .ref (x 12), .ref (x 16), .ref (x 19), .ref (x (24 + 7 * b)), .ref (x (31 - 7 * b))])) := hO 0 (by decide)
  have hO1 : g (x 1) = some (.inl (cR, 6, .inr (.inr (.inr (.inr fq))))) := hO 1 (by decide)
  have hO2 : g (x 2) = some (.inl (cI, 3721, .inl (F 2))) := hO 2 (by decide)
  have hO9 : g (x 9) = some (.inr (0, [.ref (x 10), .ref (x 11), .int (V 9), .ref (x 2)])) := hO 9 (by decide)
  rw [hv9] at hO9
  have hO10 : g (x 10) = some (.inl (cI, 60, .inl (F 10))) := hO 10 (by decide)
  have hO11 : g (x 11) = some (.inl (cI, 60, .inl (F 11))) := hO 11 (by decide)
  have fr : hfr g g [x 9, x 10, x 11, x 2] := hfr.rf
  refine lv_aload_n S0.1 S0.2.1 dMR_common_0 rfl (lv_at hl 0 rfl) ?_
  refine lv_iload_n S0.1 S0.2.1 dMR_common_1 rfl (lv_at hl 1 rfl) ?_
  refine hx_Vr (As := [.int ja]) (rest := []) S0 hK hg hS hA0 hx hz hO0 rfl (c_MR_rowAt l D cI cR cJ g _ hst x fq ja _ _ _ _ _ _ hO0 hO1 hfq) kMR_rowAt lm_MR_64 (hR.call rfl) rfl hl.1 rfl (Nat.le_of_ble_eq_true rfl) dMR_common_2 (hR.new (by decide) (by decide)) (fun E_ ce_ q_ g_1 H locs hpx hg hS hq1 hq2 hq3 => ?_) (fun r_2 g_1 H locs hp_2 hg hS => ?_)
  · skip
    obtain ⟨eE, eg, e_i⟩ := hpx
    subst eE
    rw [eg] at hg
    have eop : o_common ja jb S = (1, 0, S) := by unfold o_common; rw [e_i]
    have hrep : repX cI cR g x S := HX0
    have fr9 : hfr g g (xS x) := hfr.rf
    exact hout _ _ _ g _ _ _ _ _ _ _ (by decide) (by decide) (⟨fr9, by rw [eop]; exact hrep, Or.inl ⟨by rw [eop], rfl⟩⟩) hg hS hq1 hq2 hq3
  obtain ⟨eg, i, hk_i, ek, er⟩ := hp_2
  subst er
  subst ek
  rw [eg] at hg
  have e_i : ix (nI i) 6 = some i := ix_some hk_i (by decide)
  obtain ⟨ro_i, rl_i, rp_i⟩ := hrow i hk_i
  have hn_i := hok.1 i hk_i
  refine lv_astore_n (lv' := [(3, .ref (x (38 + i))), (0, .ref (x 0)), (1, .int (nI i)), (2, .int jb)]) S0.1 S0.2.1 dMR_common_5 rfl hl (by decide) rfl (fun ls hl => ?_)
  refine lv_aload_n S0.1 S0.2.1 dMR_common_6 rfl (lv_at hl 1 rfl) ?_
  refine lv_iload_n S0.1 S0.2.1 dMR_common_7 rfl (lv_at hl 3 rfl) ?_
  refine hx_Vr (As := [.int jb]) (rest := []) S0 hK hg hS hA0 hx hz hO0 rfl (c_MR_rowAt l D cI cR cJ g _ hst x fq jb _ _ _ _ _ _ hO0 hO1 hfq) kMR_rowAt lm_MR_64 (hR.call rfl) rfl hl.1 rfl (Nat.le_of_ble_eq_true rfl) dMR_common_8 (hR.new (by decide) (by decide)) (fun E_ ce_ q_ g_2 H locs hpx hg hS hq1 hq2 hq3 => ?_) (fun r_8 g_2 H locs hp_8 hg hS => ?_)
  · skip
    obtain ⟨eE, eg, e_j⟩ := hpx
    subst eE
    rw [eg] at hg
    have eop : o_common (nI i) jb S = (1, 0, S) := by unfold o_common; rw [e_i, e_j]
    have hrep : repX cI cR g x S := HX0
    have fr9 : hfr g g (xS x) := hfr.rf
    exact hout _ _ _ g _ _ _ _ _ _ _ (by decide) (by decide) (⟨fr9, by rw [eop]; exact hrep, Or.inl ⟨by rw [eop], rfl⟩⟩) hg hS hq1 hq2 hq3
  obtain ⟨eg, j, hk_j, ek, er⟩ := hp_8
  subst er
  subst ek
  rw [eg] at hg
  have e_j : ix (nI j) 6 = some j := ix_some hk_j (by decide)
  obtain ⟨ro_j, rl_j, rp_j⟩ := hrow j hk_j
  have hn_j := hok.1 j hk_j
  refine lv_astore (lv' := [(4, .ref (x (38 + j))), (3, .ref (x (38 + i))), (0, .ref (x 0)), (1, .int (nI i)), (2, .int (nI j))]) S0.1 S0.2.1 dMR_common_11 hl (by decide) rfl (fun ls hl => ?_)
  refine lv_aload_n S0.1 S0.2.1 dMR_common_13 rfl (lv_at hl 2 rfl) ?_
  refine hw_get S0 hK hg hO0 rfl inMR 1 (by decide) lf_MR_23 rfl rfl dMR_common_14 ?_
  refine lv_aload_n S0.1 S0.2.1 dMR_common_17 rfl (lv_at hl 1 rfl) ?_
  refine lv_aload S0.1 S0.2.1 dMR_common_18 (lv_at hl 0 rfl) ?_
  refine hw_Vv (As := [.ref (x (38 + i)), .ref (x (38 + j))]) (rest := []) S0 hK hg hS hA0 hO9 rfl (c_Co_find l D cI cR cJ g _ (x 9) (x 10) (x 11) (x 2) (x (38 + i)) (x (44 + i)) 60 (x (38 + j)) (x (44 + j)) 60 (nI S.2.1.length) (S.1 i) (S.1 j) (FR i) (FR j) (F 2) hO9 hO2 ro_i rl_i ro_j rl_j rp_i rp_j (xne44 hxi hk_i (by decide)) (xne44 hxi hk_j (by decide)) (by omega) (by omega) (by omega) (by omega) (by omega) (by omega) (F 10) (F 11) hO10 hO11 (xne44 hxi hk_i (by decide)) (xne44 hxi hk_i (by decide)) (xne44 hxi hk_j (by decide)) (xne44 hxi hk_j (by decide)) (xne hxi (by decide) (by decide) (by decide)) (xne hxi (by decide) (by decide) (by decide)) (xne hxi (by decide) (by decide) (by decide))) kCo_find lm_MR_91 (hR.call rfl) rfl hl.1 rfl (Nat.le_of_ble_eq_true rfl) dMR_common_20 (hR.new (by decide) (by decide)) (fun g_3 H locs hp_20 hg hS => ?_)
  obtain ⟨frC, fA, fB, fL, a0, a1, a2, a3, hA2, hB2⟩ := hp_20
  have k3_0 := frC.at (h_nm (xne hxi (by decide) (by decide) (by decide)) (h_nm (xne hxi (by decide) (by decide) (by decide)) (h_nm (xne hxi (by decide) (by decide) (by decide)) (h_nm (xne hxi (by decide) (by decide) (by decide)) h_n0)))) hO0
  have k3_1 := frC.at (h_nm (xne hxi (by decide) (by decide) (by decide)) (h_nm (xne hxi (by decide) (by decide) (by decide)) (h_nm (xne hxi (by decide) (by decide) (by decide)) (h_nm (xne hxi (by decide) (by decide) (by decide)) h_n0)))) hO1
  have k3_2 := frC.at (h_nm (xne38 hxi hk_i (by decide)) (h_nm (xne38 hxi hk_i (by decide)) (h_nm (xne38 hxi hk_i (by decide)) (h_nm (xne38 hxi hk_i (by decide)) h_n0)))) ro_i
  have k3_3 := frC.at (h_nm (xne44 hxi hk_i (by decide)) (h_nm (xne44 hxi hk_i (by decide)) (h_nm (xne44 hxi hk_i (by decide)) (h_nm (xne44 hxi hk_i (by decide)) h_n0)))) rl_i
  have k3_4 := frC.at (h_nm (xne38 hxi hk_j (by decide)) (h_nm (xne38 hxi hk_j (by decide)) (h_nm (xne38 hxi hk_j (by decide)) (h_nm (xne38 hxi hk_j (by decide)) h_n0)))) ro_j
  have k3_5 := frC.at (h_nm (xne44 hxi hk_j (by decide)) (h_nm (xne44 hxi hk_j (by decide)) (h_nm (xne44 hxi hk_j (by decide)) (h_nm (xne44 hxi hk_j (by decide)) h_n0)))) rl_j
  have fr := fr.call frC (by simp)
  refine lv_aload_n S0.1 S0.2.1 dMR_common_23 rfl (lv_at hl 2 rfl) ?_
  refine hw_get S0 hK hg k3_0 rfl inMR 1 (by decide) lf_MR_23 rfl rfl dMR_common_24 ?_
  refine hw_get S0 hK hg a0 rfl inCo 2 (by decide) lf_MR_95 rfl rfl dMR_common_27 ?_
  have hpl := prs_len (S.1 i) (S.1 j) (S.1 i).length
  have eop : o_common (nI i) (nI j) S = (0, nI (prs (S.1 i) (S.1 j) (S.1 i).length).length, (S.1, (prs (S.1 i) (S.1 j) (S.1 i).length), S.2.2)) := by unfold o_common; rw [e_i, e_j]
  have hO2 : ∀ i9, i9 < 38 → g_3 (x i9) = some (xcl cI cR x b (fun i9 => match i9 with | 2 => fL | 10 => fA | 11 => fB | i9 => F i9) (fun i9 => match i9 with | 9 => nI ((prs (S.1 i) (S.1 j) (S.1 i).length).length) | i9 => V i9) U z fq i9) := by
    intro i9 hi9
    match i9, hi9 with
    | 0, _ => exact fr.at (h_nm (xne hxi (by decide) (by decide) (by decide)) (h_nm (xne hxi (by decide) (by decide) (by decide)) (h_nm (xne hxi (by decide) (by decide) (by decide)) (h_nm (xne hxi (by decide) (by decide) (by decide)) h_n0)))) (hO 0 (by decide))
    | 1, _ => exact fr.at (h_nm (xne hxi (by decide) (by decide) (by decide)) (h_nm (xne hxi (by decide) (by decide) (by decide)) (h_nm (xne hxi (by decide) (by decide) (by decide)) (h_nm (xne hxi (by decide) (by decide) (by decide)) h_n0)))) (hO 1 (by decide))
    | 2, _ => exact a3
    | 3, _ => exact fr.at (h_nm (xne hxi (by decide) (by decide) (by decide)) (h_nm (xne hxi (by decide) (by decide) (by decide)) (h_nm (xne hxi (by decide) (by decide) (by decide)) (h_nm (xne hxi (by decide) (by decide) (by decide)) h_n0)))) (hO 3 (by decide))
    | 4, _ => exact fr.at (h_nm (xne hxi (by decide) (by decide) (by decide)) (h_nm (xne hxi (by decide) (by decide) (by decide)) (h_nm (xne hxi (by decide) (by decide) (by decide)) (h_nm (xne hxi (by decide) (by decide) (by decide)) h_n0)))) (hO 4 (by decide))
    | 5, _ => exact fr.at (h_nm (xne hxi (by decide) (by decide) (by decide)) (h_nm (xne hxi (by decide) (by decide) (by decide)) (h_nm (xne hxi (by decide) (by decide) (by decide)) (h_nm (xne hxi (by decide) (by decide) (by decide)) h_n0)))) (hO 5 (by decide))
    | 6, _ => exact fr.at (h_nm (xne hxi (by decide) (by decide) (by decide)) (h_nm (xne hxi (by decide) (by decide) (by decide)) (h_nm (xne hxi (by decide) (by decide) (by decide)) (h_nm (xne hxi (by decide) (by decide) (by decide)) h_n0)))) (hO 6 (by decide))
    | 7, _ => exact fr.at (h_nm (xne hxi (by decide) (by decide) (by decide)) (h_nm (xne hxi (by decide) (by decide) (by decide)) (h_nm (xne hxi (by decide) (by decide) (by decide)) (h_nm (xne hxi (by decide) (by decide) (by decide)) h_n0)))) (hO 7 (by decide))
    | 8, _ => exact fr.at (h_nm (xne hxi (by decide) (by decide) (by decide)) (h_nm (xne hxi (by decide) (by decide) (by decide)) (h_nm (xne hxi (by decide) (by decide) (by decide)) (h_nm (xne hxi (by decide) (by decide) (by decide)) h_n0)))) (hO 8 (by decide))
    | 9, _ => exact a0
    | 10, _ => exact a1
    | 11, _ => exact a2
    | 12, _ => exact fr.at (h_nm (xne hxi (by decide) (by decide) (by decide)) (h_nm (xne hxi (by decide) (by decide) (by decide)) (h_nm (xne hxi (by decide) (by decide) (by decide)) (h_nm (xne hxi (by decide) (by decide) (by decide)) h_n0)))) (hO 12 (by decide))
    | 13, _ => exact fr.at (h_nm (xne hxi (by decide) (by decide) (by decide)) (h_nm (xne hxi (by decide) (by decide) (by decide)) (h_nm (xne hxi (by decide) (by decide) (by decide)) (h_nm (xne hxi (by decide) (by decide) (by decide)) h_n0)))) (hO 13 (by decide))
    | 14, _ => exact fr.at (h_nm (xne hxi (by decide) (by decide) (by decide)) (h_nm (xne hxi (by decide) (by decide) (by decide)) (h_nm (xne hxi (by decide) (by decide) (by decide)) (h_nm (xne hxi (by decide) (by decide) (by decide)) h_n0)))) (hO 14 (by decide))
    | 15, _ => exact fr.at (h_nm (xne hxi (by decide) (by decide) (by decide)) (h_nm (xne hxi (by decide) (by decide) (by decide)) (h_nm (xne hxi (by decide) (by decide) (by decide)) (h_nm (xne hxi (by decide) (by decide) (by decide)) h_n0)))) (hO 15 (by decide))
    | 16, _ => exact fr.at (h_nm (xne hxi (by decide) (by decide) (by decide)) (h_nm (xne hxi (by decide) (by decide) (by decide)) (h_nm (xne hxi (by decide) (by decide) (by decide)) (h_nm (xne hxi (by decide) (by decide) (by decide)) h_n0)))) (hO 16 (by decide))
    | 17, _ => exact fr.at (h_nm (xne hxi (by decide) (by decide) (by decide)) (h_nm (xne hxi (by decide) (by decide) (by decide)) (h_nm (xne hxi (by decide) (by decide) (by decide)) (h_nm (xne hxi (by decide) (by decide) (by decide)) h_n0)))) (hO 17 (by decide))
    | 18, _ => exact fr.at (h_nm (xne hxi (by decide) (by decide) (by decide)) (h_nm (xne hxi (by decide) (by decide) (by decide)) (h_nm (xne hxi (by decide) (by decide) (by decide)) (h_nm (xne hxi (by decide) (by decide) (by decide)) h_n0)))) (hO 18 (by decide))
    | 19, _ => exact fr.at (h_nm (xne hxi (by decide) (by decide) (by decide)) (h_nm (xne hxi (by decide) (by decide) (by decide)) (h_nm (xne hxi (by decide) (by decide) (by decide)) (h_nm (xne hxi (by decide) (by decide) (by decide)) h_n0)))) (hO 19 (by decide))
    | 20, _ => exact fr.at (h_nm (xne hxi (by decide) (by decide) (by decide)) (h_nm (xne hxi (by decide) (by decide) (by decide)) (h_nm (xne hxi (by decide) (by decide) (by decide)) (h_nm (xne hxi (by decide) (by decide) (by decide)) h_n0)))) (hO 20 (by decide))
    | 21, _ => exact fr.at (h_nm (xne hxi (by decide) (by decide) (by decide)) (h_nm (xne hxi (by decide) (by decide) (by decide)) (h_nm (xne hxi (by decide) (by decide) (by decide)) (h_nm (xne hxi (by decide) (by decide) (by decide)) h_n0)))) (hO 21 (by decide))
    | 22, _ => exact fr.at (h_nm (xne hxi (by decide) (by decide) (by decide)) (h_nm (xne hxi (by decide) (by decide) (by decide)) (h_nm (xne hxi (by decide) (by decide) (by decide)) (h_nm (xne hxi (by decide) (by decide) (by decide)) h_n0)))) (hO 22 (by decide))
    | 23, _ => exact fr.at (h_nm (xne hxi (by decide) (by decide) (by decide)) (h_nm (xne hxi (by decide) (by decide) (by decide)) (h_nm (xne hxi (by decide) (by decide) (by decide)) (h_nm (xne hxi (by decide) (by decide) (by decide)) h_n0)))) (hO 23 (by decide))
    | 24, _ => exact fr.at (h_nm (xne hxi (by decide) (by decide) (by decide)) (h_nm (xne hxi (by decide) (by decide) (by decide)) (h_nm (xne hxi (by decide) (by decide) (by decide)) (h_nm (xne hxi (by decide) (by decide) (by decide)) h_n0)))) (hO 24 (by decide))
    | 25, _ => exact fr.at (h_nm (xne hxi (by decide) (by decide) (by decide)) (h_nm (xne hxi (by decide) (by decide) (by decide)) (h_nm (xne hxi (by decide) (by decide) (by decide)) (h_nm (xne hxi (by decide) (by decide) (by decide)) h_n0)))) (hO 25 (by decide))
    | 26, _ => exact fr.at (h_nm (xne hxi (by decide) (by decide) (by decide)) (h_nm (xne hxi (by decide) (by decide) (by decide)) (h_nm (xne hxi (by decide) (by decide) (by decide)) (h_nm (xne hxi (by decide) (by decide) (by decide)) h_n0)))) (hO 26 (by decide))
    | 27, _ => exact fr.at (h_nm (xne hxi (by decide) (by decide) (by decide)) (h_nm (xne hxi (by decide) (by decide) (by decide)) (h_nm (xne hxi (by decide) (by decide) (by decide)) (h_nm (xne hxi (by decide) (by decide) (by decide)) h_n0)))) (hO 27 (by decide))
    | 28, _ => exact fr.at (h_nm (xne hxi (by decide) (by decide) (by decide)) (h_nm (xne hxi (by decide) (by decide) (by decide)) (h_nm (xne hxi (by decide) (by decide) (by decide)) (h_nm (xne hxi (by decide) (by decide) (by decide)) h_n0)))) (hO 28 (by decide))
    | 29, _ => exact fr.at (h_nm (xne hxi (by decide) (by decide) (by decide)) (h_nm (xne hxi (by decide) (by decide) (by decide)) (h_nm (xne hxi (by decide) (by decide) (by decide)) (h_nm (xne hxi (by decide) (by decide) (by decide)) h_n0)))) (hO 29 (by decide))
    | 30, _ => exact fr.at (h_nm (xne hxi (by decide) (by decide) (by decide)) (h_nm (xne hxi (by decide) (by decide) (by decide)) (h_nm (xne hxi (by decide) (by decide) (by decide)) (h_nm (xne hxi (by decide) (by decide) (by decide)) h_n0)))) (hO 30 (by decide))
    | 31, _ => exact fr.at (h_nm (xne hxi (by decide) (by decide) (by decide)) (h_nm (xne hxi (by decide) (by decide) (by decide)) (h_nm (xne hxi (by decide) (by decide) (by decide)) (h_nm (xne hxi (by decide) (by decide) (by decide)) h_n0)))) (hO 31 (by decide))
    | 32, _ => exact fr.at (h_nm (xne hxi (by decide) (by decide) (by decide)) (h_nm (xne hxi (by decide) (by decide) (by decide)) (h_nm (xne hxi (by decide) (by decide) (by decide)) (h_nm (xne hxi (by decide) (by decide) (by decide)) h_n0)))) (hO 32 (by decide))
    | 33, _ => exact fr.at (h_nm (xne hxi (by decide) (by decide) (by decide)) (h_nm (xne hxi (by decide) (by decide) (by decide)) (h_nm (xne hxi (by decide) (by decide) (by decide)) (h_nm (xne hxi (by decide) (by decide) (by decide)) h_n0)))) (hO 33 (by decide))
    | 34, _ => exact fr.at (h_nm (xne hxi (by decide) (by decide) (by decide)) (h_nm (xne hxi (by decide) (by decide) (by decide)) (h_nm (xne hxi (by decide) (by decide) (by decide)) (h_nm (xne hxi (by decide) (by decide) (by decide)) h_n0)))) (hO 34 (by decide))
    | 35, _ => exact fr.at (h_nm (xne hxi (by decide) (by decide) (by decide)) (h_nm (xne hxi (by decide) (by decide) (by decide)) (h_nm (xne hxi (by decide) (by decide) (by decide)) (h_nm (xne hxi (by decide) (by decide) (by decide)) h_n0)))) (hO 35 (by decide))
    | 36, _ => exact fr.at (h_nm (xne hxi (by decide) (by decide) (by decide)) (h_nm (xne hxi (by decide) (by decide) (by decide)) (h_nm (xne hxi (by decide) (by decide) (by decide)) (h_nm (xne hxi (by decide) (by decide) (by decide)) h_n0)))) (hO 36 (by decide))
    | 37, _ => exact fr.at (h_nm (xne hxi (by decide) (by decide) (by decide)) (h_nm (xne hxi (by decide) (by decide) (by decide)) (h_nm (xne hxi (by decide) (by decide) (by decide)) (h_nm (xne hxi (by decide) (by decide) (by decide)) h_n0)))) (hO 37 (by decide))
    | i9 + 38, h => omega
  have hrow2 : ∀ i9, i9 < 6 → g_3 (x (38 + i9)) = some (.inr (5, [.ref (x (44 + i9)), .int (nI ((S.1, (prs (S.1 i) (S.1 j) (S.1 i).length), S.2.2).1 i9).length)])) ∧ g_3 (x (44 + i9)) = some (.inl (cI, 60, .inl (FR i9))) ∧ rp (FR i9) ((S.1, (prs (S.1 i) (S.1 j) (S.1 i).length), S.2.2).1 i9) := by
    intro i9 hi9
    obtain ⟨d1, d2, d3⟩ := hrow i9 hi9
    exact ⟨fr.at (h_nm (xne38 hxi hi9 (by decide)) (h_nm (xne38 hxi hi9 (by decide)) (h_nm (xne38 hxi hi9 (by decide)) (h_nm (xne38 hxi hi9 (by decide)) h_n0)))) d1, fr.at (h_nm (xne44 hxi hi9 (by decide)) (h_nm (xne44 hxi hi9 (by decide)) (h_nm (xne44 hxi hi9 (by decide)) (h_nm (xne44 hxi hi9 (by decide)) h_n0)))) d2, d3⟩
  have hrep : repX cI cR g_3 x (S.1, (prs (S.1 i) (S.1 j) (S.1 i).length), S.2.2) := ⟨hxi, ⟨hok.1, show (prs (S.1 i) (S.1 j) (S.1 i).length).length ≤ 60 by omega, hok.2.2⟩, b, (fun i9 => match i9 with | 2 => fL | 10 => fA | 11 => fB | i9 => F i9), (fun i9 => match i9 with | 9 => nI ((prs (S.1 i) (S.1 j) (S.1 i).length).length) | i9 => V i9), U, z, fq, FR, hb, hO2, hfq, hrow2, rfl, hA2, hB2, hv12, hH_, hv19, hZ_, hV_, hv22, hL_, (by rcases (show b = 0 ∨ b = 1 by omega) with rfl | rfl <;> exact hvm), (by rcases (show b = 0 ∨ b = 1 by omega) with rfl | rfl <;> exact hC_)⟩
  have fr9 : hfr g g_3 (xS x) := fr.mono (by intro q hq; simp only [List.mem_cons, List.not_mem_nil, or_false] at hq; rcases hq with rfl | rfl | rfl | rfl <;> exact xS_mem x (by first | decide | omega))
  exact hend _ _ _ _ _ _ _ _ (by decide) (by decide) rfl ⟨fr9, by rw [eop]; exact hrep, by rw [eop], by rw [eop]⟩ hg hS dMR_common_30
set_option maxRecDepth 100000 in
set_option maxHeartbeats 4000000 in
theorem c_MR_hunks (l : Launch) (D : va_G) (cI cR cJ : ClassId) (g : Nat → Option va_E) (sz : Nat) (hst : l.stackTraces = false) (x : Nat → Nat) (S : ST) (ja jb : Int32) (HX : repX cI cR g x S) : xMi l yMR_hunks cMR_hunks 5 .int (hRm 7 115 2 12) D (hT cI cR cJ) g sz [.ref (x 0), .int ja, .int jb] (fun o g1 => hfr g g1 (xS x) ∧ repX cI cR g1 x (o_hunks ja jb S).2.2 ∧ (o_hunks ja jb S).1 = 0 ∧ o = (o_hunks ja jb S).2.1) (fun E_ g1 => hfr g g1 (xS x) ∧ repX cI cR g1 x (o_hunks ja jb S).2.2 ∧ ((o_hunks ja jb S).1 = 1 ∧ E_ = eI ∨ (o_hunks ja jb S).1 = 2 ∧ E_ = eU)) := by
  refine xMi_of (by decide +kernel) rfl (Nat.le_of_ble_eq_true rfl) hst ⟨by decide, by decide⟩ ?_
  intro pX eV RX sX mX argsX belowX methX cX QX AX hR S0 hnm hsz hg hK hS hA0 hx hz hend hout hthr ls hl
  have hl : lv_has ls 5 [(0, .ref (x 0)), (1, .int ja), (2, .int jb)] := hl
  have HX0 := HX
  obtain ⟨hxi, hok, b, F, V, U, z, fq, FR, hb, hO, hfq, hrow, hv9, hA_, hB_, hv12, hH_, hv19, hZ_, hV_, hv22, hL_, hvm, hC_⟩ := HX
  have hO0 : g (x 0) = some (.inr (7, [.ref (x 1), .ref (x 9), .ref (x 12), .ref (x 16), .ref (x 19), .ref (x (24 + 7 * b)), .ref (x (31 - 7 * b))])) := hO 0 (by decide)
  have hO1 : g (x 1) = some (.inl (cR, 6, .inr (.inr (.inr (.inr fq))))) := hO 1 (by decide)
  have hO2 : g (x 2) = some (.inl (cI, 3721, .inl (F 2))) := hO 2 (by decide)
  have hO3 : g (x 3) = some (.inr (0, [.ref (x 4), .ref (x 5), .int (V 3), .ref (x 2)])) := hO 3 (by decide)
  have hO4 : g (x 4) = some (.inl (cI, 60, .inl (F 4))) := hO 4 (by decide)
  have hO5 : g (x 5) = some (.inl (cI, 60, .inl (F 5))) := hO 5 (by decide)
  have hO12 : g (x 12) = some (.inr (1, [.ref (x 13), .int (V 12), .ref (x 3)])) := hO 12 (by decide)
  rw [hv12] at hO12
  have hO13 : g (x 13) = some (.inl (cI, 244, .inl (F 13))) := hO 13 (by decide)
  have fr : hfr g g [x 12, x 13, x 3, x 4, x 5, x 2] := hfr.rf
  refine lv_aload_n S0.1 S0.2.1 dMR_hunks_0 rfl (lv_at hl 0 rfl) ?_
  refine lv_iload_n S0.1 S0.2.1 dMR_hunks_1 rfl (lv_at hl 1 rfl) ?_
  refine hx_Vr (As := [.int ja]) (rest := []) S0 hK hg hS hA0 hx hz hO0 rfl (c_MR_rowAt l D cI cR cJ g _ hst x fq ja _ _ _ _ _ _ hO0 hO1 hfq) kMR_rowAt lm_MR_64 (hR.call rfl) rfl hl.1 rfl (Nat.le_of_ble_eq_true rfl) dMR_hunks_2 (hR.new (by decide) (by decide)) (fun E_ ce_ q_ g_1 H locs hpx hg hS hq1 hq2 hq3 => ?_) (fun r_2 g_1 H locs hp_2 hg hS => ?_)
  · skip
    obtain ⟨eE, eg, e_i⟩ := hpx
    subst eE
    rw [eg] at hg
    have eop : o_hunks ja jb S = (1, 0, S) := by unfold o_hunks; rw [e_i]
    have hrep : repX cI cR g x S := HX0
    have fr9 : hfr g g (xS x) := hfr.rf
    exact hout _ _ _ g _ _ _ _ _ _ _ (by decide) (by decide) (⟨fr9, by rw [eop]; exact hrep, Or.inl ⟨by rw [eop], rfl⟩⟩) hg hS hq1 hq2 hq3
  obtain ⟨eg, i, hk_i, ek, er⟩ := hp_2
  subst er
  subst ek
  rw [eg] at hg
  have e_i : ix (nI i) 6 = some i := ix_some hk_i (by decide)
  obtain ⟨ro_i, rl_i, rp_i⟩ := hrow i hk_i
  have hn_i := hok.1 i hk_i
  refine lv_astore_n (lv' := [(3, .ref (x (38 + i))), (0, .ref (x 0)), (1, .int (nI i)), (2, .int jb)]) S0.1 S0.2.1 dMR_hunks_5 rfl hl (by decide) rfl (fun ls hl => ?_)
  refine lv_aload_n S0.1 S0.2.1 dMR_hunks_6 rfl (lv_at hl 1 rfl) ?_
  refine lv_iload_n S0.1 S0.2.1 dMR_hunks_7 rfl (lv_at hl 3 rfl) ?_
  refine hx_Vr (As := [.int jb]) (rest := []) S0 hK hg hS hA0 hx hz hO0 rfl (c_MR_rowAt l D cI cR cJ g _ hst x fq jb _ _ _ _ _ _ hO0 hO1 hfq) kMR_rowAt lm_MR_64 (hR.call rfl) rfl hl.1 rfl (Nat.le_of_ble_eq_true rfl) dMR_hunks_8 (hR.new (by decide) (by decide)) (fun E_ ce_ q_ g_2 H locs hpx hg hS hq1 hq2 hq3 => ?_) (fun r_8 g_2 H locs hp_8 hg hS => ?_)
  · skip
    obtain ⟨eE, eg, e_j⟩ := hpx
    subst eE
    rw [eg] at hg
    have eop : o_hunks (nI i) jb S = (1, 0, S) := by unfold o_hunks; rw [e_i, e_j]
    have hrep : repX cI cR g x S := HX0
    have fr9 : hfr g g (xS x) := hfr.rf
    exact hout _ _ _ g _ _ _ _ _ _ _ (by decide) (by decide) (⟨fr9, by rw [eop]; exact hrep, Or.inl ⟨by rw [eop], rfl⟩⟩) hg hS hq1 hq2 hq3
  obtain ⟨eg, j, hk_j, ek, er⟩ := hp_8
  subst er
  subst ek
  rw [eg] at hg
  have e_j : ix (nI j) 6 = some j := ix_some hk_j (by decide)
  obtain ⟨ro_j, rl_j, rp_j⟩ := hrow j hk_j
  have hn_j := hok.1 j hk_j
  refine lv_astore (lv' := [(4, .ref (x (38 + j))), (3, .ref (x (38 + i))), (0, .ref (x 0)), (1, .int (nI i)), (2, .int (nI j))]) S0.1 S0.2.1 dMR_hunks_11 hl (by decide) rfl (fun ls hl => ?_)
  refine lv_aload_n S0.1 S0.2.1 dMR_hunks_13 rfl (lv_at hl 2 rfl) ?_
  refine hw_get S0 hK hg hO0 rfl inMR 2 (by decide) lf_MR_32 rfl rfl dMR_hunks_14 ?_
  refine lv_aload_n S0.1 S0.2.1 dMR_hunks_17 rfl (lv_at hl 1 rfl) ?_
  refine lv_aload S0.1 S0.2.1 dMR_hunks_18 (lv_at hl 0 rfl) ?_
  refine hw_Vv (As := [.ref (x (38 + i)), .ref (x (38 + j))]) (rest := []) S0 hK hg hS hA0 hO12 rfl (c_Hu_find l D cI cR cJ g _ (x 3) (x 4) (x 5) (x 2) (x (38 + i)) (x (44 + i)) 60 (x (38 + j)) (x (44 + j)) 60 (V 3) (S.1 i) (S.1 j) (FR i) (FR j) (F 2) hO3 hO2 ro_i rl_i ro_j rl_j rp_i rp_j (xne44 hxi hk_i (by decide)) (xne44 hxi hk_j (by decide)) (by omega) (by omega) (by omega) (by omega) (by omega) (by omega) (F 4) (F 5) hO4 hO5 (xne44 hxi hk_i (by decide)) (xne44 hxi hk_i (by decide)) (xne44 hxi hk_j (by decide)) (xne44 hxi hk_j (by decide)) (xne hxi (by decide) (by decide) (by decide)) (xne hxi (by decide) (by decide) (by decide)) (xne hxi (by decide) (by decide) (by decide)) (x 12) (x 13) (nI S.2.2.1.length) (F 13) hO12 hO13 (xne44 hxi hk_i (by decide)) (xne44 hxi hk_j (by decide)) (xne hxi (by decide) (by decide) (by decide)) (xne hxi (by decide) (by decide) (by decide)) (xne hxi (by decide) (by decide) (by decide))) kHu_find lm_MR_104 (hR.call rfl) rfl hl.1 rfl (Nat.le_of_ble_eq_true rfl) dMR_hunks_20 (hR.new (by decide) (by decide)) (fun g_3 H locs hp_20 hg hS => ?_)
  obtain ⟨frC, n1, fA, fB, fL, fc, a0, a1, a2, a3, a4, a5, hH2⟩ := hp_20
  have k3_0 := frC.at (h_nm (xne hxi (by decide) (by decide) (by decide)) (h_nm (xne hxi (by decide) (by decide) (by decide)) (h_nm (xne hxi (by decide) (by decide) (by decide)) (h_nm (xne hxi (by decide) (by decide) (by decide)) (h_nm (xne hxi (by decide) (by decide) (by decide)) (h_nm (xne hxi (by decide) (by decide) (by decide)) h_n0)))))) hO0
  have k3_1 := frC.at (h_nm (xne hxi (by decide) (by decide) (by decide)) (h_nm (xne hxi (by decide) (by decide) (by decide)) (h_nm (xne hxi (by decide) (by decide) (by decide)) (h_nm (xne hxi (by decide) (by decide) (by decide)) (h_nm (xne hxi (by decide) (by decide) (by decide)) (h_nm (xne hxi (by decide) (by decide) (by decide)) h_n0)))))) hO1
  have k3_2 := frC.at (h_nm (xne38 hxi hk_i (by decide)) (h_nm (xne38 hxi hk_i (by decide)) (h_nm (xne38 hxi hk_i (by decide)) (h_nm (xne38 hxi hk_i (by decide)) (h_nm (xne38 hxi hk_i (by decide)) (h_nm (xne38 hxi hk_i (by decide)) h_n0)))))) ro_i
  have k3_3 := frC.at (h_nm (xne44 hxi hk_i (by decide)) (h_nm (xne44 hxi hk_i (by decide)) (h_nm (xne44 hxi hk_i (by decide)) (h_nm (xne44 hxi hk_i (by decide)) (h_nm (xne44 hxi hk_i (by decide)) (h_nm (xne44 hxi hk_i (by decide)) h_n0)))))) rl_i
  have k3_4 := frC.at (h_nm (xne38 hxi hk_j (by decide)) (h_nm (xne38 hxi hk_j (by decide)) (h_nm (xne38 hxi hk_j (by decide)) (h_nm (xne38 hxi hk_j (by decide)) (h_nm (xne38 hxi hk_j (by decide)) (h_nm (xne38 hxi hk_j (by decide)) h_n0)))))) ro_j
  have k3_5 := frC.at (h_nm (xne44 hxi hk_j (by decide)) (h_nm (xne44 hxi hk_j (by decide)) (h_nm (xne44 hxi hk_j (by decide)) (h_nm (xne44 hxi hk_j (by decide)) (h_nm (xne44 hxi hk_j (by decide)) (h_nm (xne44 hxi hk_j (by decide)) h_n0)))))) rl_j
  have fr := fr.call frC (by simp)
  refine lv_aload_n S0.1 S0.2.1 dMR_hunks_23 rfl (lv_at hl 2 rfl) ?_
  refine hw_get S0 hK hg k3_0 rfl inMR 2 (by decide) lf_MR_32 rfl rfl dMR_hunks_24 ?_
  refine hw_get S0 hK hg a4 rfl inHu 1 (by decide) lf_MR_105 rfl rfl dMR_hunks_27 ?_
  have hho := (hunks_ok (S.1 i) (S.1 j)).2.2
  have eop : o_hunks (nI i) (nI j) S = (0, nI (hunksOf (S.1 i) (S.1 j)).length, (S.1, S.2.1, (hunksOf (S.1 i) (S.1 j)), S.2.2.2)) := by unfold o_hunks; rw [e_i, e_j]
  have hO2 : ∀ i9, i9 < 38 → g_3 (x i9) = some (xcl cI cR x b (fun i9 => match i9 with | 2 => fL | 4 => fA | 5 => fB | 13 => fc | i9 => F i9) (fun i9 => match i9 with | 3 => nI n1 | 12 => nI ((hunksOf (S.1 i) (S.1 j)).length) | i9 => V i9) U z fq i9) := by
    intro i9 hi9
    match i9, hi9 with
    | 0, _ => exact fr.at (h_nm (xne hxi (by decide) (by decide) (by decide)) (h_nm (xne hxi (by decide) (by decide) (by decide)) (h_nm (xne hxi (by decide) (by decide) (by decide)) (h_nm (xne hxi (by decide) (by decide) (by decide)) (h_nm (xne hxi (by decide) (by decide) (by decide)) (h_nm (xne hxi (by decide) (by decide) (by decide)) h_n0)))))) (hO 0 (by decide))
    | 1, _ => exact fr.at (h_nm (xne hxi (by decide) (by decide) (by decide)) (h_nm (xne hxi (by decide) (by decide) (by decide)) (h_nm (xne hxi (by decide) (by decide) (by decide)) (h_nm (xne hxi (by decide) (by decide) (by decide)) (h_nm (xne hxi (by decide) (by decide) (by decide)) (h_nm (xne hxi (by decide) (by decide) (by decide)) h_n0)))))) (hO 1 (by decide))
    | 2, _ => exact a3
    | 3, _ => exact a0
    | 4, _ => exact a1
    | 5, _ => exact a2
    | 6, _ => exact fr.at (h_nm (xne hxi (by decide) (by decide) (by decide)) (h_nm (xne hxi (by decide) (by decide) (by decide)) (h_nm (xne hxi (by decide) (by decide) (by decide)) (h_nm (xne hxi (by decide) (by decide) (by decide)) (h_nm (xne hxi (by decide) (by decide) (by decide)) (h_nm (xne hxi (by decide) (by decide) (by decide)) h_n0)))))) (hO 6 (by decide))
    | 7, _ => exact fr.at (h_nm (xne hxi (by decide) (by decide) (by decide)) (h_nm (xne hxi (by decide) (by decide) (by decide)) (h_nm (xne hxi (by decide) (by decide) (by decide)) (h_nm (xne hxi (by decide) (by decide) (by decide)) (h_nm (xne hxi (by decide) (by decide) (by decide)) (h_nm (xne hxi (by decide) (by decide) (by decide)) h_n0)))))) (hO 7 (by decide))
    | 8, _ => exact fr.at (h_nm (xne hxi (by decide) (by decide) (by decide)) (h_nm (xne hxi (by decide) (by decide) (by decide)) (h_nm (xne hxi (by decide) (by decide) (by decide)) (h_nm (xne hxi (by decide) (by decide) (by decide)) (h_nm (xne hxi (by decide) (by decide) (by decide)) (h_nm (xne hxi (by decide) (by decide) (by decide)) h_n0)))))) (hO 8 (by decide))
    | 9, _ => exact fr.at (h_nm (xne hxi (by decide) (by decide) (by decide)) (h_nm (xne hxi (by decide) (by decide) (by decide)) (h_nm (xne hxi (by decide) (by decide) (by decide)) (h_nm (xne hxi (by decide) (by decide) (by decide)) (h_nm (xne hxi (by decide) (by decide) (by decide)) (h_nm (xne hxi (by decide) (by decide) (by decide)) h_n0)))))) (hO 9 (by decide))
    | 10, _ => exact fr.at (h_nm (xne hxi (by decide) (by decide) (by decide)) (h_nm (xne hxi (by decide) (by decide) (by decide)) (h_nm (xne hxi (by decide) (by decide) (by decide)) (h_nm (xne hxi (by decide) (by decide) (by decide)) (h_nm (xne hxi (by decide) (by decide) (by decide)) (h_nm (xne hxi (by decide) (by decide) (by decide)) h_n0)))))) (hO 10 (by decide))
    | 11, _ => exact fr.at (h_nm (xne hxi (by decide) (by decide) (by decide)) (h_nm (xne hxi (by decide) (by decide) (by decide)) (h_nm (xne hxi (by decide) (by decide) (by decide)) (h_nm (xne hxi (by decide) (by decide) (by decide)) (h_nm (xne hxi (by decide) (by decide) (by decide)) (h_nm (xne hxi (by decide) (by decide) (by decide)) h_n0)))))) (hO 11 (by decide))
    | 12, _ => exact a4
    | 13, _ => exact a5
    | 14, _ => exact fr.at (h_nm (xne hxi (by decide) (by decide) (by decide)) (h_nm (xne hxi (by decide) (by decide) (by decide)) (h_nm (xne hxi (by decide) (by decide) (by decide)) (h_nm (xne hxi (by decide) (by decide) (by decide)) (h_nm (xne hxi (by decide) (by decide) (by decide)) (h_nm (xne hxi (by decide) (by decide) (by decide)) h_n0)))))) (hO 14 (by decide))
    | 15, _ => exact fr.at (h_nm (xne hxi (by decide) (by decide) (by decide)) (h_nm (xne hxi (by decide) (by decide) (by decide)) (h_nm (xne hxi (by decide) (by decide) (by decide)) (h_nm (xne hxi (by decide) (by decide) (by decide)) (h_nm (xne hxi (by decide) (by decide) (by decide)) (h_nm (xne hxi (by decide) (by decide) (by decide)) h_n0)))))) (hO 15 (by decide))
    | 16, _ => exact fr.at (h_nm (xne hxi (by decide) (by decide) (by decide)) (h_nm (xne hxi (by decide) (by decide) (by decide)) (h_nm (xne hxi (by decide) (by decide) (by decide)) (h_nm (xne hxi (by decide) (by decide) (by decide)) (h_nm (xne hxi (by decide) (by decide) (by decide)) (h_nm (xne hxi (by decide) (by decide) (by decide)) h_n0)))))) (hO 16 (by decide))
    | 17, _ => exact fr.at (h_nm (xne hxi (by decide) (by decide) (by decide)) (h_nm (xne hxi (by decide) (by decide) (by decide)) (h_nm (xne hxi (by decide) (by decide) (by decide)) (h_nm (xne hxi (by decide) (by decide) (by decide)) (h_nm (xne hxi (by decide) (by decide) (by decide)) (h_nm (xne hxi (by decide) (by decide) (by decide)) h_n0)))))) (hO 17 (by decide))
    | 18, _ => exact fr.at (h_nm (xne hxi (by decide) (by decide) (by decide)) (h_nm (xne hxi (by decide) (by decide) (by decide)) (h_nm (xne hxi (by decide) (by decide) (by decide)) (h_nm (xne hxi (by decide) (by decide) (by decide)) (h_nm (xne hxi (by decide) (by decide) (by decide)) (h_nm (xne hxi (by decide) (by decide) (by decide)) h_n0)))))) (hO 18 (by decide))
    | 19, _ => exact fr.at (h_nm (xne hxi (by decide) (by decide) (by decide)) (h_nm (xne hxi (by decide) (by decide) (by decide)) (h_nm (xne hxi (by decide) (by decide) (by decide)) (h_nm (xne hxi (by decide) (by decide) (by decide)) (h_nm (xne hxi (by decide) (by decide) (by decide)) (h_nm (xne hxi (by decide) (by decide) (by decide)) h_n0)))))) (hO 19 (by decide))
    | 20, _ => exact fr.at (h_nm (xne hxi (by decide) (by decide) (by decide)) (h_nm (xne hxi (by decide) (by decide) (by decide)) (h_nm (xne hxi (by decide) (by decide) (by decide)) (h_nm (xne hxi (by decide) (by decide) (by decide)) (h_nm (xne hxi (by decide) (by decide) (by decide)) (h_nm (xne hxi (by decide) (by decide) (by decide)) h_n0)))))) (hO 20 (by decide))
    | 21, _ => exact fr.at (h_nm (xne hxi (by decide) (by decide) (by decide)) (h_nm (xne hxi (by decide) (by decide) (by decide)) (h_nm (xne hxi (by decide) (by decide) (by decide)) (h_nm (xne hxi (by decide) (by decide) (by decide)) (h_nm (xne hxi (by decide) (by decide) (by decide)) (h_nm (xne hxi (by decide) (by decide) (by decide)) h_n0)))))) (hO 21 (by decide))
    | 22, _ => exact fr.at (h_nm (xne hxi (by decide) (by decide) (by decide)) (h_nm (xne hxi (by decide) (by decide) (by decide)) (h_nm (xne hxi (by decide) (by decide) (by decide)) (h_nm (xne hxi (by decide) (by decide) (by decide)) (h_nm (xne hxi (by decide) (by decide) (by decide)) (h_nm (xne hxi (by decide) (by decide) (by decide)) h_n0)))))) (hO 22 (by decide))
    | 23, _ => exact fr.at (h_nm (xne hxi (by decide) (by decide) (by decide)) (h_nm (xne hxi (by decide) (by decide) (by decide)) (h_nm (xne hxi (by decide) (by decide) (by decide)) (h_nm (xne hxi (by decide) (by decide) (by decide)) (h_nm (xne hxi (by decide) (by decide) (by decide)) (h_nm (xne hxi (by decide) (by decide) (by decide)) h_n0)))))) (hO 23 (by decide))
    | 24, _ => exact fr.at (h_nm (xne hxi (by decide) (by decide) (by decide)) (h_nm (xne hxi (by decide) (by decide) (by decide)) (h_nm (xne hxi (by decide) (by decide) (by decide)) (h_nm (xne hxi (by decide) (by decide) (by decide)) (h_nm (xne hxi (by decide) (by decide) (by decide)) (h_nm (xne hxi (by decide) (by decide) (by decide)) h_n0)))))) (hO 24 (by decide))
    | 25, _ => exact fr.at (h_nm (xne hxi (by decide) (by decide) (by decide)) (h_nm (xne hxi (by decide) (by decide) (by decide)) (h_nm (xne hxi (by decide) (by decide) (by decide)) (h_nm (xne hxi (by decide) (by decide) (by decide)) (h_nm (xne hxi (by decide) (by decide) (by decide)) (h_nm (xne hxi (by decide) (by decide) (by decide)) h_n0)))))) (hO 25 (by decide))
    | 26, _ => exact fr.at (h_nm (xne hxi (by decide) (by decide) (by decide)) (h_nm (xne hxi (by decide) (by decide) (by decide)) (h_nm (xne hxi (by decide) (by decide) (by decide)) (h_nm (xne hxi (by decide) (by decide) (by decide)) (h_nm (xne hxi (by decide) (by decide) (by decide)) (h_nm (xne hxi (by decide) (by decide) (by decide)) h_n0)))))) (hO 26 (by decide))
    | 27, _ => exact fr.at (h_nm (xne hxi (by decide) (by decide) (by decide)) (h_nm (xne hxi (by decide) (by decide) (by decide)) (h_nm (xne hxi (by decide) (by decide) (by decide)) (h_nm (xne hxi (by decide) (by decide) (by decide)) (h_nm (xne hxi (by decide) (by decide) (by decide)) (h_nm (xne hxi (by decide) (by decide) (by decide)) h_n0)))))) (hO 27 (by decide))
    | 28, _ => exact fr.at (h_nm (xne hxi (by decide) (by decide) (by decide)) (h_nm (xne hxi (by decide) (by decide) (by decide)) (h_nm (xne hxi (by decide) (by decide) (by decide)) (h_nm (xne hxi (by decide) (by decide) (by decide)) (h_nm (xne hxi (by decide) (by decide) (by decide)) (h_nm (xne hxi (by decide) (by decide) (by decide)) h_n0)))))) (hO 28 (by decide))
    | 29, _ => exact fr.at (h_nm (xne hxi (by decide) (by decide) (by decide)) (h_nm (xne hxi (by decide) (by decide) (by decide)) (h_nm (xne hxi (by decide) (by decide) (by decide)) (h_nm (xne hxi (by decide) (by decide) (by decide)) (h_nm (xne hxi (by decide) (by decide) (by decide)) (h_nm (xne hxi (by decide) (by decide) (by decide)) h_n0)))))) (hO 29 (by decide))
    | 30, _ => exact fr.at (h_nm (xne hxi (by decide) (by decide) (by decide)) (h_nm (xne hxi (by decide) (by decide) (by decide)) (h_nm (xne hxi (by decide) (by decide) (by decide)) (h_nm (xne hxi (by decide) (by decide) (by decide)) (h_nm (xne hxi (by decide) (by decide) (by decide)) (h_nm (xne hxi (by decide) (by decide) (by decide)) h_n0)))))) (hO 30 (by decide))
    | 31, _ => exact fr.at (h_nm (xne hxi (by decide) (by decide) (by decide)) (h_nm (xne hxi (by decide) (by decide) (by decide)) (h_nm (xne hxi (by decide) (by decide) (by decide)) (h_nm (xne hxi (by decide) (by decide) (by decide)) (h_nm (xne hxi (by decide) (by decide) (by decide)) (h_nm (xne hxi (by decide) (by decide) (by decide)) h_n0)))))) (hO 31 (by decide))
    | 32, _ => exact fr.at (h_nm (xne hxi (by decide) (by decide) (by decide)) (h_nm (xne hxi (by decide) (by decide) (by decide)) (h_nm (xne hxi (by decide) (by decide) (by decide)) (h_nm (xne hxi (by decide) (by decide) (by decide)) (h_nm (xne hxi (by decide) (by decide) (by decide)) (h_nm (xne hxi (by decide) (by decide) (by decide)) h_n0)))))) (hO 32 (by decide))
    | 33, _ => exact fr.at (h_nm (xne hxi (by decide) (by decide) (by decide)) (h_nm (xne hxi (by decide) (by decide) (by decide)) (h_nm (xne hxi (by decide) (by decide) (by decide)) (h_nm (xne hxi (by decide) (by decide) (by decide)) (h_nm (xne hxi (by decide) (by decide) (by decide)) (h_nm (xne hxi (by decide) (by decide) (by decide)) h_n0)))))) (hO 33 (by decide))
    | 34, _ => exact fr.at (h_nm (xne hxi (by decide) (by decide) (by decide)) (h_nm (xne hxi (by decide) (by decide) (by decide)) (h_nm (xne hxi (by decide) (by decide) (by decide)) (h_nm (xne hxi (by decide) (by decide) (by decide)) (h_nm (xne hxi (by decide) (by decide) (by decide)) (h_nm (xne hxi (by decide) (by decide) (by decide)) h_n0)))))) (hO 34 (by decide))
    | 35, _ => exact fr.at (h_nm (xne hxi (by decide) (by decide) (by decide)) (h_nm (xne hxi (by decide) (by decide) (by decide)) (h_nm (xne hxi (by decide) (by decide) (by decide)) (h_nm (xne hxi (by decide) (by decide) (by decide)) (h_nm (xne hxi (by decide) (by decide) (by decide)) (h_nm (xne hxi (by decide) (by decide) (by decide)) h_n0)))))) (hO 35 (by decide))
    | 36, _ => exact fr.at (h_nm (xne hxi (by decide) (by decide) (by decide)) (h_nm (xne hxi (by decide) (by decide) (by decide)) (h_nm (xne hxi (by decide) (by decide) (by decide)) (h_nm (xne hxi (by decide) (by decide) (by decide)) (h_nm (xne hxi (by decide) (by decide) (by decide)) (h_nm (xne hxi (by decide) (by decide) (by decide)) h_n0)))))) (hO 36 (by decide))
    | 37, _ => exact fr.at (h_nm (xne hxi (by decide) (by decide) (by decide)) (h_nm (xne hxi (by decide) (by decide) (by decide)) (h_nm (xne hxi (by decide) (by decide) (by decide)) (h_nm (xne hxi (by decide) (by decide) (by decide)) (h_nm (xne hxi (by decide) (by decide) (by decide)) (h_nm (xne hxi (by decide) (by decide) (by decide)) h_n0)))))) (hO 37 (by decide))
    | i9 + 38, h => omega
  have hrow2 : ∀ i9, i9 < 6 → g_3 (x (38 + i9)) = some (.inr (5, [.ref (x (44 + i9)), .int (nI ((S.1, S.2.1, (hunksOf (S.1 i) (S.1 j)), S.2.2.2).1 i9).length)])) ∧ g_3 (x (44 + i9)) = some (.inl (cI, 60, .inl (FR i9))) ∧ rp (FR i9) ((S.1, S.2.1, (hunksOf (S.1 i) (S.1 j)), S.2.2.2).1 i9) := by
    intro i9 hi9
    obtain ⟨d1, d2, d3⟩ := hrow i9 hi9
    exact ⟨fr.at (h_nm (xne38 hxi hi9 (by decide)) (h_nm (xne38 hxi hi9 (by decide)) (h_nm (xne38 hxi hi9 (by decide)) (h_nm (xne38 hxi hi9 (by decide)) (h_nm (xne38 hxi hi9 (by decide)) (h_nm (xne38 hxi hi9 (by decide)) h_n0)))))) d1, fr.at (h_nm (xne44 hxi hi9 (by decide)) (h_nm (xne44 hxi hi9 (by decide)) (h_nm (xne44 hxi hi9 (by decide)) (h_nm (xne44 hxi hi9 (by decide)) (h_nm (xne44 hxi hi9 (by decide)) (h_nm (xne44 hxi hi9 (by decide)) h_n0)))))) d2, d3⟩
  have hrep : repX cI cR g_3 x (S.1, S.2.1, (hunksOf (S.1 i) (S.1 j)), S.2.2.2) := ⟨hxi, ⟨hok.1, hok.2.1, show (hunksOf (S.1 i) (S.1 j)).length ≤ 61 by omega, hok.2.2.2⟩, b, (fun i9 => match i9 with | 2 => fL | 4 => fA | 5 => fB | 13 => fc | i9 => F i9), (fun i9 => match i9 with | 3 => nI n1 | 12 => nI ((hunksOf (S.1 i) (S.1 j)).length) | i9 => V i9), U, z, fq, FR, hb, hO2, hfq, hrow2, hv9, hA_, hB_, rfl, hH2, hv19, hZ_, hV_, hv22, hL_, (by rcases (show b = 0 ∨ b = 1 by omega) with rfl | rfl <;> exact hvm), (by rcases (show b = 0 ∨ b = 1 by omega) with rfl | rfl <;> exact hC_)⟩
  have fr9 : hfr g g_3 (xS x) := fr.mono (by intro q hq; simp only [List.mem_cons, List.not_mem_nil, or_false] at hq; rcases hq with rfl | rfl | rfl | rfl | rfl | rfl <;> exact xS_mem x (by first | decide | omega))
  exact hend _ _ _ _ _ _ _ _ (by decide) (by decide) rfl ⟨fr9, by rw [eop]; exact hrep, by rw [eop], by rw [eop]⟩ hg hS dMR_hunks_30
set_option maxRecDepth 100000 in
set_option maxHeartbeats 4000000 in
theorem c_MR_commit (l : Launch) (D : va_G) (cI cR cJ : ClassId) (g : Nat → Option va_E) (sz : Nat) (hst : l.stackTraces = false) (x : Nat → Nat) (S : ST) (r : Int32) (HX : repX cI cR g x S) : xMi l yMR_commit cMR_commit 3 .int (hRm 7 120 2 12) D (hT cI cR cJ) g sz [.ref (x 0), .int r] (fun o g1 => hfr g g1 (xS x) ∧ repX cI cR g1 x (o_commit r S).2.2 ∧ (o_commit r S).1 = 0 ∧ o = (o_commit r S).2.1) (fun E_ g1 => hfr g g1 (xS x) ∧ repX cI cR g1 x (o_commit r S).2.2 ∧ ((o_commit r S).1 = 1 ∧ E_ = eI ∨ (o_commit r S).1 = 2 ∧ E_ = eU)) := by
  refine xMi_of (by decide +kernel) rfl (Nat.le_of_ble_eq_true rfl) hst ⟨by decide, by decide⟩ ?_
  intro pX eV RX sX mX argsX belowX methX cX QX AX hR S0 hnm hsz hg hK hS hA0 hx hz hend hout hthr ls hl
  have hl : lv_has ls 3 [(0, .ref (x 0)), (1, .int r)] := hl
  have HX0 := HX
  obtain ⟨hxi, hok, b, F, V, U, z, fq, FR, hb, hO, hfq, hrow, hv9, hA_, hB_, hv12, hH_, hv19, hZ_, hV_, hv22, hL_, hvm, hC_⟩ := HX
  have hO0 : g (x 0) = some (.inr (7, [.ref (x 1), .ref (x 9), .ref (x 12), .ref (x 16), .ref (x 19), .ref (x (24 + 7 * b)), .ref (x (31 - 7 * b))])) := hO 0 (by decide)
  have hO1 : g (x 1) = some (.inl (cR, 6, .inr (.inr (.inr (.inr fq))))) := hO 1 (by decide)
  have hO2 : g (x 2) = some (.inl (cI, 3721, .inl (F 2))) := hO 2 (by decide)
  have hO3 : g (x 3) = some (.inr (0, [.ref (x 4), .ref (x 5), .int (V 3), .ref (x 2)])) := hO 3 (by decide)
  have hO4 : g (x 4) = some (.inl (cI, 60, .inl (F 4))) := hO 4 (by decide)
  have hO5 : g (x 5) = some (.inl (cI, 60, .inl (F 5))) := hO 5 (by decide)
  have hO19 : g (x 19) = some (.inr (6, [.ref (x 20), .ref (x 21), .int (V 19), .ref (x 22), .ref (x 3)])) := hO 19 (by decide)
  rw [hv19] at hO19
  have hO20 : g (x 20) = some (.inl (cI, 30, .inl (F 20))) := hO 20 (by decide)
  have hO21 : g (x 21) = some (.inl (cI, 1800, .inl (F 21))) := hO 21 (by decide)
  have hO22 : g (x 22) = some (.inr (5, [.ref (x 23), .int (V 22)])) := hO 22 (by decide)
  rw [hv22] at hO22
  have hO23 : g (x 23) = some (.inl (cI, 60, .inl (F 23))) := hO 23 (by decide)
  have fr : hfr g g [x 19, x 20, x 21, x 22, x 23, x 3, x 4, x 5, x 2] := hfr.rf
  have hvl := hok.2.2.2.2.1
  refine lv_aload_n S0.1 S0.2.1 dMR_commit_0 rfl (lv_at hl 0 rfl) ?_
  refine lv_iload_n S0.1 S0.2.1 dMR_commit_1 rfl (lv_at hl 1 rfl) ?_
  refine hx_Vr (As := [.int r]) (rest := []) S0 hK hg hS hA0 hx hz hO0 rfl (c_MR_rowAt l D cI cR cJ g _ hst x fq r _ _ _ _ _ _ hO0 hO1 hfq) kMR_rowAt lm_MR_64 (hR.call rfl) rfl hl.1 rfl (Nat.le_of_ble_eq_true rfl) dMR_commit_2 (hR.new (by decide) (by decide)) (fun E_ ce_ q_ g_1 H locs hpx hg hS hq1 hq2 hq3 => ?_) (fun r_2 g_1 H locs hp_2 hg hS => ?_)
  · skip
    obtain ⟨eE, eg, e_k⟩ := hpx
    subst eE
    rw [eg] at hg
    have eop : o_commit r S = (1, 0, S) := by unfold o_commit; rw [e_k]
    have hrep : repX cI cR g x S := HX0
    have fr9 : hfr g g (xS x) := hfr.rf
    exact hout _ _ _ g _ _ _ _ _ _ _ (by decide) (by decide) (⟨fr9, by rw [eop]; exact hrep, Or.inl ⟨by rw [eop], rfl⟩⟩) hg hS hq1 hq2 hq3
  obtain ⟨eg, k, hk_k, ek, er⟩ := hp_2
  subst er
  subst ek
  rw [eg] at hg
  have e_k : ix (nI k) 6 = some k := ix_some hk_k (by decide)
  obtain ⟨ro_k, rl_k, rp_k⟩ := hrow k hk_k
  have hn_k := hok.1 k hk_k
  refine lv_astore_n (lv' := [(2, .ref (x (38 + k))), (0, .ref (x 0)), (1, .int (nI k))]) S0.1 S0.2.1 dMR_commit_5 rfl hl (by decide) rfl (fun ls hl => ?_)
  refine lv_aload_n S0.1 S0.2.1 dMR_commit_6 rfl (lv_at hl 1 rfl) ?_
  refine hw_get S0 hK hg hO0 rfl inMR 4 (by decide) lf_MR_48 rfl rfl dMR_commit_7 ?_
  refine hw_get S0 hK hg hO19 rfl inVe 2 (by decide) lf_MR_135 rfl rfl dMR_commit_10 ?_
  refine lv_bipush (v := nI 30) S0.1 S0.2.1 dMR_commit_13 (by decide) ?_
  refine lv_icmp_lt (tgt := 28) S0.1 S0.2.1 dMR_commit_15 (by decide) (fun c_15 => ?_) (fun c_15 => ?_)
  · skip
    have c_15 : S.2.2.2.2.1.length < 30 := (nI_ltI (by omega) (by omega)).mp c_15
    refine lv_aload_n S0.1 S0.2.1 dMR_commit_28 rfl (lv_at hl 1 rfl) ?_
    refine hw_get S0 hK hg hO0 rfl inMR 4 (by decide) lf_MR_48 rfl rfl dMR_commit_29 ?_
    refine lv_aload_n S0.1 S0.2.1 dMR_commit_32 rfl (lv_at hl 0 rfl) ?_
    refine hw_Vv (As := [.ref (x (38 + k))]) (rest := []) S0 hK hg hS hA0 hO19 rfl (c_Ve_add l D cI cR cJ g _ (x 19) (x 20) (x 21) (x 22) (x 23) (x 3) (x 4) (x 5) (x 2) (x (38 + k)) (x (44 + k)) 60 S.2.2.2.2.1 S.2.2.2.2.2 (S.1 k) (F 20) (F 21) (F 23) (FR k) (F 4) (F 5) (F 2) (V 3) hO19 hO21 hO22 hO23 ro_k rl_k hO3 hO4 hO5 hO2 hL_ rp_k (by omega) (by omega) (by omega) hok.2.2.2.2 (by omega) hV_ (xne hxi (by decide) (by decide) (by decide)) (xne hxi (by decide) (by decide) (by decide)) (xne hxi (by decide) (by decide) (by decide)) (xne hxi (by decide) (by decide) (by decide)) (xne44 hxi hk_k (by decide)) (xne44 hxi hk_k (by decide)) (xne44 hxi hk_k (by decide)) (xne44 hxi hk_k (by decide)) (xne hxi (by decide) (by decide) (by decide)) (xne hxi (by decide) (by decide) (by decide)) (xne hxi (by decide) (by decide) (by decide)) (xne hxi (by decide) (by decide) (by decide)) (xne hxi (by decide) (by decide) (by decide)) (xne hxi (by decide) (by decide) (by decide)) (Ne.symm (xne44 hxi hk_k (by decide))) (Ne.symm (xne38 hxi hk_k (by decide))) (xne hxi (by decide) (by decide) (by decide)) (xne44 hxi hk_k (by decide)) (xne hxi (by decide) (by decide) (by decide)) (xne hxi (by decide) (by decide) (by decide)) (xne hxi (by decide) (by decide) (by decide)) (xne hxi (by decide) (by decide) (by decide)) hO20 hZ_) kVe_add lm_MR_138 (hR.call rfl) rfl hl.1 rfl (Nat.le_of_ble_eq_true rfl) dMR_commit_33 (hR.new (by decide) (by decide)) (fun g_2 H locs hp_33 hg hS => ?_)
    obtain ⟨frC, f1, f2, f3, gp, gq, gl_, k2, a0, a1, a2, a3, a4, a5, a6, a7, a8, hL2, hV2, hZ2⟩ := hp_33
    have k2_0 := frC.at (h_nm (xne hxi (by decide) (by decide) (by decide)) (h_nm (xne hxi (by decide) (by decide) (by decide)) (h_nm (xne hxi (by decide) (by decide) (by decide)) (h_nm (xne hxi (by decide) (by decide) (by decide)) (h_nm (xne hxi (by decide) (by decide) (by decide)) (h_nm (xne hxi (by decide) (by decide) (by decide)) (h_nm (xne hxi (by decide) (by decide) (by decide)) (h_nm (xne hxi (by decide) (by decide) (by decide)) (h_nm (xne hxi (by decide) (by decide) (by decide)) h_n0))))))))) hO0
    have k2_1 := frC.at (h_nm (xne hxi (by decide) (by decide) (by decide)) (h_nm (xne hxi (by decide) (by decide) (by decide)) (h_nm (xne hxi (by decide) (by decide) (by decide)) (h_nm (xne hxi (by decide) (by decide) (by decide)) (h_nm (xne hxi (by decide) (by decide) (by decide)) (h_nm (xne hxi (by decide) (by decide) (by decide)) (h_nm (xne hxi (by decide) (by decide) (by decide)) (h_nm (xne hxi (by decide) (by decide) (by decide)) (h_nm (xne hxi (by decide) (by decide) (by decide)) h_n0))))))))) hO1
    have k2_2 := frC.at (h_nm (xne38 hxi hk_k (by decide)) (h_nm (xne38 hxi hk_k (by decide)) (h_nm (xne38 hxi hk_k (by decide)) (h_nm (xne38 hxi hk_k (by decide)) (h_nm (xne38 hxi hk_k (by decide)) (h_nm (xne38 hxi hk_k (by decide)) (h_nm (xne38 hxi hk_k (by decide)) (h_nm (xne38 hxi hk_k (by decide)) (h_nm (xne38 hxi hk_k (by decide)) h_n0))))))))) ro_k
    have k2_3 := frC.at (h_nm (xne44 hxi hk_k (by decide)) (h_nm (xne44 hxi hk_k (by decide)) (h_nm (xne44 hxi hk_k (by decide)) (h_nm (xne44 hxi hk_k (by decide)) (h_nm (xne44 hxi hk_k (by decide)) (h_nm (xne44 hxi hk_k (by decide)) (h_nm (xne44 hxi hk_k (by decide)) (h_nm (xne44 hxi hk_k (by decide)) (h_nm (xne44 hxi hk_k (by decide)) h_n0))))))))) rl_k
    have fr := fr.call frC (by simp)
    refine lv_aload_n S0.1 S0.2.1 dMR_commit_36 rfl (lv_at hl 1 rfl) ?_
    refine hw_get S0 hK hg k2_0 rfl inMR 4 (by decide) lf_MR_48 rfl rfl dMR_commit_37 ?_
    refine hw_get S0 hK hg a0 rfl inVe 2 (by decide) lf_MR_135 rfl rfl dMR_commit_40 ?_
    refine lv_iconst (v := nI 1) S0.1 S0.2.1 dMR_commit_43 (by decide) ?_
    refine lv_isub S0.1 S0.2.1 dMR_commit_44 ?_
    refine hw_top (nI ((S.2.2.2.2.1.length + 1) - 1)) (pk_sub (by omega)) ?_
    have elen : (S.2.2.2.2.1 ++ [(orig S.2.2.2.2.1 S.2.2.2.2.2 (S.1 k))]).length = S.2.2.2.2.1.length + 1 := by rw [List.length_append]; rfl
    have eop : o_commit (nI k) S = (0, nI S.2.2.2.2.1.length, (S.1, S.2.1, S.2.2.1, S.2.2.2.1, S.2.2.2.2.1 ++ [(orig S.2.2.2.2.1 S.2.2.2.2.2 (S.1 k))], (S.1 k))) := by unfold o_commit; rw [e_k]; exact if_pos (by omega)
    have hO2 : ∀ i9, i9 < 38 → g_2 (x i9) = some (xcl cI cR x b (fun i9 => match i9 with | 2 => gl_ | 4 => gp | 5 => gq | 20 => f2 | 21 => f1 | 23 => f3 | i9 => F i9) (fun i9 => match i9 with | 3 => k2 | 19 => nI (S.2.2.2.2.1.length + 1) | 22 => nI ((S.1 k).length) | i9 => V i9) U z fq i9) := by
      intro i9 hi9
      match i9, hi9 with
      | 0, _ => exact fr.at (h_nm (xne hxi (by decide) (by decide) (by decide)) (h_nm (xne hxi (by decide) (by decide) (by decide)) (h_nm (xne hxi (by decide) (by decide) (by decide)) (h_nm (xne hxi (by decide) (by decide) (by decide)) (h_nm (xne hxi (by decide) (by decide) (by decide)) (h_nm (xne hxi (by decide) (by decide) (by decide)) (h_nm (xne hxi (by decide) (by decide) (by decide)) (h_nm (xne hxi (by decide) (by decide) (by decide)) (h_nm (xne hxi (by decide) (by decide) (by decide)) h_n0))))))))) (hO 0 (by decide))
      | 1, _ => exact fr.at (h_nm (xne hxi (by decide) (by decide) (by decide)) (h_nm (xne hxi (by decide) (by decide) (by decide)) (h_nm (xne hxi (by decide) (by decide) (by decide)) (h_nm (xne hxi (by decide) (by decide) (by decide)) (h_nm (xne hxi (by decide) (by decide) (by decide)) (h_nm (xne hxi (by decide) (by decide) (by decide)) (h_nm (xne hxi (by decide) (by decide) (by decide)) (h_nm (xne hxi (by decide) (by decide) (by decide)) (h_nm (xne hxi (by decide) (by decide) (by decide)) h_n0))))))))) (hO 1 (by decide))
      | 2, _ => exact a8
      | 3, _ => exact a5
      | 4, _ => exact a6
      | 5, _ => exact a7
      | 6, _ => exact fr.at (h_nm (xne hxi (by decide) (by decide) (by decide)) (h_nm (xne hxi (by decide) (by decide) (by decide)) (h_nm (xne hxi (by decide) (by decide) (by decide)) (h_nm (xne hxi (by decide) (by decide) (by decide)) (h_nm (xne hxi (by decide) (by decide) (by decide)) (h_nm (xne hxi (by decide) (by decide) (by decide)) (h_nm (xne hxi (by decide) (by decide) (by decide)) (h_nm (xne hxi (by decide) (by decide) (by decide)) (h_nm (xne hxi (by decide) (by decide) (by decide)) h_n0))))))))) (hO 6 (by decide))
      | 7, _ => exact fr.at (h_nm (xne hxi (by decide) (by decide) (by decide)) (h_nm (xne hxi (by decide) (by decide) (by decide)) (h_nm (xne hxi (by decide) (by decide) (by decide)) (h_nm (xne hxi (by decide) (by decide) (by decide)) (h_nm (xne hxi (by decide) (by decide) (by decide)) (h_nm (xne hxi (by decide) (by decide) (by decide)) (h_nm (xne hxi (by decide) (by decide) (by decide)) (h_nm (xne hxi (by decide) (by decide) (by decide)) (h_nm (xne hxi (by decide) (by decide) (by decide)) h_n0))))))))) (hO 7 (by decide))
      | 8, _ => exact fr.at (h_nm (xne hxi (by decide) (by decide) (by decide)) (h_nm (xne hxi (by decide) (by decide) (by decide)) (h_nm (xne hxi (by decide) (by decide) (by decide)) (h_nm (xne hxi (by decide) (by decide) (by decide)) (h_nm (xne hxi (by decide) (by decide) (by decide)) (h_nm (xne hxi (by decide) (by decide) (by decide)) (h_nm (xne hxi (by decide) (by decide) (by decide)) (h_nm (xne hxi (by decide) (by decide) (by decide)) (h_nm (xne hxi (by decide) (by decide) (by decide)) h_n0))))))))) (hO 8 (by decide))
      | 9, _ => exact fr.at (h_nm (xne hxi (by decide) (by decide) (by decide)) (h_nm (xne hxi (by decide) (by decide) (by decide)) (h_nm (xne hxi (by decide) (by decide) (by decide)) (h_nm (xne hxi (by decide) (by decide) (by decide)) (h_nm (xne hxi (by decide) (by decide) (by decide)) (h_nm (xne hxi (by decide) (by decide) (by decide)) (h_nm (xne hxi (by decide) (by decide) (by decide)) (h_nm (xne hxi (by decide) (by decide) (by decide)) (h_nm (xne hxi (by decide) (by decide) (by decide)) h_n0))))))))) (hO 9 (by decide))
      | 10, _ => exact fr.at (h_nm (xne hxi (by decide) (by decide) (by decide)) (h_nm (xne hxi (by decide) (by decide) (by decide)) (h_nm (xne hxi (by decide) (by decide) (by decide)) (h_nm (xne hxi (by decide) (by decide) (by decide)) (h_nm (xne hxi (by decide) (by decide) (by decide)) (h_nm (xne hxi (by decide) (by decide) (by decide)) (h_nm (xne hxi (by decide) (by decide) (by decide)) (h_nm (xne hxi (by decide) (by decide) (by decide)) (h_nm (xne hxi (by decide) (by decide) (by decide)) h_n0))))))))) (hO 10 (by decide))
      | 11, _ => exact fr.at (h_nm (xne hxi (by decide) (by decide) (by decide)) (h_nm (xne hxi (by decide) (by decide) (by decide)) (h_nm (xne hxi (by decide) (by decide) (by decide)) (h_nm (xne hxi (by decide) (by decide) (by decide)) (h_nm (xne hxi (by decide) (by decide) (by decide)) (h_nm (xne hxi (by decide) (by decide) (by decide)) (h_nm (xne hxi (by decide) (by decide) (by decide)) (h_nm (xne hxi (by decide) (by decide) (by decide)) (h_nm (xne hxi (by decide) (by decide) (by decide)) h_n0))))))))) (hO 11 (by decide))
      | 12, _ => exact fr.at (h_nm (xne hxi (by decide) (by decide) (by decide)) (h_nm (xne hxi (by decide) (by decide) (by decide)) (h_nm (xne hxi (by decide) (by decide) (by decide)) (h_nm (xne hxi (by decide) (by decide) (by decide)) (h_nm (xne hxi (by decide) (by decide) (by decide)) (h_nm (xne hxi (by decide) (by decide) (by decide)) (h_nm (xne hxi (by decide) (by decide) (by decide)) (h_nm (xne hxi (by decide) (by decide) (by decide)) (h_nm (xne hxi (by decide) (by decide) (by decide)) h_n0))))))))) (hO 12 (by decide))
      | 13, _ => exact fr.at (h_nm (xne hxi (by decide) (by decide) (by decide)) (h_nm (xne hxi (by decide) (by decide) (by decide)) (h_nm (xne hxi (by decide) (by decide) (by decide)) (h_nm (xne hxi (by decide) (by decide) (by decide)) (h_nm (xne hxi (by decide) (by decide) (by decide)) (h_nm (xne hxi (by decide) (by decide) (by decide)) (h_nm (xne hxi (by decide) (by decide) (by decide)) (h_nm (xne hxi (by decide) (by decide) (by decide)) (h_nm (xne hxi (by decide) (by decide) (by decide)) h_n0))))))))) (hO 13 (by decide))
      | 14, _ => exact fr.at (h_nm (xne hxi (by decide) (by decide) (by decide)) (h_nm (xne hxi (by decide) (by decide) (by decide)) (h_nm (xne hxi (by decide) (by decide) (by decide)) (h_nm (xne hxi (by decide) (by decide) (by decide)) (h_nm (xne hxi (by decide) (by decide) (by decide)) (h_nm (xne hxi (by decide) (by decide) (by decide)) (h_nm (xne hxi (by decide) (by decide) (by decide)) (h_nm (xne hxi (by decide) (by decide) (by decide)) (h_nm (xne hxi (by decide) (by decide) (by decide)) h_n0))))))))) (hO 14 (by decide))
      | 15, _ => exact fr.at (h_nm (xne hxi (by decide) (by decide) (by decide)) (h_nm (xne hxi (by decide) (by decide) (by decide)) (h_nm (xne hxi (by decide) (by decide) (by decide)) (h_nm (xne hxi (by decide) (by decide) (by decide)) (h_nm (xne hxi (by decide) (by decide) (by decide)) (h_nm (xne hxi (by decide) (by decide) (by decide)) (h_nm (xne hxi (by decide) (by decide) (by decide)) (h_nm (xne hxi (by decide) (by decide) (by decide)) (h_nm (xne hxi (by decide) (by decide) (by decide)) h_n0))))))))) (hO 15 (by decide))
      | 16, _ => exact fr.at (h_nm (xne hxi (by decide) (by decide) (by decide)) (h_nm (xne hxi (by decide) (by decide) (by decide)) (h_nm (xne hxi (by decide) (by decide) (by decide)) (h_nm (xne hxi (by decide) (by decide) (by decide)) (h_nm (xne hxi (by decide) (by decide) (by decide)) (h_nm (xne hxi (by decide) (by decide) (by decide)) (h_nm (xne hxi (by decide) (by decide) (by decide)) (h_nm (xne hxi (by decide) (by decide) (by decide)) (h_nm (xne hxi (by decide) (by decide) (by decide)) h_n0))))))))) (hO 16 (by decide))
      | 17, _ => exact fr.at (h_nm (xne hxi (by decide) (by decide) (by decide)) (h_nm (xne hxi (by decide) (by decide) (by decide)) (h_nm (xne hxi (by decide) (by decide) (by decide)) (h_nm (xne hxi (by decide) (by decide) (by decide)) (h_nm (xne hxi (by decide) (by decide) (by decide)) (h_nm (xne hxi (by decide) (by decide) (by decide)) (h_nm (xne hxi (by decide) (by decide) (by decide)) (h_nm (xne hxi (by decide) (by decide) (by decide)) (h_nm (xne hxi (by decide) (by decide) (by decide)) h_n0))))))))) (hO 17 (by decide))
      | 18, _ => exact fr.at (h_nm (xne hxi (by decide) (by decide) (by decide)) (h_nm (xne hxi (by decide) (by decide) (by decide)) (h_nm (xne hxi (by decide) (by decide) (by decide)) (h_nm (xne hxi (by decide) (by decide) (by decide)) (h_nm (xne hxi (by decide) (by decide) (by decide)) (h_nm (xne hxi (by decide) (by decide) (by decide)) (h_nm (xne hxi (by decide) (by decide) (by decide)) (h_nm (xne hxi (by decide) (by decide) (by decide)) (h_nm (xne hxi (by decide) (by decide) (by decide)) h_n0))))))))) (hO 18 (by decide))
      | 19, _ => exact a0
      | 20, _ => exact a1
      | 21, _ => exact a2
      | 22, _ => exact a3
      | 23, _ => exact a4
      | 24, _ => exact fr.at (h_nm (xne hxi (by decide) (by decide) (by decide)) (h_nm (xne hxi (by decide) (by decide) (by decide)) (h_nm (xne hxi (by decide) (by decide) (by decide)) (h_nm (xne hxi (by decide) (by decide) (by decide)) (h_nm (xne hxi (by decide) (by decide) (by decide)) (h_nm (xne hxi (by decide) (by decide) (by decide)) (h_nm (xne hxi (by decide) (by decide) (by decide)) (h_nm (xne hxi (by decide) (by decide) (by decide)) (h_nm (xne hxi (by decide) (by decide) (by decide)) h_n0))))))))) (hO 24 (by decide))
      | 25, _ => exact fr.at (h_nm (xne hxi (by decide) (by decide) (by decide)) (h_nm (xne hxi (by decide) (by decide) (by decide)) (h_nm (xne hxi (by decide) (by decide) (by decide)) (h_nm (xne hxi (by decide) (by decide) (by decide)) (h_nm (xne hxi (by decide) (by decide) (by decide)) (h_nm (xne hxi (by decide) (by decide) (by decide)) (h_nm (xne hxi (by decide) (by decide) (by decide)) (h_nm (xne hxi (by decide) (by decide) (by decide)) (h_nm (xne hxi (by decide) (by decide) (by decide)) h_n0))))))))) (hO 25 (by decide))
      | 26, _ => exact fr.at (h_nm (xne hxi (by decide) (by decide) (by decide)) (h_nm (xne hxi (by decide) (by decide) (by decide)) (h_nm (xne hxi (by decide) (by decide) (by decide)) (h_nm (xne hxi (by decide) (by decide) (by decide)) (h_nm (xne hxi (by decide) (by decide) (by decide)) (h_nm (xne hxi (by decide) (by decide) (by decide)) (h_nm (xne hxi (by decide) (by decide) (by decide)) (h_nm (xne hxi (by decide) (by decide) (by decide)) (h_nm (xne hxi (by decide) (by decide) (by decide)) h_n0))))))))) (hO 26 (by decide))
      | 27, _ => exact fr.at (h_nm (xne hxi (by decide) (by decide) (by decide)) (h_nm (xne hxi (by decide) (by decide) (by decide)) (h_nm (xne hxi (by decide) (by decide) (by decide)) (h_nm (xne hxi (by decide) (by decide) (by decide)) (h_nm (xne hxi (by decide) (by decide) (by decide)) (h_nm (xne hxi (by decide) (by decide) (by decide)) (h_nm (xne hxi (by decide) (by decide) (by decide)) (h_nm (xne hxi (by decide) (by decide) (by decide)) (h_nm (xne hxi (by decide) (by decide) (by decide)) h_n0))))))))) (hO 27 (by decide))
      | 28, _ => exact fr.at (h_nm (xne hxi (by decide) (by decide) (by decide)) (h_nm (xne hxi (by decide) (by decide) (by decide)) (h_nm (xne hxi (by decide) (by decide) (by decide)) (h_nm (xne hxi (by decide) (by decide) (by decide)) (h_nm (xne hxi (by decide) (by decide) (by decide)) (h_nm (xne hxi (by decide) (by decide) (by decide)) (h_nm (xne hxi (by decide) (by decide) (by decide)) (h_nm (xne hxi (by decide) (by decide) (by decide)) (h_nm (xne hxi (by decide) (by decide) (by decide)) h_n0))))))))) (hO 28 (by decide))
      | 29, _ => exact fr.at (h_nm (xne hxi (by decide) (by decide) (by decide)) (h_nm (xne hxi (by decide) (by decide) (by decide)) (h_nm (xne hxi (by decide) (by decide) (by decide)) (h_nm (xne hxi (by decide) (by decide) (by decide)) (h_nm (xne hxi (by decide) (by decide) (by decide)) (h_nm (xne hxi (by decide) (by decide) (by decide)) (h_nm (xne hxi (by decide) (by decide) (by decide)) (h_nm (xne hxi (by decide) (by decide) (by decide)) (h_nm (xne hxi (by decide) (by decide) (by decide)) h_n0))))))))) (hO 29 (by decide))
      | 30, _ => exact fr.at (h_nm (xne hxi (by decide) (by decide) (by decide)) (h_nm (xne hxi (by decide) (by decide) (by decide)) (h_nm (xne hxi (by decide) (by decide) (by decide)) (h_nm (xne hxi (by decide) (by decide) (by decide)) (h_nm (xne hxi (by decide) (by decide) (by decide)) (h_nm (xne hxi (by decide) (by decide) (by decide)) (h_nm (xne hxi (by decide) (by decide) (by decide)) (h_nm (xne hxi (by decide) (by decide) (by decide)) (h_nm (xne hxi (by decide) (by decide) (by decide)) h_n0))))))))) (hO 30 (by decide))
      | 31, _ => exact fr.at (h_nm (xne hxi (by decide) (by decide) (by decide)) (h_nm (xne hxi (by decide) (by decide) (by decide)) (h_nm (xne hxi (by decide) (by decide) (by decide)) (h_nm (xne hxi (by decide) (by decide) (by decide)) (h_nm (xne hxi (by decide) (by decide) (by decide)) (h_nm (xne hxi (by decide) (by decide) (by decide)) (h_nm (xne hxi (by decide) (by decide) (by decide)) (h_nm (xne hxi (by decide) (by decide) (by decide)) (h_nm (xne hxi (by decide) (by decide) (by decide)) h_n0))))))))) (hO 31 (by decide))
      | 32, _ => exact fr.at (h_nm (xne hxi (by decide) (by decide) (by decide)) (h_nm (xne hxi (by decide) (by decide) (by decide)) (h_nm (xne hxi (by decide) (by decide) (by decide)) (h_nm (xne hxi (by decide) (by decide) (by decide)) (h_nm (xne hxi (by decide) (by decide) (by decide)) (h_nm (xne hxi (by decide) (by decide) (by decide)) (h_nm (xne hxi (by decide) (by decide) (by decide)) (h_nm (xne hxi (by decide) (by decide) (by decide)) (h_nm (xne hxi (by decide) (by decide) (by decide)) h_n0))))))))) (hO 32 (by decide))
      | 33, _ => exact fr.at (h_nm (xne hxi (by decide) (by decide) (by decide)) (h_nm (xne hxi (by decide) (by decide) (by decide)) (h_nm (xne hxi (by decide) (by decide) (by decide)) (h_nm (xne hxi (by decide) (by decide) (by decide)) (h_nm (xne hxi (by decide) (by decide) (by decide)) (h_nm (xne hxi (by decide) (by decide) (by decide)) (h_nm (xne hxi (by decide) (by decide) (by decide)) (h_nm (xne hxi (by decide) (by decide) (by decide)) (h_nm (xne hxi (by decide) (by decide) (by decide)) h_n0))))))))) (hO 33 (by decide))
      | 34, _ => exact fr.at (h_nm (xne hxi (by decide) (by decide) (by decide)) (h_nm (xne hxi (by decide) (by decide) (by decide)) (h_nm (xne hxi (by decide) (by decide) (by decide)) (h_nm (xne hxi (by decide) (by decide) (by decide)) (h_nm (xne hxi (by decide) (by decide) (by decide)) (h_nm (xne hxi (by decide) (by decide) (by decide)) (h_nm (xne hxi (by decide) (by decide) (by decide)) (h_nm (xne hxi (by decide) (by decide) (by decide)) (h_nm (xne hxi (by decide) (by decide) (by decide)) h_n0))))))))) (hO 34 (by decide))
      | 35, _ => exact fr.at (h_nm (xne hxi (by decide) (by decide) (by decide)) (h_nm (xne hxi (by decide) (by decide) (by decide)) (h_nm (xne hxi (by decide) (by decide) (by decide)) (h_nm (xne hxi (by decide) (by decide) (by decide)) (h_nm (xne hxi (by decide) (by decide) (by decide)) (h_nm (xne hxi (by decide) (by decide) (by decide)) (h_nm (xne hxi (by decide) (by decide) (by decide)) (h_nm (xne hxi (by decide) (by decide) (by decide)) (h_nm (xne hxi (by decide) (by decide) (by decide)) h_n0))))))))) (hO 35 (by decide))
      | 36, _ => exact fr.at (h_nm (xne hxi (by decide) (by decide) (by decide)) (h_nm (xne hxi (by decide) (by decide) (by decide)) (h_nm (xne hxi (by decide) (by decide) (by decide)) (h_nm (xne hxi (by decide) (by decide) (by decide)) (h_nm (xne hxi (by decide) (by decide) (by decide)) (h_nm (xne hxi (by decide) (by decide) (by decide)) (h_nm (xne hxi (by decide) (by decide) (by decide)) (h_nm (xne hxi (by decide) (by decide) (by decide)) (h_nm (xne hxi (by decide) (by decide) (by decide)) h_n0))))))))) (hO 36 (by decide))
      | 37, _ => exact fr.at (h_nm (xne hxi (by decide) (by decide) (by decide)) (h_nm (xne hxi (by decide) (by decide) (by decide)) (h_nm (xne hxi (by decide) (by decide) (by decide)) (h_nm (xne hxi (by decide) (by decide) (by decide)) (h_nm (xne hxi (by decide) (by decide) (by decide)) (h_nm (xne hxi (by decide) (by decide) (by decide)) (h_nm (xne hxi (by decide) (by decide) (by decide)) (h_nm (xne hxi (by decide) (by decide) (by decide)) (h_nm (xne hxi (by decide) (by decide) (by decide)) h_n0))))))))) (hO 37 (by decide))
      | i9 + 38, h => omega
    have hrow2 : ∀ i9, i9 < 6 → g_2 (x (38 + i9)) = some (.inr (5, [.ref (x (44 + i9)), .int (nI ((S.1, S.2.1, S.2.2.1, S.2.2.2.1, S.2.2.2.2.1 ++ [(orig S.2.2.2.2.1 S.2.2.2.2.2 (S.1 k))], (S.1 k)).1 i9).length)])) ∧ g_2 (x (44 + i9)) = some (.inl (cI, 60, .inl (FR i9))) ∧ rp (FR i9) ((S.1, S.2.1, S.2.2.1, S.2.2.2.1, S.2.2.2.2.1 ++ [(orig S.2.2.2.2.1 S.2.2.2.2.2 (S.1 k))], (S.1 k)).1 i9) := by
      intro i9 hi9
      obtain ⟨d1, d2, d3⟩ := hrow i9 hi9
      exact ⟨fr.at (h_nm (xne38 hxi hi9 (by decide)) (h_nm (xne38 hxi hi9 (by decide)) (h_nm (xne38 hxi hi9 (by decide)) (h_nm (xne38 hxi hi9 (by decide)) (h_nm (xne38 hxi hi9 (by decide)) (h_nm (xne38 hxi hi9 (by decide)) (h_nm (xne38 hxi hi9 (by decide)) (h_nm (xne38 hxi hi9 (by decide)) (h_nm (xne38 hxi hi9 (by decide)) h_n0))))))))) d1, fr.at (h_nm (xne44 hxi hi9 (by decide)) (h_nm (xne44 hxi hi9 (by decide)) (h_nm (xne44 hxi hi9 (by decide)) (h_nm (xne44 hxi hi9 (by decide)) (h_nm (xne44 hxi hi9 (by decide)) (h_nm (xne44 hxi hi9 (by decide)) (h_nm (xne44 hxi hi9 (by decide)) (h_nm (xne44 hxi hi9 (by decide)) (h_nm (xne44 hxi hi9 (by decide)) h_n0))))))))) d2, d3⟩
    have hrep : repX cI cR g_2 x (S.1, S.2.1, S.2.2.1, S.2.2.2.1, S.2.2.2.2.1 ++ [(orig S.2.2.2.2.1 S.2.2.2.2.2 (S.1 k))], (S.1 k)) := ⟨hxi, ⟨hok.1, hok.2.1, hok.2.2.1, hok.2.2.2.1, vok_snoc hok.2.2.2.2 (by omega) hn_k⟩, b, (fun i9 => match i9 with | 2 => gl_ | 4 => gp | 5 => gq | 20 => f2 | 21 => f1 | 23 => f3 | i9 => F i9), (fun i9 => match i9 with | 3 => k2 | 19 => nI (S.2.2.2.2.1.length + 1) | 22 => nI ((S.1 k).length) | i9 => V i9), U, z, fq, FR, hb, hO2, hfq, hrow2, hv9, hA_, hB_, hv12, hH_, (by rw [elen]; rfl), hZ2, hV2, rfl, hL2, (by rcases (show b = 0 ∨ b = 1 by omega) with rfl | rfl <;> exact hvm), (by rcases (show b = 0 ∨ b = 1 by omega) with rfl | rfl <;> exact hC_)⟩
    have fr9 : hfr g g_2 (xS x) := fr.mono (by intro q hq; simp only [List.mem_cons, List.not_mem_nil, or_false] at hq; rcases hq with rfl | rfl | rfl | rfl | rfl | rfl | rfl | rfl | rfl <;> exact xS_mem x (by first | decide | omega))
    exact hend _ _ _ _ _ _ _ _ (by decide) (by decide) rfl ⟨fr9, by rw [eop]; exact hrep, by rw [eop], by rw [eop]; first | rfl | (congr 1; omega)⟩ hg hS dMR_commit_45
  · skip
    have c_15 : ¬ (S.2.2.2.2.1.length < 30) := fun h => c_15 ((nI_ltI (by omega) (by omega)).mpr h)
    have eop : o_commit (nI k) S = (2, 0, S) := by unfold o_commit; rw [e_k]; exact if_neg (by omega)
    have hrep : repX cI cR g x S := HX0
    have fr9 : hfr g g (xS x) := hfr.rf
    exact hthr eU "there are as many versions as there can be" 72 136 76 18 g _ _ _ _ _ _ site_MR_commit_18 (⟨fr9, by rw [eop]; exact hrep, Or.inr ⟨by rw [eop], rfl⟩⟩) hg hS hl.1 (Nat.le_of_ble_eq_true rfl) (by decide) (by decide)
set_option maxRecDepth 100000 in
set_option maxHeartbeats 4000000 in
theorem c_MR_origin (l : Launch) (D : va_G) (cI cR cJ : ClassId) (g : Nat → Option va_E) (sz : Nat) (hst : l.stackTraces = false) (x : Nat → Nat) (S : ST) (v k : Int32) (HX : repX cI cR g x S) : xMi l yMR_origin cMR_origin 3 .int (hRm 6 90 1 6) D (hT cI cR cJ) g sz [.ref (x 0), .int v, .int k] (fun o g1 => hfr g g1 (xS x) ∧ repX cI cR g1 x (o_origin v k S).2.2 ∧ (o_origin v k S).1 = 0 ∧ o = (o_origin v k S).2.1) (fun E_ g1 => hfr g g1 (xS x) ∧ repX cI cR g1 x (o_origin v k S).2.2 ∧ ((o_origin v k S).1 = 1 ∧ E_ = eI ∨ (o_origin v k S).1 = 2 ∧ E_ = eX)) := by
  refine xMi_of (by decide +kernel) rfl (Nat.le_of_ble_eq_true rfl) hst ⟨by decide, by decide⟩ ?_
  intro pX eV RX sX mX argsX belowX methX cX QX AX hR S0 hnm hsz hg hK hS hA0 hx hz hend hout hthr ls hl
  have hl : lv_has ls 3 [(0, .ref (x 0)), (1, .int v), (2, .int k)] := hl
  have HX0 := HX
  obtain ⟨hxi, hok, b, F, V, U, z, fq, FR, hb, hO, hfq, hrow, hv9, hA_, hB_, hv12, hH_, hv19, hZ_, hV_, hv22, hL_, hvm, hC_⟩ := HX
  have hO0 : g (x 0) = some (.inr (7, [.ref (x 1), .ref (x 9), .ref (x 12), .ref (x 16), .ref (x 19), .ref (x (24 + 7 * b)), .ref (x (31 - 7 * b))])) := hO 0 (by decide)
  have hO1 : g (x 1) = some (.inl (cR, 6, .inr (.inr (.inr (.inr fq))))) := hO 1 (by decide)
  have hO19 : g (x 19) = some (.inr (6, [.ref (x 20), .ref (x 21), .int (V 19), .ref (x 22), .ref (x 3)])) := hO 19 (by decide)
  rw [hv19] at hO19
  have hO20 : g (x 20) = some (.inl (cI, 30, .inl (F 20))) := hO 20 (by decide)
  have hO21 : g (x 21) = some (.inl (cI, 1800, .inl (F 21))) := hO 21 (by decide)
  have fr : hfr g g [] := hfr.rf
  obtain ⟨w1, w2, w3, w4, w5⟩ := hok.2.2.2.2
  refine lv_iload_n S0.1 S0.2.1 dMR_origin_0 rfl (lv_at hl 1 rfl) ?_
  refine lv_if_lt (tgt := 15) S0.1 S0.2.1 dMR_origin_1 (by decide) (fun c_1 => ?_) (fun c_1 => ?_)
  · skip
    have e_1 : ix v S.2.2.2.2.1.length = none := ix_neg c_1
    have eop : o_origin v k S = (1, 0, S) := by simp only [o_origin, e_1]
    have hrep : repX cI cR g x S := HX0
    have fr9 : hfr g g (xS x) := hfr.rf
    exact hthr eI "no such version" 141 143 145 15 g _ _ _ _ _ _ site_MR_origin_15 (⟨fr9, by rw [eop]; exact hrep, Or.inl ⟨by rw [eop], rfl⟩⟩) hg hS hl.1 (Nat.le_of_ble_eq_true rfl) (by decide) (by decide)
  · skip
    obtain ⟨i, hi, rfl⟩ := nI_of c_1
    refine lv_iload_n S0.1 S0.2.1 dMR_origin_4 rfl (lv_at hl 1 rfl) ?_
    refine lv_aload_n S0.1 S0.2.1 dMR_origin_5 rfl (lv_at hl 0 rfl) ?_
    refine hw_get S0 hK hg hO0 rfl inMR 4 (by decide) lf_MR_48 rfl rfl dMR_origin_6 ?_
    refine hw_get S0 hK hg hO19 rfl inVe 2 (by decide) lf_MR_135 rfl rfl dMR_origin_9 ?_
    refine lv_icmp_lt (tgt := 25) S0.1 S0.2.1 dMR_origin_12 (by decide) (fun c_12 => ?_) (fun c_12 => ?_)
    · skip
      have c_12 : i < S.2.2.2.2.1.length := (nI_ltI (by omega) (by omega)).mp c_12
      have e_1 : ix (nI i) S.2.2.2.2.1.length = some i := ix_some (by omega) (by omega)
      have t1 := hZ_ i (by omega)
      have t2 := w3 i (by omega)
      refine lv_iload_n S0.1 S0.2.1 dMR_origin_25 rfl (lv_at hl 2 rfl) ?_
      refine lv_if_lt (tgt := 42) S0.1 S0.2.1 dMR_origin_26 (by decide) (fun c_26 => ?_) (fun c_26 => ?_)
      · skip
        have e_2 : ix k (S.2.2.2.2.1.getD i []).length = none := ix_neg c_26
        have eop : o_origin (nI i) k S = (2, 0, S) := by simp only [o_origin, e_1, e_2]
        have hrep : repX cI cR g x S := HX0
        have fr9 : hfr g g (xS x) := hfr.rf
        exact hthr eX "no such line" 82 84 86 42 g _ _ _ _ _ _ site_MR_origin_42 (⟨fr9, by rw [eop]; exact hrep, Or.inr ⟨by rw [eop], rfl⟩⟩) hg hS hl.1 (Nat.le_of_ble_eq_true rfl) (by decide) (by decide)
      · skip
        obtain ⟨j, hj, rfl⟩ := nI_of c_26
        refine lv_iload_n S0.1 S0.2.1 dMR_origin_29 rfl (lv_at hl 2 rfl) ?_
        refine lv_aload_n S0.1 S0.2.1 dMR_origin_30 rfl (lv_at hl 0 rfl) ?_
        refine hw_get S0 hK hg hO0 rfl inMR 4 (by decide) lf_MR_48 rfl rfl dMR_origin_31 ?_
        refine hw_get S0 hK hg hO19 rfl inVe 0 (by decide) lf_MR_146 rfl rfl dMR_origin_34 ?_
        refine lv_iload_n S0.1 S0.2.1 dMR_origin_37 rfl (lv_at hl 1 rfl) ?_
        refine hw_iald S0 hK hg hO20 0 rfl (by omega) (by omega) dMR_origin_38 ?_
        refine hw_top (nI ((S.2.2.2.2.1.getD i []).length)) t1 ?_
        refine lv_icmp_lt (tgt := 52) S0.1 S0.2.1 dMR_origin_39 (by decide) (fun c_39 => ?_) (fun c_39 => ?_)
        · skip
          have c_39 : j < ((S.2.2.2.2.1.getD i []).length) := (nI_ltI (by omega) (by omega)).mp c_39
          have e_2 : ix (nI j) (S.2.2.2.2.1.getD i []).length = some j := ix_some c_39 (by omega)
          refine lv_aload_n S0.1 S0.2.1 dMR_origin_52 rfl (lv_at hl 0 rfl) ?_
          refine hw_get S0 hK hg hO0 rfl inMR 4 (by decide) lf_MR_48 rfl rfl dMR_origin_53 ?_
          refine hw_get S0 hK hg hO19 rfl inVe 1 (by decide) lf_MR_149 rfl rfl dMR_origin_56 ?_
          refine lv_iload_n S0.1 S0.2.1 dMR_origin_59 rfl (lv_at hl 1 rfl) ?_
          refine lv_bipush (v := nI 60) S0.1 S0.2.1 dMR_origin_60 (by decide) ?_
          refine lv_imul S0.1 S0.2.1 dMR_origin_62 ?_
          refine hw_top (nI (i * 60)) (pk_mul _ _) ?_
          refine lv_iload_n S0.1 S0.2.1 dMR_origin_63 rfl (lv_at hl 2 rfl) ?_
          refine lv_iadd S0.1 S0.2.1 dMR_origin_64 ?_
          refine hw_top (nI ((i * 60) + j)) (nI_add _ _) ?_
          refine hw_iald S0 hK hg hO21 0 rfl (by omega) (by omega) dMR_origin_65 ?_
          have eop : o_origin (nI i) (nI j) S = (0, nI ((S.2.2.2.2.1.getD i []).getD j 0), S) := by simp only [o_origin, e_1, e_2]
          have hO2 : ∀ i9, i9 < 38 → g (x i9) = some (xcl cI cR x b F V U z fq i9) := by
            intro i9 hi9
            match i9, hi9 with
            | 0, _ => exact fr.at h_n0 (hO 0 (by decide))
            | 1, _ => exact fr.at h_n0 (hO 1 (by decide))
            | 2, _ => exact fr.at h_n0 (hO 2 (by decide))
            | 3, _ => exact fr.at h_n0 (hO 3 (by decide))
            | 4, _ => exact fr.at h_n0 (hO 4 (by decide))
            | 5, _ => exact fr.at h_n0 (hO 5 (by decide))
            | 6, _ => exact fr.at h_n0 (hO 6 (by decide))
            | 7, _ => exact fr.at h_n0 (hO 7 (by decide))
            | 8, _ => exact fr.at h_n0 (hO 8 (by decide))
            | 9, _ => exact fr.at h_n0 (hO 9 (by decide))
            | 10, _ => exact fr.at h_n0 (hO 10 (by decide))
            | 11, _ => exact fr.at h_n0 (hO 11 (by decide))
            | 12, _ => exact fr.at h_n0 (hO 12 (by decide))
            | 13, _ => exact fr.at h_n0 (hO 13 (by decide))
            | 14, _ => exact fr.at h_n0 (hO 14 (by decide))
            | 15, _ => exact fr.at h_n0 (hO 15 (by decide))
            | 16, _ => exact fr.at h_n0 (hO 16 (by decide))
            | 17, _ => exact fr.at h_n0 (hO 17 (by decide))
            | 18, _ => exact fr.at h_n0 (hO 18 (by decide))
            | 19, _ => exact fr.at h_n0 (hO 19 (by decide))
            | 20, _ => exact fr.at h_n0 (hO 20 (by decide))
            | 21, _ => exact fr.at h_n0 (hO 21 (by decide))
            | 22, _ => exact fr.at h_n0 (hO 22 (by decide))
            | 23, _ => exact fr.at h_n0 (hO 23 (by decide))
            | 24, _ => exact fr.at h_n0 (hO 24 (by decide))
            | 25, _ => exact fr.at h_n0 (hO 25 (by decide))
            | 26, _ => exact fr.at h_n0 (hO 26 (by decide))
            | 27, _ => exact fr.at h_n0 (hO 27 (by decide))
            | 28, _ => exact fr.at h_n0 (hO 28 (by decide))
            | 29, _ => exact fr.at h_n0 (hO 29 (by decide))
            | 30, _ => exact fr.at h_n0 (hO 30 (by decide))
            | 31, _ => exact fr.at h_n0 (hO 31 (by decide))
            | 32, _ => exact fr.at h_n0 (hO 32 (by decide))
            | 33, _ => exact fr.at h_n0 (hO 33 (by decide))
            | 34, _ => exact fr.at h_n0 (hO 34 (by decide))
            | 35, _ => exact fr.at h_n0 (hO 35 (by decide))
            | 36, _ => exact fr.at h_n0 (hO 36 (by decide))
            | 37, _ => exact fr.at h_n0 (hO 37 (by decide))
            | i9 + 38, h => omega
          have hrow2 : ∀ i9, i9 < 6 → g (x (38 + i9)) = some (.inr (5, [.ref (x (44 + i9)), .int (nI (S.1 i9).length)])) ∧ g (x (44 + i9)) = some (.inl (cI, 60, .inl (FR i9))) ∧ rp (FR i9) (S.1 i9) := by
            intro i9 hi9
            obtain ⟨d1, d2, d3⟩ := hrow i9 hi9
            exact ⟨fr.at h_n0 d1, fr.at h_n0 d2, d3⟩
          have hrep : repX cI cR g x S := ⟨hxi, hok, b, F, V, U, z, fq, FR, hb, hO2, hfq, hrow2, hv9, hA_, hB_, hv12, hH_, hv19, hZ_, hV_, hv22, hL_, (by rcases (show b = 0 ∨ b = 1 by omega) with rfl | rfl <;> exact hvm), (by rcases (show b = 0 ∨ b = 1 by omega) with rfl | rfl <;> exact hC_)⟩
          have fr9 : hfr g g (xS x) := fr.mono (fun q hq => absurd hq List.not_mem_nil)
          exact hend _ _ _ _ _ _ _ _ (by decide) (by decide) rfl ⟨fr9, by rw [eop]; exact hrep, by rw [eop], by rw [eop]; exact hV_ i j (by omega) c_39⟩ hg hS dMR_origin_66
        · skip
          have c_39 : ¬ (j < ((S.2.2.2.2.1.getD i []).length)) := fun h => c_39 ((nI_ltI (by omega) (by omega)).mpr h)
          have e_2 : ix (nI j) (S.2.2.2.2.1.getD i []).length = none := ix_ge (by omega) hj
          have eop : o_origin (nI i) (nI j) S = (2, 0, S) := by simp only [o_origin, e_1, e_2]
          have hrep : repX cI cR g x S := HX0
          have fr9 : hfr g g (xS x) := hfr.rf
          exact hthr eX "no such line" 82 84 86 42 g _ _ _ _ _ _ site_MR_origin_42 (⟨fr9, by rw [eop]; exact hrep, Or.inr ⟨by rw [eop], rfl⟩⟩) hg hS hl.1 (Nat.le_of_ble_eq_true rfl) (by decide) (by decide)
    · skip
      have c_12 : ¬ (i < S.2.2.2.2.1.length) := fun h => c_12 ((nI_ltI (by omega) (by omega)).mpr h)
      have e_1 : ix (nI i) S.2.2.2.2.1.length = none := ix_ge (by omega) hi
      have eop : o_origin (nI i) k S = (1, 0, S) := by simp only [o_origin, e_1]
      have hrep : repX cI cR g x S := HX0
      have fr9 : hfr g g (xS x) := hfr.rf
      exact hthr eI "no such version" 141 143 145 15 g _ _ _ _ _ _ site_MR_origin_15 (⟨fr9, by rw [eop]; exact hrep, Or.inl ⟨by rw [eop], rfl⟩⟩) hg hS hl.1 (Nat.le_of_ble_eq_true rfl) (by decide) (by decide)
