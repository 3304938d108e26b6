/-! VERSIONS -/
set_option maxRecDepth 100000 in
set_option maxHeartbeats 4000000 in
theorem c_Ve_fillOrigins (l : Launch) (D : va_G) (cI cR cJ : ClassId) (g : Nat → Option va_E) (sz : Nat) (ve sv og nr ln cm pa pb len rx lx cx : Nat) (vs : List (List Nat)) (nw xs : List Int32) (fs fg fn fx_ fp0 fq0 fl : Nat → Int32) (cnt : Int32) (h0 : g ve = some (.inr (6, [.ref sv, .ref og, .int (nI vs.length), .ref nr, .ref cm]))) (h1 : g og = some (.inl (cI, 1800, .inl fg))) (h2 : g nr = some (.inr (5, [.ref ln, .int (nI nw.length)]))) (h3 : g ln = some (.inl (cI, 60, .inl fn))) (h4 : g rx = some (.inr (5, [.ref lx, .int (nI xs.length)]))) (h5 : g lx = some (.inl (cI, cx, .inl fx_))) (h6 : g cm = some (.inr (0, [.ref pa, .ref pb, .int cnt, .ref len]))) (h7 : g pa = some (.inl (cI, 60, .inl fp0))) (h8 : g pb = some (.inl (cI, 60, .inl fq0))) (h9 : g len = some (.inl (cI, 3721, .inl fl))) (en : rp fn nw) (ex : rp fx_ xs) (hx6 : xs.length ≤ 60) (hcx : xs.length ≤ cx) (hdx : cx < 4000) (hv : vok vs nw) (hv3 : vs.length < 30) (hg_ : rpV fg vs) (n_ln_pa : ln ≠ pa) (n_ln_pb : ln ≠ pb) (n_ln_len : ln ≠ len) (n_ln_og : ln ≠ og) (n_lx_pa : lx ≠ pa) (n_lx_pb : lx ≠ pb) (n_lx_len : lx ≠ len) (n_lx_og : lx ≠ og) (n_pa_pb : pa ≠ pb) (n_pa_len : pa ≠ len) (n_pa_og : pa ≠ og) (n_pb_len : pb ≠ len) (n_pb_og : pb ≠ og) (n_len_og : len ≠ og) : hMv l yVe_fillOrigins cVe_fillOrigins 4 (hRm 3 73 0 0) D (hT cI cR cJ) g sz [.ref ve, .ref rx] (fun g1 => hfr g g1 [og, cm, pa, pb, len] ∧ ∃ (f1 gp gq gl_ : Nat → Int32) (k2 : Int32), g1 og = some (.inl (cI, 1800, .inl f1)) ∧ g1 cm = some (.inr (0, [.ref pa, .ref pb, .int k2, .ref len])) ∧ g1 pa = some (.inl (cI, 60, .inl gp)) ∧ g1 pb = some (.inl (cI, 60, .inl gq)) ∧ g1 len = some (.inl (cI, 3721, .inl gl_)) ∧ (∀ q, q < vs.length * 60 → f1 q = fg q) ∧ ∀ k, k < xs.length → f1 (vs.length * 60 + k) = nI ((orig vs nw xs).getD k 0)) := by
  refine hMv_of (by decide +kernel) (Nat.le_of_ble_eq_true rfl) ?_
  intro pX eX RX sX mX argsX belowX methX cX QX AX hR S0 hnm hsz hg hK hS hA0 hend ls hl
  have hl : lv_has ls 4 [(0, .ref ve), (1, .ref rx)] := hl
  have fr : hfr g g [og, cm, pa, pb, len] := hfr.rf
  obtain ⟨v1, v2, v3, v4, v5⟩ := id hv
  refine lv_aload_n S0.1 S0.2.1 dVe_fillOrigins_0 rfl (lv_at hl 0 rfl) ?_
  refine hw_get S0 hK hg h0 rfl inVe 2 (by decide) lf_Ve_18 rfl rfl dVe_fillOrigins_1 ?_
  refine lv_bipush (v := nI 60) S0.1 S0.2.1 dVe_fillOrigins_4 (by decide) ?_
  refine lv_imul S0.1 S0.2.1 dVe_fillOrigins_6 ?_
  refine hw_top (nI (vs.length * 60)) (pk_mul _ _) ?_
  refine lv_istore_n (lv' := [(2, .int (nI (vs.length * 60))), (0, .ref ve), (1, .ref rx)]) S0.1 S0.2.1 dVe_fillOrigins_7 rfl hl (by decide) rfl (fun ls hl => ?_)
  refine lv_iconst (v := nI 0) S0.1 S0.2.1 dVe_fillOrigins_8 (by decide) ?_
  refine lv_istore_n (lv' := [(3, .int (nI 0)), (2, .int (nI (vs.length * 60))), (0, .ref ve), (1, .ref rx)]) S0.1 S0.2.1 dVe_fillOrigins_9 rfl hl (by decide) rfl (fun ls hl => ?_)
  have loop_10 : ∀ (n_10 : Nat) (k : Nat) (fk : Nat → Int32) (gl : Nat → Option va_E) (H : Heap) (locs : List Loc) (ls : Array Slot), xs.length - k < n_10 → (k ≤ xs.length) → (∀ q, q < vs.length * 60 → fk q = fg q) → (∀ q, q < k → fk (vs.length * 60 + q) = nI vs.length) → (hfr g gl [og, cm, pa, pb, len]) → (gl og = some (.inl (cI, 1800, .inl fk))) → (gl cm = some (.inr (0, [.ref pa, .ref pb, .int cnt, .ref len]))) → (gl pa = some (.inl (cI, 60, .inl fp0))) → (gl pb = some (.inl (cI, 60, .inl fq0))) → (gl len = some (.inl (cI, 3721, .inl fl))) → hw D hC AX gl H → va_S AX sX.heap H locs → lv_has ls 4 [(0, .ref ve), (1, .ref rx), (2, .int (nI (vs.length * 60))), (3, .int (nI k))] → W pX l eX RX sX mX argsX belowX methX cX H locs 0 0 QX (F0 mX 10 ls []) := by
    intro n_10
    induction n_10 with
    | zero => intros; omega
    | succ n_10 ih_10 =>
      intro k fk gl H locs ls hm_10 hk hq1 hq2 fr e1 e_cm e_pa e_pb e_len hg hS hl
      have q10_ve := fr.at (h_nm (h_ne h0 h1 (fun h => by cases h)) (h_nm (h_ne h0 h6 (fun h => by simp at h)) (h_nm (h_ne h0 h7 (fun h => by cases h)) (h_nm (h_ne h0 h8 (fun h => by cases h)) (h_nm (h_ne h0 h9 (fun h => by cases h)) h_n0))))) h0
      have q10_nr := fr.at (h_nm (h_ne h2 h1 (fun h => by cases h)) (h_nm (h_ne h2 h6 (fun h => by simp at h)) (h_nm (h_ne h2 h7 (fun h => by cases h)) (h_nm (h_ne h2 h8 (fun h => by cases h)) (h_nm (h_ne h2 h9 (fun h => by cases h)) h_n0))))) h2
      have q10_ln := fr.at (h_nm n_ln_og (h_nm (h_ne h3 h6 (fun h => by cases h)) (h_nm n_ln_pa (h_nm n_ln_pb (h_nm n_ln_len h_n0))))) h3
      have q10_rx := fr.at (h_nm (h_ne h4 h1 (fun h => by cases h)) (h_nm (h_ne h4 h6 (fun h => by simp at h)) (h_nm (h_ne h4 h7 (fun h => by cases h)) (h_nm (h_ne h4 h8 (fun h => by cases h)) (h_nm (h_ne h4 h9 (fun h => by cases h)) h_n0))))) h4
      have q10_lx := fr.at (h_nm n_lx_og (h_nm (h_ne h5 h6 (fun h => by cases h)) (h_nm n_lx_pa (h_nm n_lx_pb (h_nm n_lx_len h_n0))))) h5
      refine lv_iload_n S0.1 S0.2.1 dVe_fillOrigins_10 rfl (lv_at hl 3 rfl) ?_
      refine lv_aload_n S0.1 S0.2.1 dVe_fillOrigins_11 rfl (lv_at hl 1 rfl) ?_
      refine hw_get S0 hK hg q10_rx rfl inRo 1 (by decide) lf_Ve_39 rfl rfl dVe_fillOrigins_12 ?_
      refine lv_icmp_ge (tgt := 36) S0.1 S0.2.1 dVe_fillOrigins_15 (by decide) (fun c_15 => ?_) (fun c_15 => ?_)
      · skip
        have c_15 : xs.length ≤ k := (nI_leI (by omega) (by omega)).mp c_15
        refine lv_aload_n S0.1 S0.2.1 dVe_fillOrigins_36 rfl (lv_at hl 0 rfl) ?_
        refine hw_get S0 hK hg q10_ve rfl inVe 2 (by decide) lf_Ve_18 rfl rfl dVe_fillOrigins_37 ?_
        refine lv_if_le (tgt := 109) S0.1 S0.2.1 dVe_fillOrigins_40 (by decide) (fun c_40 => ?_) (fun c_40 => ?_)
        · skip
          rw [← nI_0] at c_40
          have c_40 : vs.length ≤ 0 := (nI_leI (by omega) (by omega)).mp c_40
          have e0 : vs.length = 0 := by omega
          have enw := v4 e0
          have eor : orig vs nw xs = List.replicate xs.length vs.length := by rw [enw]; rfl
          exact hend _ _ _ _ _ _ _ (by decide) (by decide) (⟨fr, fk, _, _, _, _, e1, e_cm, e_pa, e_pb, e_len, hq1, fun q h => by rw [eor, getD_rep h]; exact hq2 q (by omega)⟩) hg hS dVe_fillOrigins_109
        · skip
          rw [← nI_0] at c_40
          have c_40 : ¬ (vs.length ≤ 0) := fun h => c_40 ((nI_leI (by omega) (by omega)).mpr h)
          refine lv_aload_n S0.1 S0.2.1 dVe_fillOrigins_43 rfl (lv_at hl 0 rfl) ?_
          refine hw_get S0 hK hg q10_ve rfl inVe 4 (by decide) lf_Ve_31 rfl rfl dVe_fillOrigins_44 ?_
          refine lv_aload_n S0.1 S0.2.1 dVe_fillOrigins_47 rfl (lv_at hl 0 rfl) ?_
          refine hw_get S0 hK hg q10_ve rfl inVe 3 (by decide) lf_Ve_27 rfl rfl dVe_fillOrigins_48 ?_
          refine lv_aload_n S0.1 S0.2.1 dVe_fillOrigins_51 rfl (lv_at hl 1 rfl) ?_
          refine hw_Vv (As := [.ref nr, .ref rx]) (rest := []) S0 hK hg hS hA0 e_cm rfl (c_Co_find l D cI cR cJ gl _ cm pa pb len nr ln 60 rx lx cx cnt nw xs fn fx_ fl e_cm e_len q10_nr q10_ln q10_rx q10_lx en ex n_ln_len n_lx_len v2 hx6 v2 hcx (by omega) hdx fp0 fq0 e_pa e_pb n_ln_pa n_ln_pb n_lx_pa n_lx_pb n_pa_pb n_pa_len n_pb_len) kCo_find lm_Ve_43 (hR.call rfl) rfl hl.1 rfl (Nat.le_of_ble_eq_true rfl) dVe_fillOrigins_52 (hR.new (by decide) (by decide)) (fun g_1 H locs hp_52 hg hS => ?_)
          obtain ⟨fr1, fA, fB, fL, a0, a1, a2, a3, hA, hB⟩ := hp_52
          have eor : orig vs nw xs = ofold (vs.getD (vs.length - 1) []) (prs nw xs nw.length) (List.replicate xs.length vs.length) := rfl
          have hP60 := prs_len nw xs nw.length
          have hfl := fro_le nw xs nw.length
          generalize hP : prs nw xs nw.length = P at a0 hA hB eor hP60
          have k1_0 := fr1.at (h_nm (h_ne q10_ve e_cm (fun h => by simp at h)) (h_nm (h_ne q10_ve e_pa (fun h => by cases h)) (h_nm (h_ne q10_ve e_pb (fun h => by cases h)) (h_nm (h_ne q10_ve e_len (fun h => by cases h)) h_n0)))) q10_ve
          have k1_1 := fr1.at (h_nm (h_ne q10_nr e_cm (fun h => by simp at h)) (h_nm (h_ne q10_nr e_pa (fun h => by cases h)) (h_nm (h_ne q10_nr e_pb (fun h => by cases h)) (h_nm (h_ne q10_nr e_len (fun h => by cases h)) h_n0)))) q10_nr
          have k1_2 := fr1.at (h_nm (h_ne q10_ln e_cm (fun h => by cases h)) (h_nm n_ln_pa (h_nm n_ln_pb (h_nm n_ln_len h_n0)))) q10_ln
          have k1_3 := fr1.at (h_nm (h_ne q10_rx e_cm (fun h => by simp at h)) (h_nm (h_ne q10_rx e_pa (fun h => by cases h)) (h_nm (h_ne q10_rx e_pb (fun h => by cases h)) (h_nm (h_ne q10_rx e_len (fun h => by cases h)) h_n0)))) q10_rx
          have k1_4 := fr1.at (h_nm (h_ne q10_lx e_cm (fun h => by cases h)) (h_nm n_lx_pa (h_nm n_lx_pb (h_nm n_lx_len h_n0)))) q10_lx
          have k1_5 := fr1.at (h_nm (h_ne e1 e_cm (fun h => by cases h)) (h_nm (Ne.symm n_pa_og) (h_nm (Ne.symm n_pb_og) (h_nm (Ne.symm n_len_og) h_n0)))) e1
          have fr := fr.call fr1 (by simp)
          have e5 := v5 (by omega)
          generalize hpv : vs.getD (vs.length - 1) [] = pv at eor e5
          refine lv_iconst (v := nI 0) S0.1 S0.2.1 dVe_fillOrigins_55 (by decide) ?_
          refine lv_istore_n (lv' := [(3, .int (nI 0)), (0, .ref ve), (1, .ref rx), (2, .int (nI (vs.length * 60)))]) S0.1 S0.2.1 dVe_fillOrigins_56 rfl hl (by decide) rfl (fun ls hl => ?_)
          have loop_57 : ∀ (n_57 : Nat) (j : Nat) (fj : Nat → Int32) (gm : Nat → Option va_E) (H : Heap) (locs : List Loc) (ls : Array Slot), P.length - j < n_57 → (j ≤ P.length) → (∀ q, q < vs.length * 60 → fj q = fg q) → (∀ q, q < xs.length → fj (vs.length * 60 + q) = nI ((ofold pv (P.take j) (List.replicate xs.length vs.length)).getD q 0)) → (hfr g gm [og, cm, pa, pb, len]) → (gm og = some (.inl (cI, 1800, .inl fj))) → (gm cm = some (.inr (0, [.ref pa, .ref pb, .int (nI P.length), .ref len]))) → (gm pa = some (.inl (cI, 60, .inl fA))) → (gm pb = some (.inl (cI, 60, .inl fB))) → (gm len = some (.inl (cI, 3721, .inl fL))) → hw D hC AX gm H → va_S AX sX.heap H locs → lv_has ls 4 [(0, .ref ve), (1, .ref rx), (2, .int (nI (vs.length * 60))), (3, .int (nI j))] → W pX l eX RX sX mX argsX belowX methX cX H locs 0 0 QX (F0 mX 57 ls []) := by
            intro n_57
            induction n_57 with
            | zero => intros; omega
            | succ n_57 ih_57 =>
              intro j fj gm H locs ls hm_57 hj hr1 hr2 fr d1 d_cm d_pa d_pb d_len hg hS hl
              have q57_ve := fr.at (h_nm (h_ne k1_0 k1_5 (fun h => by cases h)) (h_nm (h_ne k1_0 a0 (fun h => by simp at h)) (h_nm (h_ne k1_0 a1 (fun h => by cases h)) (h_nm (h_ne k1_0 a2 (fun h => by cases h)) (h_nm (h_ne k1_0 a3 (fun h => by cases h)) h_n0))))) h0
              have q57_nr := fr.at (h_nm (h_ne k1_1 k1_5 (fun h => by cases h)) (h_nm (h_ne k1_1 a0 (fun h => by simp at h)) (h_nm (h_ne k1_1 a1 (fun h => by cases h)) (h_nm (h_ne k1_1 a2 (fun h => by cases h)) (h_nm (h_ne k1_1 a3 (fun h => by cases h)) h_n0))))) h2
              have q57_ln := fr.at (h_nm n_ln_og (h_nm (h_ne k1_2 a0 (fun h => by cases h)) (h_nm n_ln_pa (h_nm n_ln_pb (h_nm n_ln_len h_n0))))) h3
              have q57_rx := fr.at (h_nm (h_ne k1_3 k1_5 (fun h => by cases h)) (h_nm (h_ne k1_3 a0 (fun h => by simp at h)) (h_nm (h_ne k1_3 a1 (fun h => by cases h)) (h_nm (h_ne k1_3 a2 (fun h => by cases h)) (h_nm (h_ne k1_3 a3 (fun h => by cases h)) h_n0))))) h4
              have q57_lx := fr.at (h_nm n_lx_og (h_nm (h_ne k1_4 a0 (fun h => by cases h)) (h_nm n_lx_pa (h_nm n_lx_pb (h_nm n_lx_len h_n0))))) h5
              refine lv_iload_n S0.1 S0.2.1 dVe_fillOrigins_57 rfl (lv_at hl 3 rfl) ?_
              refine lv_aload_n S0.1 S0.2.1 dVe_fillOrigins_58 rfl (lv_at hl 0 rfl) ?_
              refine hw_get S0 hK hg q57_ve rfl inVe 4 (by decide) lf_Ve_31 rfl rfl dVe_fillOrigins_59 ?_
              refine hw_get S0 hK hg d_cm rfl inCo 2 (by decide) lf_Ve_49 rfl rfl dVe_fillOrigins_62 ?_
              refine lv_icmp_ge (tgt := 109) S0.1 S0.2.1 dVe_fillOrigins_65 (by decide) (fun c_65 => ?_) (fun c_65 => ?_)
              · skip
                have c_65 : P.length ≤ j := (nI_leI (by omega) (by omega)).mp c_65
                have ej : j = P.length := by omega
                rw [ej, List.take_length, ← eor] at hr2
                exact hend _ _ _ _ _ _ _ (by decide) (by decide) (⟨fr, fj, _, _, _, _, d1, d_cm, d_pa, d_pb, d_len, hr1, hr2⟩) hg hS dVe_fillOrigins_109
              · skip
                have c_65 : ¬ (P.length ≤ j) := fun h => c_65 ((nI_leI (by omega) (by omega)).mpr h)
                obtain ⟨ia, jb, hget, htk, hpn, hin⟩ := prs_take (a := nw) (b := xs) (n := nw.length) (k := j) (by rw [hP]; omega)
                rw [hP] at hget htk
                have eA : fA j = nI ia := rpN_at hA hget
                have eB : fB j = nI jb := rpN_at hB hget
                have hsp := stp_spec (show stp nw xs (fro nw xs ia) ia = some jb from hpn)
                have hval : fj (vs.length * 60 - 60 + ia) = nI (pv.getD ia 0) := by rw [hr1 _ (by omega), show vs.length * 60 - 60 + ia = (vs.length - 1) * 60 + ia by omega, ← hpv]; exact hg_ (vs.length - 1) ia (by omega) (by rw [hpv]; omega)
                refine lv_aload_n S0.1 S0.2.1 dVe_fillOrigins_68 rfl (lv_at hl 0 rfl) ?_
                refine hw_get S0 hK hg q57_ve rfl inVe 1 (by decide) lf_Ve_15 rfl rfl dVe_fillOrigins_69 ?_
                refine lv_iload_n S0.1 S0.2.1 dVe_fillOrigins_72 rfl (lv_at hl 2 rfl) ?_
                refine lv_aload_n S0.1 S0.2.1 dVe_fillOrigins_73 rfl (lv_at hl 0 rfl) ?_
                refine hw_get S0 hK hg q57_ve rfl inVe 4 (by decide) lf_Ve_31 rfl rfl dVe_fillOrigins_74 ?_
                refine hw_get S0 hK hg d_cm rfl inCo 1 (by decide) lf_Ve_50 rfl rfl dVe_fillOrigins_77 ?_
                refine lv_iload_n S0.1 S0.2.1 dVe_fillOrigins_80 rfl (lv_at hl 3 rfl) ?_
                refine hw_iald S0 hK hg d_pb 0 rfl (by omega) (by omega) dVe_fillOrigins_81 ?_
                refine hw_top (nI jb) eB ?_
                refine lv_iadd S0.1 S0.2.1 dVe_fillOrigins_82 ?_
                refine hw_top (nI ((vs.length * 60) + jb)) (nI_add _ _) ?_
                refine lv_aload_n S0.1 S0.2.1 dVe_fillOrigins_83 rfl (lv_at hl 0 rfl) ?_
                refine hw_get S0 hK hg q57_ve rfl inVe 1 (by decide) lf_Ve_15 rfl rfl dVe_fillOrigins_84 ?_
                refine lv_iload_n S0.1 S0.2.1 dVe_fillOrigins_87 rfl (lv_at hl 2 rfl) ?_
                refine lv_bipush (v := nI 60) S0.1 S0.2.1 dVe_fillOrigins_88 (by decide) ?_
                refine lv_isub S0.1 S0.2.1 dVe_fillOrigins_90 ?_
                refine hw_top (nI ((vs.length * 60) - 60)) (pk_sub (by omega)) ?_
                refine lv_aload_n S0.1 S0.2.1 dVe_fillOrigins_91 rfl (lv_at hl 0 rfl) ?_
                refine hw_get S0 hK hg q57_ve rfl inVe 4 (by decide) lf_Ve_31 rfl rfl dVe_fillOrigins_92 ?_
                refine hw_get S0 hK hg d_cm rfl inCo 0 (by decide) lf_Ve_53 rfl rfl dVe_fillOrigins_95 ?_
                refine lv_iload_n S0.1 S0.2.1 dVe_fillOrigins_98 rfl (lv_at hl 3 rfl) ?_
                refine hw_iald S0 hK hg d_pa 0 rfl (by omega) (by omega) dVe_fillOrigins_99 ?_
                refine hw_top (nI ia) eA ?_
                refine lv_iadd S0.1 S0.2.1 dVe_fillOrigins_100 ?_
                refine hw_top (nI (((vs.length * 60) - 60) + ia)) (nI_add _ _) ?_
                refine hw_iald S0 hK hg d1 0 rfl (by omega) (by omega) dVe_fillOrigins_101 ?_
                refine hw_iast S0 hK hg hS d1 0 rfl (by omega) (by omega) dVe_fillOrigins_102 (fun H locs hg hS => ?_)
                obtain ⟨g_2, eg_2⟩ : ∃ z, z = hs gm og (.inl (cI, 1800, .inl (upd fj ((vs.length * 60) + jb) (fj (((vs.length * 60) - 60) + ia))))) := ⟨_, rfl⟩
                have hg : hw D hC AX g_2 H := by rw [eg_2]; exact hg
                have f2_0 : g_2 ve = some (.inr (6, [.ref sv, .ref og, .int (nI vs.length), .ref nr, .ref cm])) := by rw [eg_2, hs_n _ _ (h_ne q57_ve d1 (fun h => by cases h))]; exact q57_ve
                have f2_1 : g_2 nr = some (.inr (5, [.ref ln, .int (nI nw.length)])) := by rw [eg_2, hs_n _ _ (h_ne q57_nr d1 (fun h => by cases h))]; exact q57_nr
                have f2_2 : g_2 ln = some (.inl (cI, 60, .inl fn)) := by rw [eg_2, hs_n _ _ n_ln_og]; exact q57_ln
                have f2_3 : g_2 rx = some (.inr (5, [.ref lx, .int (nI xs.length)])) := by rw [eg_2, hs_n _ _ (h_ne q57_rx d1 (fun h => by cases h))]; exact q57_rx
                have f2_4 : g_2 lx = some (.inl (cI, cx, .inl fx_)) := by rw [eg_2, hs_n _ _ n_lx_og]; exact q57_lx
                have f2_5 : g_2 cm = some (.inr (0, [.ref pa, .ref pb, .int (nI P.length), .ref len])) := by rw [eg_2, hs_n _ _ (h_ne d_cm d1 (fun h => by cases h))]; exact d_cm
                have f2_6 : g_2 pa = some (.inl (cI, 60, .inl fA)) := by rw [eg_2, hs_n _ _ n_pa_og]; exact d_pa
                have f2_7 : g_2 pb = some (.inl (cI, 60, .inl fB)) := by rw [eg_2, hs_n _ _ n_pb_og]; exact d_pb
                have f2_8 : g_2 len = some (.inl (cI, 3721, .inl fL)) := by rw [eg_2, hs_n _ _ n_len_og]; exact d_len
                have f2_9 : g_2 og = some (.inl (cI, 1800, .inl (upd fj ((vs.length * 60) + jb) (fj (((vs.length * 60) - 60) + ia))))) := by rw [eg_2]; exact hs_s _ _ _
                have fr := fr.put eg_2 (by simp)
                refine lv_iinc (v := nI (j + 1)) (lv' := [(3, .int (nI (j + 1))), (0, .ref ve), (1, .ref rx), (2, .int (nI (vs.length * 60)))]) S0.1 S0.2.1 dVe_fillOrigins_103 hl (k := 3) rfl (by exact nI_add _ 1) (by decide) rfl (fun ls hl => ?_)
                refine lv_goto (tgt := 57) S0.1 S0.2.1 dVe_fillOrigins_106 (by decide) ?_
                exact ih_57 (j + 1) (upd fj ((vs.length * 60) + jb) (fj (((vs.length * 60) - 60) + ia))) g_2 _ _ _ (by omega) (by omega) (fun q h => by rw [pk_un (by omega)]; exact hr1 q h) (fun q h => by rw [take_snoc hget, ofold_snoc, getD_set (by rw [ofold_len, List.length_replicate]; omega)]; by_cases e : q = jb; rw [if_pos e, e, pk_us, hval]; rw [if_neg e, pk_un (by omega)]; exact hr2 q h) fr f2_9 f2_5 f2_6 f2_7 f2_8 hg hS (lv_sub hl [1, 2, 3, 0] rfl)
          exact loop_57 _ 0 fk g_1 _ _ _ (Nat.lt_succ_self _) (Nat.zero_le _) hq1 (fun q h => by rw [List.take_zero]; rw [show ofold pv [] (List.replicate xs.length vs.length) = List.replicate xs.length vs.length from rfl, getD_rep h]; exact hq2 q (by omega)) fr k1_5 a0 a1 a2 a3 hg hS (lv_sub hl [1, 2, 3, 0] rfl)
      · skip
        have c_15 : ¬ (xs.length ≤ k) := fun h => c_15 ((nI_leI (by omega) (by omega)).mpr h)
        refine lv_aload_n S0.1 S0.2.1 dVe_fillOrigins_18 rfl (lv_at hl 0 rfl) ?_
        refine hw_get S0 hK hg q10_ve rfl inVe 1 (by decide) lf_Ve_15 rfl rfl dVe_fillOrigins_19 ?_
        refine lv_iload_n S0.1 S0.2.1 dVe_fillOrigins_22 rfl (lv_at hl 2 rfl) ?_
        refine lv_iload_n S0.1 S0.2.1 dVe_fillOrigins_23 rfl (lv_at hl 3 rfl) ?_
        refine lv_iadd S0.1 S0.2.1 dVe_fillOrigins_24 ?_
        refine hw_top (nI ((vs.length * 60) + k)) (nI_add _ _) ?_
        refine lv_aload_n S0.1 S0.2.1 dVe_fillOrigins_25 rfl (lv_at hl 0 rfl) ?_
        refine hw_get S0 hK hg q10_ve rfl inVe 2 (by decide) lf_Ve_18 rfl rfl dVe_fillOrigins_26 ?_
        refine hw_iast S0 hK hg hS e1 0 rfl (by omega) (by omega) dVe_fillOrigins_29 (fun H locs hg hS => ?_)
        obtain ⟨g_3, eg_3⟩ : ∃ z, z = hs gl og (.inl (cI, 1800, .inl (upd fk ((vs.length * 60) + k) (nI vs.length)))) := ⟨_, rfl⟩
        have hg : hw D hC AX g_3 H := by rw [eg_3]; exact hg
        have f3_0 : g_3 ve = some (.inr (6, [.ref sv, .ref og, .int (nI vs.length), .ref nr, .ref cm])) := by rw [eg_3, hs_n _ _ (h_ne q10_ve e1 (fun h => by cases h))]; exact q10_ve
        have f3_1 : g_3 nr = some (.inr (5, [.ref ln, .int (nI nw.length)])) := by rw [eg_3, hs_n _ _ (h_ne q10_nr e1 (fun h => by cases h))]; exact q10_nr
        have f3_2 : g_3 ln = some (.inl (cI, 60, .inl fn)) := by rw [eg_3, hs_n _ _ n_ln_og]; exact q10_ln
        have f3_3 : g_3 rx = some (.inr (5, [.ref lx, .int (nI xs.length)])) := by rw [eg_3, hs_n _ _ (h_ne q10_rx e1 (fun h => by cases h))]; exact q10_rx
        have f3_4 : g_3 lx = some (.inl (cI, cx, .inl fx_)) := by rw [eg_3, hs_n _ _ n_lx_og]; exact q10_lx
        have f3_5 : g_3 cm = some (.inr (0, [.ref pa, .ref pb, .int cnt, .ref len])) := by rw [eg_3, hs_n _ _ (h_ne e_cm e1 (fun h => by cases h))]; exact e_cm
        have f3_6 : g_3 pa = some (.inl (cI, 60, .inl fp0)) := by rw [eg_3, hs_n _ _ n_pa_og]; exact e_pa
        have f3_7 : g_3 pb = some (.inl (cI, 60, .inl fq0)) := by rw [eg_3, hs_n _ _ n_pb_og]; exact e_pb
        have f3_8 : g_3 len = some (.inl (cI, 3721, .inl fl)) := by rw [eg_3, hs_n _ _ n_len_og]; exact e_len
        have f3_9 : g_3 og = some (.inl (cI, 1800, .inl (upd fk ((vs.length * 60) + k) (nI vs.length)))) := by rw [eg_3]; exact hs_s _ _ _
        have fr := fr.put eg_3 (by simp)
        refine lv_iinc (v := nI (k + 1)) (lv' := [(3, .int (nI (k + 1))), (0, .ref ve), (1, .ref rx), (2, .int (nI (vs.length * 60)))]) S0.1 S0.2.1 dVe_fillOrigins_30 hl (k := 3) rfl (by exact nI_add _ 1) (by decide) rfl (fun ls hl => ?_)
        refine lv_goto (tgt := 10) S0.1 S0.2.1 dVe_fillOrigins_33 (by decide) ?_
        exact ih_10 (k + 1) (upd fk ((vs.length * 60) + k) (nI vs.length)) g_3 _ _ _ (by omega) (by omega) (fun q h => by rw [pk_un (by omega)]; exact hq1 q h) (fun q h => by rcases Nat.lt_or_ge q k with h9 | h9; rw [pk_un (by omega)]; exact hq2 q h9; rw [show q = k by omega, pk_us]) fr f3_9 f3_5 f3_6 f3_7 f3_8 hg hS (lv_sub hl [1, 2, 3, 0] rfl)
  exact loop_10 _ 0 fg g _ _ _ (Nat.lt_succ_self _) (Nat.zero_le _) (fun q h => rfl) (fun q h => absurd h (Nat.not_lt_zero q)) fr h1 h6 h7 h8 h9 hg hS (lv_sub hl [2, 3, 1, 0] rfl)
set_option maxRecDepth 100000 in
set_option maxHeartbeats 4000000 in
theorem c_Ve_add (l : Launch) (D : va_G) (cI cR cJ : ClassId) (g : Nat → Option va_E) (sz : Nat) (ve sv og nr ln cm pa pb len rx lx cx : Nat) (vs : List (List Nat)) (nw xs : List Int32) (fs fg fn fx_ fp0 fq0 fl : Nat → Int32) (cnt : Int32) (h0 : g ve = some (.inr (6, [.ref sv, .ref og, .int (nI vs.length), .ref nr, .ref cm]))) (h1 : g og = some (.inl (cI, 1800, .inl fg))) (h2 : g nr = some (.inr (5, [.ref ln, .int (nI nw.length)]))) (h3 : g ln = some (.inl (cI, 60, .inl fn))) (h4 : g rx = some (.inr (5, [.ref lx, .int (nI xs.length)]))) (h5 : g lx = some (.inl (cI, cx, .inl fx_))) (h6 : g cm = some (.inr (0, [.ref pa, .ref pb, .int cnt, .ref len]))) (h7 : g pa = some (.inl (cI, 60, .inl fp0))) (h8 : g pb = some (.inl (cI, 60, .inl fq0))) (h9 : g len = some (.inl (cI, 3721, .inl fl))) (en : rp fn nw) (ex : rp fx_ xs) (hx6 : xs.length ≤ 60) (hcx : xs.length ≤ cx) (hdx : cx < 4000) (hv : vok vs nw) (hv3 : vs.length < 30) (hg_ : rpV fg vs) (n_ln_pa : ln ≠ pa) (n_ln_pb : ln ≠ pb) (n_ln_len : ln ≠ len) (n_ln_og : ln ≠ og) (n_lx_pa : lx ≠ pa) (n_lx_pb : lx ≠ pb) (n_lx_len : lx ≠ len) (n_lx_og : lx ≠ og) (n_pa_pb : pa ≠ pb) (n_pa_len : pa ≠ len) (n_pa_og : pa ≠ og) (n_pb_len : pb ≠ len) (n_pb_og : pb ≠ og) (n_len_og : len ≠ og) (n_ln_lx : ln ≠ lx) (n_nr_rx : nr ≠ rx) (n_ln_sv : ln ≠ sv) (n_lx_sv : lx ≠ sv) (n_pa_sv : pa ≠ sv) (n_pb_sv : pb ≠ sv) (n_len_sv : len ≠ sv) (n_og_sv : og ≠ sv) (h10 : g sv = some (.inl (cI, 30, .inl fs))) (hs_ : rpS fs vs) : hMv l yVe_add cVe_add 2 (hRm 4 96 0 0) D (hT cI cR cJ) g sz [.ref ve, .ref rx] (fun g1 => hfr g g1 [ve, sv, og, nr, ln, cm, pa, pb, len] ∧ ∃ (f1 f2 f3 gp gq gl_ : Nat → Int32) (k2 : Int32), g1 ve = some (.inr (6, [.ref sv, .ref og, .int (nI (vs.length + 1)), .ref nr, .ref cm])) ∧ g1 sv = some (.inl (cI, 30, .inl f2)) ∧ g1 og = some (.inl (cI, 1800, .inl f1)) ∧ g1 nr = some (.inr (5, [.ref ln, .int (nI xs.length)])) ∧ g1 ln = some (.inl (cI, 60, .inl f3)) ∧ g1 cm = some (.inr (0, [.ref pa, .ref pb, .int k2, .ref len])) ∧ g1 pa = some (.inl (cI, 60, .inl gp)) ∧ g1 pb = some (.inl (cI, 60, .inl gq)) ∧ g1 len = some (.inl (cI, 3721, .inl gl_)) ∧ rp f3 xs ∧ rpV f1 (vs ++ [orig vs nw xs]) ∧ rpS f2 (vs ++ [orig vs nw xs])) := by
  refine hMv_of (by decide +kernel) (Nat.le_of_ble_eq_true rfl) ?_
  intro pX eX RX sX mX argsX belowX methX cX QX AX hR S0 hnm hsz hg hK hS hA0 hend ls hl
  have hl : lv_has ls 2 [(0, .ref ve), (1, .ref rx)] := hl
  have fr : hfr g g [ve, sv, og, nr, ln, cm, pa, pb, len] := hfr.rf
  obtain ⟨v1, v2, v3, v4, v5⟩ := id hv
  refine lv_aload_n S0.1 S0.2.1 dVe_add_0 rfl (lv_at hl 0 rfl) ?_
  refine hw_get S0 hK hg h0 rfl inVe 2 (by decide) lf_Ve_18 rfl rfl dVe_add_1 ?_
  refine lv_bipush (v := nI 30) S0.1 S0.2.1 dVe_add_4 (by decide) ?_
  refine lv_icmp_ge (tgt := 45) S0.1 S0.2.1 dVe_add_6 (by decide) (fun c_6 => ?_) (fun c_6 => ?_)
  · skip
    have c_6 : 30 ≤ vs.length := (nI_leI (by omega) (by omega)).mp c_6
    exact absurd hv3 (by omega)
  · skip
    have c_6 : ¬ (30 ≤ vs.length) := fun h => c_6 ((nI_leI (by omega) (by omega)).mpr h)
    refine lv_aload_n S0.1 S0.2.1 dVe_add_9 rfl (lv_at hl 0 rfl) ?_
    refine lv_aload_n S0.1 S0.2.1 dVe_add_10 rfl (lv_at hl 1 rfl) ?_
    refine hw_Vv (As := [.ref rx]) (rest := []) S0 hK hg hS hA0 h0 rfl (c_Ve_fillOrigins l D cI cR cJ g _ ve sv og nr ln cm pa pb len rx lx cx vs nw xs fs fg fn fx_ fp0 fq0 fl cnt h0 h1 h2 h3 h4 h5 h6 h7 h8 h9 en ex hx6 hcx hdx hv hv3 hg_ n_ln_pa n_ln_pb n_ln_len n_ln_og n_lx_pa n_lx_pb n_lx_len n_lx_og n_pa_pb n_pa_len n_pa_og n_pb_len n_pb_og n_len_og) kVe_fillOrigins lm_Ve_35 (hR.call rfl) rfl hl.1 rfl (Nat.le_of_ble_eq_true rfl) dVe_add_11 (hR.new (by decide) (by decide)) (fun g_1 H locs hp_11 hg hS => ?_)
    obtain ⟨fr1, f1, gp, gq, gl_, k2, a0, a1, a2, a3, a4, hq1, hq2⟩ := hp_11
    have k1_0 := fr1.at (h_nm (h_ne h0 h1 (fun h => by cases h)) (h_nm (h_ne h0 h6 (fun h => by simp at h)) (h_nm (h_ne h0 h7 (fun h => by cases h)) (h_nm (h_ne h0 h8 (fun h => by cases h)) (h_nm (h_ne h0 h9 (fun h => by cases h)) h_n0))))) h0
    have k1_1 := fr1.at (h_nm (h_ne h2 h1 (fun h => by cases h)) (h_nm (h_ne h2 h6 (fun h => by simp at h)) (h_nm (h_ne h2 h7 (fun h => by cases h)) (h_nm (h_ne h2 h8 (fun h => by cases h)) (h_nm (h_ne h2 h9 (fun h => by cases h)) h_n0))))) h2
    have k1_2 := fr1.at (h_nm n_ln_og (h_nm (h_ne h3 h6 (fun h => by cases h)) (h_nm n_ln_pa (h_nm n_ln_pb (h_nm n_ln_len h_n0))))) h3
    have k1_3 := fr1.at (h_nm (h_ne h4 h1 (fun h => by cases h)) (h_nm (h_ne h4 h6 (fun h => by simp at h)) (h_nm (h_ne h4 h7 (fun h => by cases h)) (h_nm (h_ne h4 h8 (fun h => by cases h)) (h_nm (h_ne h4 h9 (fun h => by cases h)) h_n0))))) h4
    have k1_4 := fr1.at (h_nm n_lx_og (h_nm (h_ne h5 h6 (fun h => by cases h)) (h_nm n_lx_pa (h_nm n_lx_pb (h_nm n_lx_len h_n0))))) h5
    have k1_5 := fr1.at (h_nm (Ne.symm n_og_sv) (h_nm (h_ne h10 h6 (fun h => by cases h)) (h_nm (Ne.symm n_pa_sv) (h_nm (Ne.symm n_pb_sv) (h_nm (Ne.symm n_len_sv) h_n0))))) h10
    have fr := fr.call fr1 (by simp)
    refine lv_aload_n S0.1 S0.2.1 dVe_add_14 rfl (lv_at hl 0 rfl) ?_
    refine hw_get S0 hK hg k1_0 rfl inVe 0 (by decide) lf_Ve_9 rfl rfl dVe_add_15 ?_
    refine lv_aload_n S0.1 S0.2.1 dVe_add_18 rfl (lv_at hl 0 rfl) ?_
    refine hw_get S0 hK hg k1_0 rfl inVe 2 (by decide) lf_Ve_18 rfl rfl dVe_add_19 ?_
    refine lv_aload_n S0.1 S0.2.1 dVe_add_22 rfl (lv_at hl 1 rfl) ?_
    refine hw_get S0 hK hg k1_3 rfl inRo 1 (by decide) lf_Ve_39 rfl rfl dVe_add_23 ?_
    refine hw_iast S0 hK hg hS k1_5 0 rfl (by omega) (by omega) dVe_add_26 (fun H locs hg hS => ?_)
    obtain ⟨g_2, eg_2⟩ : ∃ z, z = hs g_1 sv (.inl (cI, 30, .inl (upd fs vs.length (nI xs.length)))) := ⟨_, rfl⟩
    have hg : hw D hC AX g_2 H := by rw [eg_2]; exact hg
    have f2_0 : g_2 ve = some (.inr (6, [.ref sv, .ref og, .int (nI vs.length), .ref nr, .ref cm])) := by rw [eg_2, hs_n _ _ (h_ne k1_0 k1_5 (fun h => by cases h))]; exact k1_0
    have f2_1 : g_2 nr = some (.inr (5, [.ref ln, .int (nI nw.length)])) := by rw [eg_2, hs_n _ _ (h_ne k1_1 k1_5 (fun h => by cases h))]; exact k1_1
    have f2_2 : g_2 ln = some (.inl (cI, 60, .inl fn)) := by rw [eg_2, hs_n _ _ n_ln_sv]; exact k1_2
    have f2_3 : g_2 rx = some (.inr (5, [.ref lx, .int (nI xs.length)])) := by rw [eg_2, hs_n _ _ (h_ne k1_3 k1_5 (fun h => by cases h))]; exact k1_3
    have f2_4 : g_2 lx = some (.inl (cI, cx, .inl fx_)) := by rw [eg_2, hs_n _ _ n_lx_sv]; exact k1_4
    have f2_5 : g_2 og = some (.inl (cI, 1800, .inl f1)) := by rw [eg_2, hs_n _ _ n_og_sv]; exact a0
    have f2_6 : g_2 cm = some (.inr (0, [.ref pa, .ref pb, .int k2, .ref len])) := by rw [eg_2, hs_n _ _ (h_ne a1 k1_5 (fun h => by cases h))]; exact a1
    have f2_7 : g_2 pa = some (.inl (cI, 60, .inl gp)) := by rw [eg_2, hs_n _ _ n_pa_sv]; exact a2
    have f2_8 : g_2 pb = some (.inl (cI, 60, .inl gq)) := by rw [eg_2, hs_n _ _ n_pb_sv]; exact a3
    have f2_9 : g_2 len = some (.inl (cI, 3721, .inl gl_)) := by rw [eg_2, hs_n _ _ n_len_sv]; exact a4
    have f2_10 : g_2 sv = some (.inl (cI, 30, .inl (upd fs vs.length (nI xs.length)))) := by rw [eg_2]; exact hs_s _ _ _
    have fr := fr.put eg_2 (by simp)
    refine lv_aload_n S0.1 S0.2.1 dVe_add_27 rfl (lv_at hl 0 rfl) ?_
    refine hw_get S0 hK hg f2_0 rfl inVe 3 (by decide) lf_Ve_27 rfl rfl dVe_add_28 ?_
    refine lv_aload_n S0.1 S0.2.1 dVe_add_31 rfl (lv_at hl 1 rfl) ?_
    refine hw_Vv (As := [.ref rx]) (rest := []) S0 hK hg hS hA0 f2_1 rfl (c_Ro_become l D cI cR cJ g_2 _ nr ln nw.length 60 rx lx xs.length cx fn fx_ f2_1 f2_2 f2_3 f2_4 (Ne.symm n_nr_rx) (Ne.symm n_ln_lx) hcx hx6 (by omega) hdx) kRo_become lm_Ve_40 (hR.call rfl) rfl hl.1 rfl (Nat.le_of_ble_eq_true rfl) dVe_add_32 (hR.new (by decide) (by decide)) (fun g_3 H locs hp_32 hg hS => ?_)
    obtain ⟨fr2, b0, f3, b1, b2⟩ := hp_32
    have k3_0 := fr2.at (h_nm (h_ne f2_0 f2_1 (fun h => by simp at h)) (h_nm (h_ne f2_0 f2_2 (fun h => by cases h)) h_n0)) f2_0
    have k3_1 := fr2.at (h_nm (Ne.symm n_nr_rx) (h_nm (h_ne f2_3 f2_2 (fun h => by cases h)) h_n0)) f2_3
    have k3_2 := fr2.at (h_nm (h_ne f2_4 f2_1 (fun h => by cases h)) (h_nm (Ne.symm n_ln_lx) h_n0)) f2_4
    have k3_3 := fr2.at (h_nm (h_ne f2_5 f2_1 (fun h => by cases h)) (h_nm (Ne.symm n_ln_og) h_n0)) f2_5
    have k3_4 := fr2.at (h_nm (h_ne f2_6 f2_1 (fun h => by simp at h)) (h_nm (h_ne f2_6 f2_2 (fun h => by cases h)) h_n0)) f2_6
    have k3_5 := fr2.at (h_nm (h_ne f2_7 f2_1 (fun h => by cases h)) (h_nm (Ne.symm n_ln_pa) h_n0)) f2_7
    have k3_6 := fr2.at (h_nm (h_ne f2_8 f2_1 (fun h => by cases h)) (h_nm (Ne.symm n_ln_pb) h_n0)) f2_8
    have k3_7 := fr2.at (h_nm (h_ne f2_9 f2_1 (fun h => by cases h)) (h_nm (Ne.symm n_ln_len) h_n0)) f2_9
    have k3_8 := fr2.at (h_nm (h_ne f2_10 f2_1 (fun h => by cases h)) (h_nm (Ne.symm n_ln_sv) h_n0)) f2_10
    have fr := fr.call fr2 (by simp)
    refine lv_aload_n S0.1 S0.2.1 dVe_add_35 rfl (lv_at hl 0 rfl) ?_
    refine lv_dup S0.1 S0.2.1 dVe_add_36 rfl ?_
    refine hw_get S0 hK hg k3_0 rfl inVe 2 (by decide) lf_Ve_18 rfl rfl dVe_add_37 ?_
    refine lv_iconst (v := nI 1) S0.1 S0.2.1 dVe_add_40 (by decide) ?_
    refine lv_iadd S0.1 S0.2.1 dVe_add_41 ?_
    refine hw_top (nI (vs.length + 1)) (nI_add _ _) ?_
    refine hw_put S0 hK hg hS k3_0 rfl inVe tyVe tokVe nmVe 2 (by decide) lf_Ve_18 rfl rfl rfl rfl (Nat.le_of_ble_eq_true rfl) dVe_add_42 (fun H locs hg hS => ?_)
    obtain ⟨g_4, eg_4⟩ : ∃ z, z = hs g_3 ve (.inr (6, [.ref sv, .ref og, .int (nI (vs.length + 1)), .ref nr, .ref cm])) := ⟨_, rfl⟩
    have hg : hw D hC AX g_4 H := by rw [eg_4]; exact hg
    have f4_0 : g_4 rx = some (.inr (5, [.ref lx, .int (nI xs.length)])) := by rw [eg_4, hs_n _ _ (h_ne k3_1 k3_0 (fun h => by simp at h))]; exact k3_1
    have f4_1 : g_4 lx = some (.inl (cI, cx, .inl fx_)) := by rw [eg_4, hs_n _ _ (h_ne k3_2 k3_0 (fun h => by cases h))]; exact k3_2
    have f4_2 : g_4 og = some (.inl (cI, 1800, .inl f1)) := by rw [eg_4, hs_n _ _ (h_ne k3_3 k3_0 (fun h => by cases h))]; exact k3_3
    have f4_3 : g_4 cm = some (.inr (0, [.ref pa, .ref pb, .int k2, .ref len])) := by rw [eg_4, hs_n _ _ (h_ne k3_4 k3_0 (fun h => by simp at h))]; exact k3_4
    have f4_4 : g_4 pa = some (.inl (cI, 60, .inl gp)) := by rw [eg_4, hs_n _ _ (h_ne k3_5 k3_0 (fun h => by cases h))]; exact k3_5
    have f4_5 : g_4 pb = some (.inl (cI, 60, .inl gq)) := by rw [eg_4, hs_n _ _ (h_ne k3_6 k3_0 (fun h => by cases h))]; exact k3_6
    have f4_6 : g_4 len = some (.inl (cI, 3721, .inl gl_)) := by rw [eg_4, hs_n _ _ (h_ne k3_7 k3_0 (fun h => by cases h))]; exact k3_7
    have f4_7 : g_4 sv = some (.inl (cI, 30, .inl (upd fs vs.length (nI xs.length)))) := by rw [eg_4, hs_n _ _ (h_ne k3_8 k3_0 (fun h => by cases h))]; exact k3_8
    have f4_8 : g_4 nr = some (.inr (5, [.ref ln, .int (nI xs.length)])) := by rw [eg_4, hs_n _ _ (h_ne b0 k3_0 (fun h => by simp at h))]; exact b0
    have f4_9 : g_4 ln = some (.inl (cI, 60, .inl f3)) := by rw [eg_4, hs_n _ _ (h_ne b1 k3_0 (fun h => by cases h))]; exact b1
    have f4_10 : g_4 ve = some (.inr (6, [.ref sv, .ref og, .int (nI (vs.length + 1)), .ref nr, .ref cm])) := by rw [eg_4]; exact hs_s _ _ _
    have fr := fr.put eg_4 (by simp)
    exact hend _ _ _ _ _ _ _ (by decide) (by decide) (⟨fr, f1, (upd fs vs.length (nI xs.length)), f3, gp, gq, gl_, k2, f4_10, f4_7, f4_2, f4_8, f4_9, f4_3, f4_4, f4_5, f4_6, fun q h => by rw [b2 q h]; exact ex q h, rpV_snoc hg_ v3 hq1 (fun k h => hq2 k (by rw [orig_len] at h; exact h)), by have := rpS_snoc (o := orig vs nw xs) hs_; rw [orig_len] at this; exact this⟩) hg hS dVe_add_45
