/-! MERGING, on -/
set_option maxRecDepth 100000 in
set_option maxHeartbeats 4000000 in
theorem c_Mg_mergeUpToAnchors (l : Launch) (D : va_G) (cI cR cJ : ClassId) (g : Nat → Option va_E) (sz : Nat) (mo oc cc c1 c2 p1 p2 p3 lo : Nat) (rB lB cB rL lL cL rR lR cR_ : Nat) (bs lf rt : List Int32) (fB fL fR : Nat → Int32) (fc fo : Nat → Int32) (hrB : g rB = some (.inr (5, [.ref lB, .int (nI bs.length)]))) (hlB : g lB = some (.inl (cI, cB, .inl fB))) (eB : rp fB bs) (hcB : bs.length ≤ cB) (hdB : cB < 4000) (hrL : g rL = some (.inr (5, [.ref lL, .int (nI lf.length)]))) (hlL : g lL = some (.inl (cI, cL, .inl fL))) (eL : rp fL lf) (hcL : lf.length ≤ cL) (hdL : cL < 4000) (hrR : g rR = some (.inr (5, [.ref lR, .int (nI rt.length)]))) (hlR : g lR = some (.inl (cI, cR_, .inl fR))) (eR : rp fR rt) (hcR : rt.length ≤ cR_) (hdR : cR_ < 4000) (n_rB_oc : rB ≠ oc) (n_rL_oc : rL ≠ oc) (n_rR_oc : rR ≠ oc) (n_lB_cc : lB ≠ cc) (n_lB_lo : lB ≠ lo) (n_lL_cc : lL ≠ cc) (n_lL_lo : lL ≠ lo) (n_lR_cc : lR ≠ cc) (n_lR_lo : lR ≠ lo) (n_lo_cc : lo ≠ cc) (n_p1_p2 : p1 ≠ p2) (n_p1_p3 : p1 ≠ p3) (n_p2_p3 : p2 ≠ p3) (a1 b1 a2 b2 len : Nat) (fa1 fb1 fa2 fb2 : Nat → Int32) (n_a1_cc : a1 ≠ cc) (n_a1_lo : a1 ≠ lo) (n_b1_cc : b1 ≠ cc) (n_b1_lo : b1 ≠ lo) (n_a2_cc : a2 ≠ cc) (n_a2_lo : a2 ≠ lo) (n_b2_cc : b2 ≠ cc) (n_b2_lo : b2 ≠ lo) (P1 P2 : List (Nat × Nat)) (hP1 : P1 = prs bs lf bs.length) (hP2 : P2 = prs bs rt bs.length) (hk1 : g c1 = some (.inr (0, [.ref a1, .ref b1, .int (nI P1.length), .ref len]))) (ha1 : g a1 = some (.inl (cI, 60, .inl fa1))) (hb1 : g b1 = some (.inl (cI, 60, .inl fb1))) (ra1 : rpN fa1 (P1.map Prod.fst)) (rb1 : rpN fb1 (P1.map Prod.snd)) (hk2 : g c2 = some (.inr (0, [.ref a2, .ref b2, .int (nI P2.length), .ref len]))) (ha2 : g a2 = some (.inl (cI, 60, .inl fa2))) (hb2 : g b2 = some (.inl (cI, 60, .inl fb2))) (ra2 : rpN fa2 (P2.map Prod.fst)) (rb2 : rpN fb2 (P2.map Prod.snd)) (hb60 : bs.length ≤ 60) (hl60 : lf.length ≤ 60) (hr60 : rt.length ≤ 60) (e1 e2 e3 : Int32) (h0 : g mo = some (.inr (2, [.ref oc, .ref cc, .int (nI 0), .ref c1, .ref c2, .ref p1, .ref p2, .ref p3]))) (h1 : g cc = some (.inl (cI, 183, .inl fc))) (h2 : g oc = some (.inr (5, [.ref lo, .int (nI 0)]))) (h3 : g lo = some (.inl (cI, 120, .inl fo))) (hp1 : g p1 = some (.inr (3, [.ref rB, .int (nI 0), .int e1]))) (hp2 : g p2 = some (.inr (3, [.ref rL, .int (nI 0), .int e2]))) (hp3 : g p3 = some (.inr (3, [.ref rR, .int (nI 0), .int e3]))) : hMv l yMg_mergeUpToAnchors cMg_mergeUpToAnchors 5 (hRm 4 89 0 0) D (hT cI cR cJ) g sz [.ref mo, .ref rB] (fun g1 => hfr g g1 [mo, cc, oc, lo, p1, p2, p3] ∧ ∃ (x1 x2 x3 : Int32) (fcx fox : Nat → Int32), g1 mo = some (.inr (2, [.ref oc, .ref cc, .int (nI (mg bs lf rt bs.length).2.2.2.2.length), .ref c1, .ref c2, .ref p1, .ref p2, .ref p3])) ∧ g1 cc = some (.inl (cI, 183, .inl fcx)) ∧ g1 oc = some (.inr (5, [.ref lo, .int (nI (mg bs lf rt bs.length).2.2.2.1.length)])) ∧ g1 lo = some (.inl (cI, 120, .inl fox)) ∧ g1 p1 = some (.inr (3, [.ref rB, .int (nI (mg bs lf rt bs.length).1), .int x1])) ∧ g1 p2 = some (.inr (3, [.ref rL, .int (nI (mg bs lf rt bs.length).2.1), .int x2])) ∧ g1 p3 = some (.inr (3, [.ref rR, .int (nI (mg bs lf rt bs.length).2.2.1), .int x3])) ∧ rp fox (mg bs lf rt bs.length).2.2.2.1 ∧ rpN fcx (fl3 (mg bs lf rt bs.length).2.2.2.2)) := by
  refine hMv_of (by decide +kernel) (Nat.le_of_ble_eq_true rfl) ?_
  intro p e R s m args below meth c Q A hR S0 hnm hsz hg hK hS hA0 hend ls hl
  have hl : lv_has ls 5 [(0, .ref mo), (1, .ref rB)] := hl
  have fr : hfr g g [mo, cc, oc, lo, p1, p2, p3] := hfr.rf
  have hL1 : P1.length ≤ bs.length := by rw [hP1]; exact (prs_len bs lf bs.length).1
  have hL2 : P2.length ≤ bs.length := by rw [hP2]; exact (prs_len bs rt bs.length).1
  refine lv_iconst (v := nI 0) S0.1 S0.2.1 dMg_mergeUpToAnchors_0 (by decide) ?_
  refine lv_istore_n (lv' := [(2, .int (nI 0)), (0, .ref mo), (1, .ref rB)]) S0.1 S0.2.1 dMg_mergeUpToAnchors_1 rfl hl (by decide) rfl (fun ls hl => ?_)
  refine lv_iconst (v := nI 0) S0.1 S0.2.1 dMg_mergeUpToAnchors_2 (by decide) ?_
  refine lv_istore_n (lv' := [(3, .int (nI 0)), (2, .int (nI 0)), (0, .ref mo), (1, .ref rB)]) S0.1 S0.2.1 dMg_mergeUpToAnchors_3 rfl hl (by decide) rfl (fun ls hl => ?_)
  have loop_4 : ∀ (n_4 : Nat) (lx : Nat) (rx : Nat) (i : Nat) (x1 : Int32) (x2 : Int32) (x3 : Int32) (fcx : Nat → Int32) (fox : Nat → Int32) (gl : Nat → Option va_E) (H : Heap) (locs : List Loc) (ls : Array Slot), P1.length - lx < n_4 → (lx ≤ P1.length) → (i ≤ bs.length) → (prs bs lf i = P1.take lx) → (rx ≤ P2.length) → (∀ (k : Nat) (p : Nat × Nat), k < rx → P2[k]? = some p → ∀ (l2 : Nat) (q : Nat × Nat), lx ≤ l2 → P1[l2]? = some q → p.1 < q.1) → (hfr g gl [mo, cc, oc, lo, p1, p2, p3]) → (gl mo = some (.inr (2, [.ref oc, .ref cc, .int (nI (mg bs lf rt i).2.2.2.2.length), .ref c1, .ref c2, .ref p1, .ref p2, .ref p3]))) → (gl cc = some (.inl (cI, 183, .inl fcx))) → (gl oc = some (.inr (5, [.ref lo, .int (nI (mg bs lf rt i).2.2.2.1.length)]))) → (gl lo = some (.inl (cI, 120, .inl fox))) → (gl p1 = some (.inr (3, [.ref rB, .int (nI (mg bs lf rt i).1), .int x1]))) → (gl p2 = some (.inr (3, [.ref rL, .int (nI (mg bs lf rt i).2.1), .int x2]))) → (gl p3 = some (.inr (3, [.ref rR, .int (nI (mg bs lf rt i).2.2.1), .int x3]))) → (rp fox (mg bs lf rt i).2.2.2.1) → (rpN fcx (fl3 (mg bs lf rt i).2.2.2.2)) → hw D hC A gl H → va_S A s.heap H locs → lv_has ls 5 [(0, .ref mo), (1, .ref rB), (2, .int (nI rx)), (3, .int (nI lx))] → W p l e R s m args below meth c H locs 0 0 Q (F0 m 4 ls []) := by
    intro n_4
    induction n_4 with
    | zero => intros; omega
    | succ n_4 ih_4 =>
      intro lx rx i x1 x2 x3 fcx fox gl H locs ls hm_4 hlx hi hpi hrx hlt fr e0 e1_ e2_ e3_ e4_ e5_ e6_ eo ec hg hS hl
      have q4_rB := fr.at (h_nm (h_ne hrB h0 (fun h => by simp at h)) (h_nm (h_ne hrB h1 (fun h => by cases h)) (h_nm n_rB_oc (h_nm (h_ne hrB h3 (fun h => by cases h)) (h_nm (h_ne hrB hp1 (fun h => by simp at h)) (h_nm (h_ne hrB hp2 (fun h => by simp at h)) (h_nm (h_ne hrB hp3 (fun h => by simp at h)) h_n0))))))) hrB
      have q4_lB := fr.at (h_nm (h_ne hlB h0 (fun h => by cases h)) (h_nm n_lB_cc (h_nm (h_ne hlB h2 (fun h => by cases h)) (h_nm n_lB_lo (h_nm (h_ne hlB hp1 (fun h => by cases h)) (h_nm (h_ne hlB hp2 (fun h => by cases h)) (h_nm (h_ne hlB hp3 (fun h => by cases h)) h_n0))))))) hlB
      have q4_rL := fr.at (h_nm (h_ne hrL h0 (fun h => by simp at h)) (h_nm (h_ne hrL h1 (fun h => by cases h)) (h_nm n_rL_oc (h_nm (h_ne hrL h3 (fun h => by cases h)) (h_nm (h_ne hrL hp1 (fun h => by simp at h)) (h_nm (h_ne hrL hp2 (fun h => by simp at h)) (h_nm (h_ne hrL hp3 (fun h => by simp at h)) h_n0))))))) hrL
      have q4_lL := fr.at (h_nm (h_ne hlL h0 (fun h => by cases h)) (h_nm n_lL_cc (h_nm (h_ne hlL h2 (fun h => by cases h)) (h_nm n_lL_lo (h_nm (h_ne hlL hp1 (fun h => by cases h)) (h_nm (h_ne hlL hp2 (fun h => by cases h)) (h_nm (h_ne hlL hp3 (fun h => by cases h)) h_n0))))))) hlL
      have q4_rR := fr.at (h_nm (h_ne hrR h0 (fun h => by simp at h)) (h_nm (h_ne hrR h1 (fun h => by cases h)) (h_nm n_rR_oc (h_nm (h_ne hrR h3 (fun h => by cases h)) (h_nm (h_ne hrR hp1 (fun h => by simp at h)) (h_nm (h_ne hrR hp2 (fun h => by simp at h)) (h_nm (h_ne hrR hp3 (fun h => by simp at h)) h_n0))))))) hrR
      have q4_lR := fr.at (h_nm (h_ne hlR h0 (fun h => by cases h)) (h_nm n_lR_cc (h_nm (h_ne hlR h2 (fun h => by cases h)) (h_nm n_lR_lo (h_nm (h_ne hlR hp1 (fun h => by cases h)) (h_nm (h_ne hlR hp2 (fun h => by cases h)) (h_nm (h_ne hlR hp3 (fun h => by cases h)) h_n0))))))) hlR
      have q4_c1 := fr.at (h_nm (h_ne hk1 h0 (fun h => by simp at h)) (h_nm (h_ne hk1 h1 (fun h => by cases h)) (h_nm (h_ne hk1 h2 (fun h => by simp at h)) (h_nm (h_ne hk1 h3 (fun h => by cases h)) (h_nm (h_ne hk1 hp1 (fun h => by simp at h)) (h_nm (h_ne hk1 hp2 (fun h => by simp at h)) (h_nm (h_ne hk1 hp3 (fun h => by simp at h)) h_n0))))))) hk1
      have q4_a1 := fr.at (h_nm (h_ne ha1 h0 (fun h => by cases h)) (h_nm n_a1_cc (h_nm (h_ne ha1 h2 (fun h => by cases h)) (h_nm n_a1_lo (h_nm (h_ne ha1 hp1 (fun h => by cases h)) (h_nm (h_ne ha1 hp2 (fun h => by cases h)) (h_nm (h_ne ha1 hp3 (fun h => by cases h)) h_n0))))))) ha1
      have q4_b1 := fr.at (h_nm (h_ne hb1 h0 (fun h => by cases h)) (h_nm n_b1_cc (h_nm (h_ne hb1 h2 (fun h => by cases h)) (h_nm n_b1_lo (h_nm (h_ne hb1 hp1 (fun h => by cases h)) (h_nm (h_ne hb1 hp2 (fun h => by cases h)) (h_nm (h_ne hb1 hp3 (fun h => by cases h)) h_n0))))))) hb1
      have q4_c2 := fr.at (h_nm (h_ne hk2 h0 (fun h => by simp at h)) (h_nm (h_ne hk2 h1 (fun h => by cases h)) (h_nm (h_ne hk2 h2 (fun h => by simp at h)) (h_nm (h_ne hk2 h3 (fun h => by cases h)) (h_nm (h_ne hk2 hp1 (fun h => by simp at h)) (h_nm (h_ne hk2 hp2 (fun h => by simp at h)) (h_nm (h_ne hk2 hp3 (fun h => by simp at h)) h_n0))))))) hk2
      have q4_a2 := fr.at (h_nm (h_ne ha2 h0 (fun h => by cases h)) (h_nm n_a2_cc (h_nm (h_ne ha2 h2 (fun h => by cases h)) (h_nm n_a2_lo (h_nm (h_ne ha2 hp1 (fun h => by cases h)) (h_nm (h_ne ha2 hp2 (fun h => by cases h)) (h_nm (h_ne ha2 hp3 (fun h => by cases h)) h_n0))))))) ha2
      have q4_b2 := fr.at (h_nm (h_ne hb2 h0 (fun h => by cases h)) (h_nm n_b2_cc (h_nm (h_ne hb2 h2 (fun h => by cases h)) (h_nm n_b2_lo (h_nm (h_ne hb2 hp1 (fun h => by cases h)) (h_nm (h_ne hb2 hp2 (fun h => by cases h)) (h_nm (h_ne hb2 hp3 (fun h => by cases h)) h_n0))))))) hb2
      refine lv_iload_n S0.1 S0.2.1 dMg_mergeUpToAnchors_4 rfl (lv_at hl 3 rfl) ?_
      refine lv_aload_n S0.1 S0.2.1 dMg_mergeUpToAnchors_5 rfl (lv_at hl 0 rfl) ?_
      refine hw_get S0 hK hg e0 rfl inMg 3 (by decide) lf_Mg_28 rfl rfl dMg_mergeUpToAnchors_6 ?_
      refine hw_get S0 hK hg q4_c1 rfl inCo 2 (by decide) lf_Mg_68 rfl rfl dMg_mergeUpToAnchors_9 ?_
      refine lv_icmp_ge (tgt := 130) S0.1 S0.2.1 dMg_mergeUpToAnchors_12 (by decide) (fun c_12 => ?_) (fun c_12 => ?_)
      · skip
        have c_12 : P1.length ≤ lx := (nI_leI (by omega) (by omega)).mp c_12
        have elx : lx = P1.length := by omega
        have hmi : mg bs lf rt i = mg bs lf rt bs.length := mg_at (by rw [hpi, elx, List.take_length, hP1])
        rw [hmi] at e0 e2_ e4_ e5_ e6_ eo ec
        exact hend _ _ _ _ _ _ _ (by decide) (by decide) (⟨fr, x1, x2, x3, fcx, fox, e0, e1_, e2_, e3_, e4_, e5_, e6_, eo, ec⟩) hg hS dMg_mergeUpToAnchors_130
      · skip
        have c_12 : ¬ (P1.length ≤ lx) := fun h => c_12 ((nI_leI (by omega) (by omega)).mpr h)
        obtain ⟨pl, lj, hg1, hpl, hpn1, hplt⟩ := prs_take (a := bs) (b := lf) (n := bs.length) (k := lx) (by rw [← hP1]; omega)
        rw [← hP1] at hg1 hpl
        have eLA : fa1 lx = nI pl := rpN_at ra1 hg1
        have eLB : fb1 lx = nI lj := rpN_at rb1 hg1
        have hmi : mg bs lf rt i = mg bs lf rt pl := mg_at (by rw [hpi, hpl])
        rw [hmi] at e0 e2_ e4_ e5_ e6_ eo ec
        have hin := mg_in bs lf rt pl
        have hs1 := stp_spec (show stp bs lf (fro bs lf pl) pl = some lj from hpn1)
        have hfr2 := fro_le bs rt pl
        refine lv_aload_n S0.1 S0.2.1 dMg_mergeUpToAnchors_15 rfl (lv_at hl 0 rfl) ?_
        refine hw_get S0 hK hg e0 rfl inMg 3 (by decide) lf_Mg_28 rfl rfl dMg_mergeUpToAnchors_16 ?_
        refine hw_get S0 hK hg q4_c1 rfl inCo 0 (by decide) lf_Mg_69 rfl rfl dMg_mergeUpToAnchors_19 ?_
        refine lv_iload_n S0.1 S0.2.1 dMg_mergeUpToAnchors_22 rfl (lv_at hl 3 rfl) ?_
        refine hw_iald S0 hK hg q4_a1 0 rfl (by omega) (by omega) dMg_mergeUpToAnchors_23 ?_
        refine hw_top (nI pl) eLA ?_
        refine lv_istore (lv' := [(4, .int (nI pl)), (0, .ref mo), (1, .ref rB), (2, .int (nI rx)), (3, .int (nI lx))]) S0.1 S0.2.1 dMg_mergeUpToAnchors_24 hl (by decide) rfl (fun ls hl => ?_)
        have loop_26 : ∀ (n_26 : Nat) (ry : Nat) (H : Heap) (locs : List Loc) (ls : Array Slot), P2.length - ry < n_26 → (ry ≤ P2.length) → (∀ (k : Nat) (p : Nat × Nat), k < ry → P2[k]? = some p → p.1 < pl) → hw D hC A gl H → va_S A s.heap H locs → lv_has ls 5 [(0, .ref mo), (1, .ref rB), (2, .int (nI ry)), (3, .int (nI lx)), (4, .int (nI pl))] → W p l e R s m args below meth c H locs 0 0 Q (F0 m 26 ls []) := by
          intro n_26
          induction n_26 with
          | zero => intros; omega
          | succ n_26 ih_26 =>
            intro ry H locs ls hm_26 hry6 hry hg hS hl
            refine lv_iload_n S0.1 S0.2.1 dMg_mergeUpToAnchors_26 rfl (lv_at hl 2 rfl) ?_
            refine lv_aload_n S0.1 S0.2.1 dMg_mergeUpToAnchors_27 rfl (lv_at hl 0 rfl) ?_
            refine hw_get S0 hK hg e0 rfl inMg 4 (by decide) lf_Mg_32 rfl rfl dMg_mergeUpToAnchors_28 ?_
            refine hw_get S0 hK hg q4_c2 rfl inCo 2 (by decide) lf_Mg_68 rfl rfl dMg_mergeUpToAnchors_31 ?_
            refine lv_icmp_ge (tgt := 57) S0.1 S0.2.1 dMg_mergeUpToAnchors_34 (by decide) (fun c_34 => ?_) (fun c_34 => ?_)
            · skip
              have c_34 : P2.length ≤ ry := (nI_leI (by omega) (by omega)).mp c_34
              refine lv_iload_n S0.1 S0.2.1 dMg_mergeUpToAnchors_57 rfl (lv_at hl 2 rfl) ?_
              refine lv_aload_n S0.1 S0.2.1 dMg_mergeUpToAnchors_58 rfl (lv_at hl 0 rfl) ?_
              refine hw_get S0 hK hg e0 rfl inMg 4 (by decide) lf_Mg_32 rfl rfl dMg_mergeUpToAnchors_59 ?_
              refine hw_get S0 hK hg q4_c2 rfl inCo 2 (by decide) lf_Mg_68 rfl rfl dMg_mergeUpToAnchors_62 ?_
              refine lv_icmp_ge (tgt := 124) S0.1 S0.2.1 dMg_mergeUpToAnchors_65 (by decide) (fun c_65 => ?_) (fun c_65 => ?_)
              · skip
                have c_65 : P2.length ≤ ry := (nI_leI (by omega) (by omega)).mp c_65
                have hnx : mg bs lf rt (pl + 1) = mg bs lf rt pl := mg_skipR (anchor_none hplt (fun k p hk hp => hry k p hk (by rw [hP2]; exact hp)) (fun p hp => by rw [← hP2] at hp; have := (List.getElem?_eq_some_iff.mp hp).1; omega))
                refine lv_iinc (v := nI (lx + 1)) (lv' := [(3, .int (nI (lx + 1))), (0, .ref mo), (1, .ref rB), (2, .int (nI ry)), (4, .int (nI pl))]) S0.1 S0.2.1 dMg_mergeUpToAnchors_124 hl (k := 3) rfl (by exact nI_add _ 1) (by decide) rfl (fun ls hl => ?_)
                refine lv_goto (tgt := 4) S0.1 S0.2.1 dMg_mergeUpToAnchors_127 (by decide) ?_
                exact ih_4 (lx + 1) ry (pl + 1) x1 x2 x3 fcx fox gl _ _ _ (by omega) (by omega) (by omega) (by rw [prs_some hpn1, take_snoc hg1, hpl]) (by omega) (fun k p hk hp l2 q hl2 hq => Nat.lt_trans (hry k p hk hp) (prs_lt (show lx < l2 by omega) (by rw [← hP1]; exact hg1) (by rw [← hP1]; exact hq))) fr (by rw [hnx]; exact e0) e1_ (by rw [hnx]; exact e2_) e3_ (by rw [hnx]; exact e4_) (by rw [hnx]; exact e5_) (by rw [hnx]; exact e6_) (by rw [hnx]; exact eo) (by rw [hnx]; exact ec) hg hS (lv_sub hl [1, 2, 3, 0] rfl)
              · skip
                have c_65 : ¬ (P2.length ≤ ry) := fun h => c_65 ((nI_leI (by omega) (by omega)).mpr h)
                omega
            · skip
              have c_34 : ¬ (P2.length ≤ ry) := fun h => c_34 ((nI_leI (by omega) (by omega)).mpr h)
              obtain ⟨pr, rj, hg2, hpr, hpn2, hprt⟩ := prs_take (a := bs) (b := rt) (n := bs.length) (k := ry) (by rw [← hP2]; omega)
              rw [← hP2] at hg2 hpr
              have eRA : fa2 ry = nI pr := rpN_at ra2 hg2
              have eRB : fb2 ry = nI rj := rpN_at rb2 hg2
              refine lv_aload_n S0.1 S0.2.1 dMg_mergeUpToAnchors_37 rfl (lv_at hl 0 rfl) ?_
              refine hw_get S0 hK hg e0 rfl inMg 4 (by decide) lf_Mg_32 rfl rfl dMg_mergeUpToAnchors_38 ?_
              refine hw_get S0 hK hg q4_c2 rfl inCo 0 (by decide) lf_Mg_69 rfl rfl dMg_mergeUpToAnchors_41 ?_
              refine lv_iload_n S0.1 S0.2.1 dMg_mergeUpToAnchors_44 rfl (lv_at hl 2 rfl) ?_
              refine hw_iald S0 hK hg q4_a2 0 rfl (by omega) (by omega) dMg_mergeUpToAnchors_45 ?_
              refine hw_top (nI pr) eRA ?_
              refine lv_iload S0.1 S0.2.1 dMg_mergeUpToAnchors_46 (lv_at hl 4 rfl) ?_
              refine lv_icmp_ge (tgt := 57) S0.1 S0.2.1 dMg_mergeUpToAnchors_48 (by decide) (fun c_48 => ?_) (fun c_48 => ?_)
              · skip
                have c_48 : pl ≤ pr := (nI_leI (by omega) (by omega)).mp c_48
                refine lv_iload_n S0.1 S0.2.1 dMg_mergeUpToAnchors_57 rfl (lv_at hl 2 rfl) ?_
                refine lv_aload_n S0.1 S0.2.1 dMg_mergeUpToAnchors_58 rfl (lv_at hl 0 rfl) ?_
                refine hw_get S0 hK hg e0 rfl inMg 4 (by decide) lf_Mg_32 rfl rfl dMg_mergeUpToAnchors_59 ?_
                refine hw_get S0 hK hg q4_c2 rfl inCo 2 (by decide) lf_Mg_68 rfl rfl dMg_mergeUpToAnchors_62 ?_
                refine lv_icmp_ge (tgt := 124) S0.1 S0.2.1 dMg_mergeUpToAnchors_65 (by decide) (fun c_65 => ?_) (fun c_65 => ?_)
                · skip
                  have c_65 : P2.length ≤ ry := (nI_leI (by omega) (by omega)).mp c_65
                  omega
                · skip
                  have c_65 : ¬ (P2.length ≤ ry) := fun h => c_65 ((nI_leI (by omega) (by omega)).mpr h)
                  refine lv_aload_n S0.1 S0.2.1 dMg_mergeUpToAnchors_68 rfl (lv_at hl 0 rfl) ?_
                  refine hw_get S0 hK hg e0 rfl inMg 4 (by decide) lf_Mg_32 rfl rfl dMg_mergeUpToAnchors_69 ?_
                  refine hw_get S0 hK hg q4_c2 rfl inCo 0 (by decide) lf_Mg_69 rfl rfl dMg_mergeUpToAnchors_72 ?_
                  refine lv_iload_n S0.1 S0.2.1 dMg_mergeUpToAnchors_75 rfl (lv_at hl 2 rfl) ?_
                  refine hw_iald S0 hK hg q4_a2 0 rfl (by omega) (by omega) dMg_mergeUpToAnchors_76 ?_
                  refine hw_top (nI pr) eRA ?_
                  refine lv_iload S0.1 S0.2.1 dMg_mergeUpToAnchors_77 (lv_at hl 4 rfl) ?_
                  refine lv_icmp_ne (tgt := 124) S0.1 S0.2.1 dMg_mergeUpToAnchors_79 (by decide) (fun c_79 => ?_) (fun c_79 => ?_)
                  · skip
                    have c_79 : ¬ (pr = pl) := fun h => c_79 ((nI_eq (by omega) (by omega)).mpr h)
                    have hnx : mg bs lf rt (pl + 1) = mg bs lf rt pl := mg_skipR (anchor_none hplt (fun k p hk hp => hry k p hk (by rw [hP2]; exact hp)) (fun p hp => by rw [← hP2] at hp; cases Option.some.inj (hg2.symm.trans hp); show pl < pr; omega))
                    refine lv_iinc (v := nI (lx + 1)) (lv' := [(3, .int (nI (lx + 1))), (0, .ref mo), (1, .ref rB), (2, .int (nI ry)), (4, .int (nI pl))]) S0.1 S0.2.1 dMg_mergeUpToAnchors_124 hl (k := 3) rfl (by exact nI_add _ 1) (by decide) rfl (fun ls hl => ?_)
                    refine lv_goto (tgt := 4) S0.1 S0.2.1 dMg_mergeUpToAnchors_127 (by decide) ?_
                    exact ih_4 (lx + 1) ry (pl + 1) x1 x2 x3 fcx fox gl _ _ _ (by omega) (by omega) (by omega) (by rw [prs_some hpn1, take_snoc hg1, hpl]) (by omega) (fun k p hk hp l2 q hl2 hq => Nat.lt_trans (hry k p hk hp) (prs_lt (show lx < l2 by omega) (by rw [← hP1]; exact hg1) (by rw [← hP1]; exact hq))) fr (by rw [hnx]; exact e0) e1_ (by rw [hnx]; exact e2_) e3_ (by rw [hnx]; exact e4_) (by rw [hnx]; exact e5_) (by rw [hnx]; exact e6_) (by rw [hnx]; exact eo) (by rw [hnx]; exact ec) hg hS (lv_sub hl [1, 2, 3, 0] rfl)
                  · skip
                    have c_79 : pr = pl := (nI_eq (by omega) (by omega)).mp c_79
                    have hpn2 : pn bs rt pl = some rj := by rw [← c_79]; exact hpn2
                    have hs2 := stp_spec (show stp bs rt (fro bs rt pl) pl = some rj from hpn2)
                    have hnx := mg_anchor hpn1 hpn2
                    have hjl := joinP_len (bs := bs) (lf := lf) (rt := rt) (a := (mg bs lf rt pl).1) (i := pl) (la := (mg bs lf rt pl).2.1) (lj := lj) (ra := (mg bs lf rt pl).2.2.1) (rj := rj) (mg bs lf rt pl).2.2.2 (by omega) (by omega)
                    refine lv_aload_n S0.1 S0.2.1 dMg_mergeUpToAnchors_82 rfl (lv_at hl 0 rfl) ?_
                    refine lv_iload S0.1 S0.2.1 dMg_mergeUpToAnchors_83 (lv_at hl 4 rfl) ?_
                    refine lv_aload_n S0.1 S0.2.1 dMg_mergeUpToAnchors_85 rfl (lv_at hl 0 rfl) ?_
                    refine hw_get S0 hK hg e0 rfl inMg 3 (by decide) lf_Mg_28 rfl rfl dMg_mergeUpToAnchors_86 ?_
                    refine hw_get S0 hK hg q4_c1 rfl inCo 1 (by decide) lf_Mg_72 rfl rfl dMg_mergeUpToAnchors_89 ?_
                    refine lv_iload_n S0.1 S0.2.1 dMg_mergeUpToAnchors_92 rfl (lv_at hl 3 rfl) ?_
                    refine hw_iald S0 hK hg q4_b1 0 rfl (by omega) (by omega) dMg_mergeUpToAnchors_93 ?_
                    refine hw_top (nI lj) eLB ?_
                    refine lv_aload_n S0.1 S0.2.1 dMg_mergeUpToAnchors_94 rfl (lv_at hl 0 rfl) ?_
                    refine hw_get S0 hK hg e0 rfl inMg 4 (by decide) lf_Mg_32 rfl rfl dMg_mergeUpToAnchors_95 ?_
                    refine hw_get S0 hK hg q4_c2 rfl inCo 1 (by decide) lf_Mg_72 rfl rfl dMg_mergeUpToAnchors_98 ?_
                    refine lv_iload_n S0.1 S0.2.1 dMg_mergeUpToAnchors_101 rfl (lv_at hl 2 rfl) ?_
                    refine hw_iald S0 hK hg q4_b2 0 rfl (by omega) (by omega) dMg_mergeUpToAnchors_102 ?_
                    refine hw_top (nI rj) eRB ?_
                    refine hw_Vv (As := [.int (nI pl), .int (nI lj), .int (nI rj)]) (rest := []) S0 hK hg hS hA0 e0 rfl (c_Mg_mergeParts l D cI cR cJ gl _ mo oc cc c1 c2 p1 p2 p3 lo rB lB cB rL lL cL rR lR cR_ bs lf rt fB fL fR fcx fox q4_rB q4_lB eB hcB hdB q4_rL q4_lL eL hcL hdL q4_rR q4_lR eR hcR hdR n_rB_oc n_rL_oc n_rR_oc n_lB_cc n_lB_lo n_lL_cc n_lL_lo n_lR_cc n_lR_lo n_lo_cc n_p1_p2 n_p1_p3 n_p2_p3 (mg bs lf rt pl).1 pl (mg bs lf rt pl).2.1 lj (mg bs lf rt pl).2.2.1 rj x1 x2 x3 (mg bs lf rt pl).2.2.2 e0 e1_ e2_ e3_ e4_ e5_ e6_ eo ec (by omega) (by omega) (by omega) (by omega) (by omega) (by omega) (by omega) (by omega)) kMg_mergeParts lm_Mg_64 (hR.call rfl) rfl hl.1 rfl (Nat.le_of_ble_eq_true rfl) dMg_mergeUpToAnchors_103 (hR.new (by decide) (by decide)) (fun g_1 H locs hp_103 hg hS => ?_)
                    obtain ⟨frm, fc1, fo1, m0, m1, m2, m3, m4, m5, m6, m7, m8⟩ := hp_103
                    generalize hJ : joinP bs lf rt (mg bs lf rt pl).1 pl (mg bs lf rt pl).2.1 lj (mg bs lf rt pl).2.2.1 rj (mg bs lf rt pl).2.2.2 = J at m0 m2 m7 m8 hnx hjl
                    have k1_0 := frm.at (h_nm (h_ne q4_rB e0 (fun h => by simp at h)) (h_nm (h_ne q4_rB e1_ (fun h => by cases h)) (h_nm n_rB_oc (h_nm (h_ne q4_rB e3_ (fun h => by cases h)) (h_nm (h_ne q4_rB e4_ (fun h => by simp at h)) (h_nm (h_ne q4_rB e5_ (fun h => by simp at h)) (h_nm (h_ne q4_rB e6_ (fun h => by simp at h)) h_n0))))))) q4_rB
                    have k1_1 := frm.at (h_nm (h_ne q4_lB e0 (fun h => by cases h)) (h_nm n_lB_cc (h_nm (h_ne q4_lB e2_ (fun h => by cases h)) (h_nm n_lB_lo (h_nm (h_ne q4_lB e4_ (fun h => by cases h)) (h_nm (h_ne q4_lB e5_ (fun h => by cases h)) (h_nm (h_ne q4_lB e6_ (fun h => by cases h)) h_n0))))))) q4_lB
                    have k1_2 := frm.at (h_nm (h_ne q4_rL e0 (fun h => by simp at h)) (h_nm (h_ne q4_rL e1_ (fun h => by cases h)) (h_nm n_rL_oc (h_nm (h_ne q4_rL e3_ (fun h => by cases h)) (h_nm (h_ne q4_rL e4_ (fun h => by simp at h)) (h_nm (h_ne q4_rL e5_ (fun h => by simp at h)) (h_nm (h_ne q4_rL e6_ (fun h => by simp at h)) h_n0))))))) q4_rL
                    have k1_3 := frm.at (h_nm (h_ne q4_lL e0 (fun h => by cases h)) (h_nm n_lL_cc (h_nm (h_ne q4_lL e2_ (fun h => by cases h)) (h_nm n_lL_lo (h_nm (h_ne q4_lL e4_ (fun h => by cases h)) (h_nm (h_ne q4_lL e5_ (fun h => by cases h)) (h_nm (h_ne q4_lL e6_ (fun h => by cases h)) h_n0))))))) q4_lL
                    have k1_4 := frm.at (h_nm (h_ne q4_rR e0 (fun h => by simp at h)) (h_nm (h_ne q4_rR e1_ (fun h => by cases h)) (h_nm n_rR_oc (h_nm (h_ne q4_rR e3_ (fun h => by cases h)) (h_nm (h_ne q4_rR e4_ (fun h => by simp at h)) (h_nm (h_ne q4_rR e5_ (fun h => by simp at h)) (h_nm (h_ne q4_rR e6_ (fun h => by simp at h)) h_n0))))))) q4_rR
                    have k1_5 := frm.at (h_nm (h_ne q4_lR e0 (fun h => by cases h)) (h_nm n_lR_cc (h_nm (h_ne q4_lR e2_ (fun h => by cases h)) (h_nm n_lR_lo (h_nm (h_ne q4_lR e4_ (fun h => by cases h)) (h_nm (h_ne q4_lR e5_ (fun h => by cases h)) (h_nm (h_ne q4_lR e6_ (fun h => by cases h)) h_n0))))))) q4_lR
                    have k1_6 := frm.at (h_nm (h_ne q4_c1 e0 (fun h => by simp at h)) (h_nm (h_ne q4_c1 e1_ (fun h => by cases h)) (h_nm (h_ne q4_c1 e2_ (fun h => by simp at h)) (h_nm (h_ne q4_c1 e3_ (fun h => by cases h)) (h_nm (h_ne q4_c1 e4_ (fun h => by simp at h)) (h_nm (h_ne q4_c1 e5_ (fun h => by simp at h)) (h_nm (h_ne q4_c1 e6_ (fun h => by simp at h)) h_n0))))))) q4_c1
                    have k1_7 := frm.at (h_nm (h_ne q4_a1 e0 (fun h => by cases h)) (h_nm n_a1_cc (h_nm (h_ne q4_a1 e2_ (fun h => by cases h)) (h_nm n_a1_lo (h_nm (h_ne q4_a1 e4_ (fun h => by cases h)) (h_nm (h_ne q4_a1 e5_ (fun h => by cases h)) (h_nm (h_ne q4_a1 e6_ (fun h => by cases h)) h_n0))))))) q4_a1
                    have k1_8 := frm.at (h_nm (h_ne q4_b1 e0 (fun h => by cases h)) (h_nm n_b1_cc (h_nm (h_ne q4_b1 e2_ (fun h => by cases h)) (h_nm n_b1_lo (h_nm (h_ne q4_b1 e4_ (fun h => by cases h)) (h_nm (h_ne q4_b1 e5_ (fun h => by cases h)) (h_nm (h_ne q4_b1 e6_ (fun h => by cases h)) h_n0))))))) q4_b1
                    have k1_9 := frm.at (h_nm (h_ne q4_c2 e0 (fun h => by simp at h)) (h_nm (h_ne q4_c2 e1_ (fun h => by cases h)) (h_nm (h_ne q4_c2 e2_ (fun h => by simp at h)) (h_nm (h_ne q4_c2 e3_ (fun h => by cases h)) (h_nm (h_ne q4_c2 e4_ (fun h => by simp at h)) (h_nm (h_ne q4_c2 e5_ (fun h => by simp at h)) (h_nm (h_ne q4_c2 e6_ (fun h => by simp at h)) h_n0))))))) q4_c2
                    have k1_10 := frm.at (h_nm (h_ne q4_a2 e0 (fun h => by cases h)) (h_nm n_a2_cc (h_nm (h_ne q4_a2 e2_ (fun h => by cases h)) (h_nm n_a2_lo (h_nm (h_ne q4_a2 e4_ (fun h => by cases h)) (h_nm (h_ne q4_a2 e5_ (fun h => by cases h)) (h_nm (h_ne q4_a2 e6_ (fun h => by cases h)) h_n0))))))) q4_a2
                    have k1_11 := frm.at (h_nm (h_ne q4_b2 e0 (fun h => by cases h)) (h_nm n_b2_cc (h_nm (h_ne q4_b2 e2_ (fun h => by cases h)) (h_nm n_b2_lo (h_nm (h_ne q4_b2 e4_ (fun h => by cases h)) (h_nm (h_ne q4_b2 e5_ (fun h => by cases h)) (h_nm (h_ne q4_b2 e6_ (fun h => by cases h)) h_n0))))))) q4_b2
                    have fr := fr.call frm (by simp)
                    refine lv_aload_n S0.1 S0.2.1 dMg_mergeUpToAnchors_106 rfl (lv_at hl 0 rfl) ?_
                    refine hw_get S0 hK hg m0 rfl inMg 0 (by decide) lf_Mg_14 rfl rfl dMg_mergeUpToAnchors_107 ?_
                    refine lv_aload_n S0.1 S0.2.1 dMg_mergeUpToAnchors_110 rfl (lv_at hl 1 rfl) ?_
                    refine hw_get S0 hK hg k1_0 rfl inRo 0 (by decide) lf_Mg_75 rfl rfl dMg_mergeUpToAnchors_111 ?_
                    refine lv_iload S0.1 S0.2.1 dMg_mergeUpToAnchors_114 (lv_at hl 4 rfl) ?_
                    refine hw_iald S0 hK hg k1_1 0 rfl (by omega) (by omega) dMg_mergeUpToAnchors_116 ?_
                    refine hw_Vv (As := [.int (fB pl)]) (rest := []) S0 hK hg hS hA0 m2 rfl (c_Ro_add l D cI cR cJ g_1 _ oc lo J.1.length 120 fo1 (fB pl) m2 m3 (by omega) (by omega)) kRo_add lm_Mg_78 (hR.call rfl) rfl hl.1 rfl (Nat.le_of_ble_eq_true rfl) dMg_mergeUpToAnchors_117 (hR.new (by decide) (by decide)) (fun g_2 H locs hp_117 hg hS => ?_)
                    obtain ⟨fra, k0, k1⟩ := hp_117
                    have k2_0 := fra.at (h_nm n_rB_oc (h_nm (h_ne k1_0 m3 (fun h => by cases h)) h_n0)) k1_0
                    have k2_1 := fra.at (h_nm (h_ne k1_1 m2 (fun h => by cases h)) (h_nm n_lB_lo h_n0)) k1_1
                    have k2_2 := fra.at (h_nm n_rL_oc (h_nm (h_ne k1_2 m3 (fun h => by cases h)) h_n0)) k1_2
                    have k2_3 := fra.at (h_nm (h_ne k1_3 m2 (fun h => by cases h)) (h_nm n_lL_lo h_n0)) k1_3
                    have k2_4 := fra.at (h_nm n_rR_oc (h_nm (h_ne k1_4 m3 (fun h => by cases h)) h_n0)) k1_4
                    have k2_5 := fra.at (h_nm (h_ne k1_5 m2 (fun h => by cases h)) (h_nm n_lR_lo h_n0)) k1_5
                    have k2_6 := fra.at (h_nm (h_ne k1_6 m2 (fun h => by simp at h)) (h_nm (h_ne k1_6 m3 (fun h => by cases h)) h_n0)) k1_6
                    have k2_7 := fra.at (h_nm (h_ne k1_7 m2 (fun h => by cases h)) (h_nm n_a1_lo h_n0)) k1_7
                    have k2_8 := fra.at (h_nm (h_ne k1_8 m2 (fun h => by cases h)) (h_nm n_b1_lo h_n0)) k1_8
                    have k2_9 := fra.at (h_nm (h_ne k1_9 m2 (fun h => by simp at h)) (h_nm (h_ne k1_9 m3 (fun h => by cases h)) h_n0)) k1_9
                    have k2_10 := fra.at (h_nm (h_ne k1_10 m2 (fun h => by cases h)) (h_nm n_a2_lo h_n0)) k1_10
                    have k2_11 := fra.at (h_nm (h_ne k1_11 m2 (fun h => by cases h)) (h_nm n_b2_lo h_n0)) k1_11
                    have k2_12 := fra.at (h_nm (h_ne m0 m2 (fun h => by simp at h)) (h_nm (h_ne m0 m3 (fun h => by cases h)) h_n0)) m0
                    have k2_13 := fra.at (h_nm (h_ne m1 m2 (fun h => by cases h)) (h_nm (Ne.symm n_lo_cc) h_n0)) m1
                    have k2_14 := fra.at (h_nm (h_ne m4 m2 (fun h => by simp at h)) (h_nm (h_ne m4 m3 (fun h => by cases h)) h_n0)) m4
                    have k2_15 := fra.at (h_nm (h_ne m5 m2 (fun h => by simp at h)) (h_nm (h_ne m5 m3 (fun h => by cases h)) h_n0)) m5
                    have k2_16 := fra.at (h_nm (h_ne m6 m2 (fun h => by simp at h)) (h_nm (h_ne m6 m3 (fun h => by cases h)) h_n0)) m6
                    have fr := fr.call fra (by simp)
                    refine lv_aload_n S0.1 S0.2.1 dMg_mergeUpToAnchors_120 rfl (lv_at hl 0 rfl) ?_
                    refine hw_Vv (As := []) (rest := []) S0 hK hg hS hA0 k2_12 rfl (c_Mg_stepPartsOverAnchor l D cI cR cJ g_2 _ mo oc cc c1 c2 p1 p2 p3 rB rL rR pl lj rj (nI J.2.length) _ _ _ k2_12 k2_14 k2_15 k2_16 n_p1_p2 n_p1_p3 n_p2_p3) kMg_stepPartsOverAnchor lm_Mg_81 (hR.call rfl) rfl hl.1 rfl (Nat.le_of_ble_eq_true rfl) dMg_mergeUpToAnchors_121 (hR.new (by decide) (by decide)) (fun g_3 H locs hp_121 hg hS => ?_)
                    obtain ⟨frs, s1_, s2_, s3_⟩ := hp_121
                    have k3_0 := frs.at (h_nm (h_ne k2_0 k2_14 (fun h => by simp at h)) (h_nm (h_ne k2_0 k2_15 (fun h => by simp at h)) (h_nm (h_ne k2_0 k2_16 (fun h => by simp at h)) h_n0))) k2_0
                    have k3_1 := frs.at (h_nm (h_ne k2_1 k2_14 (fun h => by cases h)) (h_nm (h_ne k2_1 k2_15 (fun h => by cases h)) (h_nm (h_ne k2_1 k2_16 (fun h => by cases h)) h_n0))) k2_1
                    have k3_2 := frs.at (h_nm (h_ne k2_2 k2_14 (fun h => by simp at h)) (h_nm (h_ne k2_2 k2_15 (fun h => by simp at h)) (h_nm (h_ne k2_2 k2_16 (fun h => by simp at h)) h_n0))) k2_2
                    have k3_3 := frs.at (h_nm (h_ne k2_3 k2_14 (fun h => by cases h)) (h_nm (h_ne k2_3 k2_15 (fun h => by cases h)) (h_nm (h_ne k2_3 k2_16 (fun h => by cases h)) h_n0))) k2_3
                    have k3_4 := frs.at (h_nm (h_ne k2_4 k2_14 (fun h => by simp at h)) (h_nm (h_ne k2_4 k2_15 (fun h => by simp at h)) (h_nm (h_ne k2_4 k2_16 (fun h => by simp at h)) h_n0))) k2_4
                    have k3_5 := frs.at (h_nm (h_ne k2_5 k2_14 (fun h => by cases h)) (h_nm (h_ne k2_5 k2_15 (fun h => by cases h)) (h_nm (h_ne k2_5 k2_16 (fun h => by cases h)) h_n0))) k2_5
                    have k3_6 := frs.at (h_nm (h_ne k2_6 k2_14 (fun h => by simp at h)) (h_nm (h_ne k2_6 k2_15 (fun h => by simp at h)) (h_nm (h_ne k2_6 k2_16 (fun h => by simp at h)) h_n0))) k2_6
                    have k3_7 := frs.at (h_nm (h_ne k2_7 k2_14 (fun h => by cases h)) (h_nm (h_ne k2_7 k2_15 (fun h => by cases h)) (h_nm (h_ne k2_7 k2_16 (fun h => by cases h)) h_n0))) k2_7
                    have k3_8 := frs.at (h_nm (h_ne k2_8 k2_14 (fun h => by cases h)) (h_nm (h_ne k2_8 k2_15 (fun h => by cases h)) (h_nm (h_ne k2_8 k2_16 (fun h => by cases h)) h_n0))) k2_8
                    have k3_9 := frs.at (h_nm (h_ne k2_9 k2_14 (fun h => by simp at h)) (h_nm (h_ne k2_9 k2_15 (fun h => by simp at h)) (h_nm (h_ne k2_9 k2_16 (fun h => by simp at h)) h_n0))) k2_9
                    have k3_10 := frs.at (h_nm (h_ne k2_10 k2_14 (fun h => by cases h)) (h_nm (h_ne k2_10 k2_15 (fun h => by cases h)) (h_nm (h_ne k2_10 k2_16 (fun h => by cases h)) h_n0))) k2_10
                    have k3_11 := frs.at (h_nm (h_ne k2_11 k2_14 (fun h => by cases h)) (h_nm (h_ne k2_11 k2_15 (fun h => by cases h)) (h_nm (h_ne k2_11 k2_16 (fun h => by cases h)) h_n0))) k2_11
                    have k3_12 := frs.at (h_nm (h_ne k2_12 k2_14 (fun h => by simp at h)) (h_nm (h_ne k2_12 k2_15 (fun h => by simp at h)) (h_nm (h_ne k2_12 k2_16 (fun h => by simp at h)) h_n0))) k2_12
                    have k3_13 := frs.at (h_nm (h_ne k2_13 k2_14 (fun h => by cases h)) (h_nm (h_ne k2_13 k2_15 (fun h => by cases h)) (h_nm (h_ne k2_13 k2_16 (fun h => by cases h)) h_n0))) k2_13
                    have k3_14 := frs.at (h_nm (h_ne k0 k2_14 (fun h => by simp at h)) (h_nm (h_ne k0 k2_15 (fun h => by simp at h)) (h_nm (h_ne k0 k2_16 (fun h => by simp at h)) h_n0))) k0
                    have k3_15 := frs.at (h_nm (h_ne k1 k2_14 (fun h => by cases h)) (h_nm (h_ne k1 k2_15 (fun h => by cases h)) (h_nm (h_ne k1 k2_16 (fun h => by cases h)) h_n0))) k1
                    have fr := fr.call frs (by simp)
                    have eo2 : rp (upd fo1 J.1.length (fB pl)) (J.1 ++ [bs.getD pl 0]) := by have := rp_snoc m7 (fB pl); rw [eB pl (by omega)] at this ⊢; exact this
                    have ec2 := m8
                    have k0_ : g_3 oc = some (.inr (5, [.ref lo, .int (nI (J.1 ++ [bs.getD pl 0]).length)])) := by rw [List.length_append]; exact k3_14
                    refine lv_iinc (v := nI (lx + 1)) (lv' := [(3, .int (nI (lx + 1))), (0, .ref mo), (1, .ref rB), (2, .int (nI ry)), (4, .int (nI pl))]) S0.1 S0.2.1 dMg_mergeUpToAnchors_124 hl (k := 3) rfl (by exact nI_add _ 1) (by decide) rfl (fun ls hl => ?_)
                    refine lv_goto (tgt := 4) S0.1 S0.2.1 dMg_mergeUpToAnchors_127 (by decide) ?_
                    exact ih_4 (lx + 1) ry (pl + 1) _ _ _ _ _ g_3 _ _ _ (by omega) (by omega) (by omega) (by rw [prs_some hpn1, take_snoc hg1, hpl]) (by omega) (fun k p hk hp l2 q hl2 hq => Nat.lt_trans (hry k p hk hp) (prs_lt (show lx < l2 by omega) (by rw [← hP1]; exact hg1) (by rw [← hP1]; exact hq))) fr (by rw [hnx]; exact k3_12) k3_13 (by rw [hnx]; exact k0_) k3_15 (by rw [hnx]; exact s1_) (by rw [hnx]; exact s2_) (by rw [hnx]; exact s3_) (by rw [hnx]; exact eo2) (by rw [hnx]; exact ec2) hg hS (lv_sub hl [1, 2, 3, 0] rfl)
              · skip
                have c_48 : ¬ (pl ≤ pr) := fun h => c_48 ((nI_leI (by omega) (by omega)).mpr h)
                refine lv_iinc (v := nI (ry + 1)) (lv' := [(2, .int (nI (ry + 1))), (0, .ref mo), (1, .ref rB), (3, .int (nI lx)), (4, .int (nI pl))]) S0.1 S0.2.1 dMg_mergeUpToAnchors_51 hl (k := 2) rfl (by exact nI_add _ 1) (by decide) rfl (fun ls hl => ?_)
                refine lv_goto (tgt := 26) S0.1 S0.2.1 dMg_mergeUpToAnchors_54 (by decide) ?_
                exact ih_26 (ry + 1) _ _ _ (by omega) (by omega) (fun k p hk hp => by rcases Nat.lt_or_ge k ry with h9 | h9; exact hry k p h9 hp; rw [show k = ry by omega] at hp; cases Option.some.inj (hg2.symm.trans hp); show pr < pl; omega) hg hS (lv_sub hl [1, 2, 0, 3, 4] rfl)
        exact loop_26 _ rx _ _ _ (Nat.lt_succ_self _) hrx (fun k p hk hp => hlt k p hk hp lx _ (Nat.le_refl _) hg1) hg hS (lv_sub hl [1, 2, 3, 4, 0] rfl)
  exact loop_4 _ 0 0 0 e1 e2 e3 fc fo g _ _ _ (Nat.lt_succ_self _) (Nat.zero_le _) (Nat.zero_le _) rfl (Nat.zero_le _) (fun k p hk => absurd hk (Nat.not_lt_zero k)) fr h0 h1 h2 h3 hp1 hp2 hp3 (rp_nil _) (rpN_nil _) hg hS (lv_sub hl [2, 3, 1, 0] rfl)
