/-! MERGING, on -/
theorem pt_one {xs : List Int32} {i : Nat} (h : i < xs.length) : pt xs i (i + 1) = [xs.getD i 0] := by
  refine l_ext0 (by rw [pt_len (show i + 1 ≤ xs.length from h)]; show i + 1 - i = 1; omega) (fun q hq => ?_)
  rw [pt_len (show i + 1 ≤ xs.length from h)] at hq
  have e : q = 0 := by omega
  subst e
  rw [pt_get (show i + 1 ≤ xs.length from h) (by omega)]
  rfl
set_option maxRecDepth 100000 in
set_option maxHeartbeats 4000000 in
theorem c_Mg_mergeUpToAnchors (l : Launch) (D : va_G) (cI cR cJ : ClassId) (g : Nat → Option va_E) (sz : Nat) (mo oc cc c1 c2 p1 p2 p3 lo : Nat) (rB lB cB rL lL cL rR lR cR_ : Nat) (bs lf rt : List Int32) (fB fL fR : Nat → Int32) (fc fo : Nat → Int32) (hrB : g rB = some (.inr (5, [.ref lB, .int (nI bs.length)]))) (hlB : g lB = some (.inl (cI, cB, .inl fB))) (eB : rp fB bs) (hcB : bs.length ≤ cB) (hdB : cB < 4000) (hrL : g rL = some (.inr (5, [.ref lL, .int (nI lf.length)]))) (hlL : g lL = some (.inl (cI, cL, .inl fL))) (eL : rp fL lf) (hcL : lf.length ≤ cL) (hdL : cL < 4000) (hrR : g rR = some (.inr (5, [.ref lR, .int (nI rt.length)]))) (hlR : g lR = some (.inl (cI, cR_, .inl fR))) (eR : rp fR rt) (hcR : rt.length ≤ cR_) (hdR : cR_ < 4000) (n_rB_oc : rB ≠ oc) (n_rL_oc : rL ≠ oc) (n_rR_oc : rR ≠ oc) (n_lB_cc : lB ≠ cc) (n_lB_lo : lB ≠ lo) (n_lL_cc : lL ≠ cc) (n_lL_lo : lL ≠ lo) (n_lR_cc : lR ≠ cc) (n_lR_lo : lR ≠ lo) (n_lo_cc : lo ≠ cc) (n_p1_p2 : p1 ≠ p2) (n_p1_p3 : p1 ≠ p3) (n_p2_p3 : p2 ≠ p3) (a1 b1 a2 b2 len : Nat) (fa1 fb1 fa2 fb2 : Nat → Int32) (n_a1_cc : a1 ≠ cc) (n_a1_lo : a1 ≠ lo) (n_b1_cc : b1 ≠ cc) (n_b1_lo : b1 ≠ lo) (n_a2_cc : a2 ≠ cc) (n_a2_lo : a2 ≠ lo) (n_b2_cc : b2 ≠ cc) (n_b2_lo : b2 ≠ lo) (P1 P2 : List (Nat × Nat)) (hP1 : P1 = prs bs lf bs.length) (hP2 : P2 = prs bs rt bs.length) (hk1 : g c1 = some (.inr (0, [.ref a1, .ref b1, .int (nI P1.length), .ref len]))) (ha1 : g a1 = some (.inl (cI, 60, .inl fa1))) (hb1 : g b1 = some (.inl (cI, 60, .inl fb1))) (ra1 : rpN fa1 (P1.map Prod.fst)) (rb1 : rpN fb1 (P1.map Prod.snd)) (hk2 : g c2 = some (.inr (0, [.ref a2, .ref b2, .int (nI P2.length), .ref len]))) (ha2 : g a2 = some (.inl (cI, 60, .inl fa2))) (hb2 : g b2 = some (.inl (cI, 60, .inl fb2))) (ra2 : rpN fa2 (P2.map Prod.fst)) (rb2 : rpN fb2 (P2.map Prod.snd)) (hb60 : bs.length ≤ 60) (hl60 : lf.length ≤ 60) (hr60 : rt.length ≤ 60) (e1 e2 e3 : Int32) (h0 : g mo = some (.inr (2, [.ref oc, .ref cc, .int (nI 0), .ref c1, .ref c2, .ref p1, .ref p2, .ref p3]))) (h1 : g cc = some (.inl (cI, 183, .inl fc))) (h2 : g oc = some (.inr (5, [.ref lo, .int (nI 0)]))) (h3 : g lo = some (.inl (cI, 120, .inl fo))) (hp1 : g p1 = some (.inr (3, [.ref rB, .int (nI 0), .int e1]))) (hp2 : g p2 = some (.inr (3, [.ref rL, .int (nI 0), .int e2]))) (hp3 : g p3 = some (.inr (3, [.ref rR, .int (nI 0), .int e3]))) : hMv l yMg_mergeUpToAnchors cMg_mergeUpToAnchors 5 (hRm 4 89 0 0) D (hT cI cR cJ) g sz [.ref mo, .ref rB] (fun g1 => hfr g g1 [mo, cc, oc, lo, p1, p2, p3] ∧ ∃ (x1 x2 x3 : Int32) (fcx fox : Nat → Int32), g1 mo = some (.inr (2, [.ref oc, .ref cc, .int (nI (mg bs lf rt bs.length).2.2.2.2.length), .ref c1, .ref c2, .ref p1, .ref p2, .ref p3])) ∧ g1 cc = some (.inl (cI, 183, .inl fcx)) ∧ g1 oc = some (.inr (5, [.ref lo, .int (nI (mg bs lf rt bs.length).2.2.2.1.length)])) ∧ g1 lo = some (.inl (cI, 120, .inl fox)) ∧ g1 p1 = some (.inr (3, [.ref rB, .int (nI (mg bs lf rt bs.length).1), .int x1])) ∧ g1 p2 = some (.inr (3, [.ref rL, .int (nI (mg bs lf rt bs.length).2.1), .int x2])) ∧ g1 p3 = some (.inr (3, [.ref rR, .int (nI (mg bs lf rt bs.length).2.2.1), .int x3])) ∧ rp fox (mg bs lf rt bs.length).2.2.2.1 ∧ rpN fcx (fl3 (mg bs lf rt bs.length).2.2.2.2)) := by
  refine hMv_of (by decide +kernel) (Nat.le_of_ble_eq_true rfl) ?_
  intro pX eX RX sX mX argsX belowX methX cX QX AX hR S0 hnm hsz hg hK hS hA0 hend ls hl
  have hl : lv_has ls 5 [(0, .ref mo), (1, .ref rB)] := hl
  have fr : hfr g g [mo, cc, oc, lo, p1, p2, p3] := hfr.rf
  have hL1 : P1.length ≤ bs.length := by rw [hP1]; exact (prs_len bs lf bs.length).1
  have hL2 : P2.length ≤ bs.length := by rw [hP2]; exact (prs_len bs rt bs.length).1
  refine lv_iconst (v := nI 0) S0.1 S0.2.1 dMg_mergeUpToAnchors_0 (by decide) ?_
  refine lv_istore_n (lv' := [(2, .int (nI 0)), (0, .ref mo), (1, .ref rB)]) S0.1 S0.2.1 dMg_mergeUpToAnchors_1 rfl hl (by decide) rfl (fun ls hl => ?_)
  refine lv_iconst (v := nI 0) S0.1 S0.2.1 dMg_mergeUpToAnchors_2 (by decide) ?_
  refine lv_istore_n (lv' := [(3, .int (nI 0)), (2, .int (nI 0)), (0, .ref mo), (1, .ref rB)]) S0.1 S0.2.1 dMg_mergeUpToAnchors_3 rfl hl (by decide) rfl (fun ls hl => ?_)
  have loop_4 : ∀ (n_4 : Nat) (lx : Nat) (rx : Nat) (i : Nat) (x1 : Int32) (x2 : Int32) (x3 : Int32) (fcx : Nat → Int32) (fox : Nat → Int32) (gl : Nat → Option va_E) (H : Heap) (locs : List Loc) (ls : Array Slot), P1.length - lx < n_4 → (lx ≤ P1.length) → (i ≤ bs.length) → (prs bs lf i = P1.take lx) → (rx ≤ P2.length) → (∀ (k : Nat) (p : Nat × Nat), k < rx → P2[k]? = some p → ∀ (l2 : Nat) (q : Nat × Nat), lx ≤ l2 → P1[l2]? = some q → p.1 < q.1) → (hfr g gl [mo, cc, oc, lo, p1, p2, p3]) → (gl mo = some (.inr (2, [.ref oc, .ref cc, .int (nI (mg bs lf rt i).2.2.2.2.length), .ref c1, .ref c2, .ref p1, .ref p2, .ref p3]))) → (gl cc = some (.inl (cI, 183, .inl fcx))) → (gl oc = some (.inr (5, [.ref lo, .int (nI (mg bs lf rt i).2.2.2.1.length)]))) → (gl lo = some (.inl (cI, 120, .inl fox))) → (gl p1 = some (.inr (3, [.ref rB, .int (nI (mg bs lf rt i).1), .int x1]))) → (gl p2 = some (.inr (3, [.ref rL, .int (nI (mg bs lf rt i).2.1), .int x2]))) → (gl p3 = some (.inr (3, [.ref rR, .int (nI (mg bs lf rt i).2.2.1), .int x3]))) → (rp fox (mg bs lf rt i).2.2.2.1) → (rpN fcx (fl3 (mg bs lf rt i).2.2.2.2)) → hw D hC AX gl H → va_S AX sX.heap H locs → lv_has ls 5 [(0, .ref mo), (1, .ref rB), (2, .int (nI rx)), (3, .int (nI lx))] → W pX l eX RX sX mX argsX belowX methX cX H locs 0 0 QX (F0 mX 4 ls []) := by
    intro n_4
    induction n_4 with
    | zero => intros; omega
    | succ n_4 ih_4 =>
      intro lx rx i x1 x2 x3 fcx fox gl H locs ls hm_4 hlx hi hpi hrx hlt fr e0 e1_ e2_ e3_ e4_ e5_ e6_ eo ec hg hS hl
      have q4_rB := fr.at (h_nm (h_ne hrB h0 (fun h => by simp at h)) (h_nm (h_ne hrB h1 (fun h => by cases h)) (h_nm n_rB_oc (h_nm (h_ne hrB h3 (fun h => by cases h)) (h_nm (h_ne hrB hp1 (fun h => by simp at h)) (h_nm (h_ne hrB hp2 (fun h => by simp at h)) (h_nm (h_ne hrB hp3 (fun h => by simp at h)) h_n0))))))) hrB
      have q4_lB := fr.at (h_nm (h_ne hlB h0 (fun h => by cases h)) (h_nm n_lB_cc (h_nm (h_ne hlB h2 (fun h => by cases h)) (h_nm n_lB_lo (h_nm (h_ne hlB hp1 (fun h => by cases h)) (h_nm (h_ne hlB hp2 (fun h => by cases h)) (h_nm (h_ne hlB hp3 (fun h => by cases h)) h_n0))))))) hlB
      have q4_rL := fr.at (h_nm (h_ne hrL h0 (fun h => by simp at h)) (h_nm (h_ne hrL h1 (fun h => by cases h)) (h_nm n_rL_oc (h_nm (h_ne hrL h3 (fun h => by cases h)) (h_nm (h_ne hrL hp1 (fun h => by simp at h)) (h_nm (h_ne hrL hp2 (fun h => by simp at h)) (h_nm (h_ne hrL hp3 (fun h => by simp at h)) h_n0))))))) hrL
      have q4_lL := fr.at (h_nm (h_ne hlL h0 (fun h => by cases h)) (h_nm n_lL_cc (h_nm (h_ne hlL h2 (fun h => by cases h)) (h_nm n_lL_lo (h_nm (h_ne hlL hp1 (fun h => by cases h)) (h_nm (h_ne hlL hp2 (fun h => by cases h)) (h_nm (h_ne hlL hp3 (fun h => by cases h)) h_n0))))))) hlL
      have q4_rR := fr.at (h_nm (h_ne hrR h0 (fun h => by simp at h)) (h_nm (h_ne hrR h1 (fun h => by cases h)) (h_nm n_rR_oc (h_nm (h_ne hrR h3 (fun h => by cases h)) (h_nm (h_ne hrR hp1 (fun h => by simp at h)) (h_nm (h_ne hrR hp2 (fun h => by simp at h)) (h_nm (h_ne hrR hp3 (fun h => by simp at h)) h_n0))))))) hrR
      have q4_lR := fr.at (h_nm (h_ne hlR h0 (fun h => by cases h)) (h_nm n_lR_cc (h_nm (h_ne hlR h2 (fun h => by cases h)) (h_nm n_lR_lo (h_nm (h_ne hlR hp1 (fun h => by cases h)) (h_nm (h_ne hlR hp2 (fun h => by cases h)) (h_nm (h_ne hlR hp3 (fun h => by cases h)) h_n0))))))) hlR
      have q4_c1 := fr.at (h_nm (h_ne hk1 h0 (fun h => by simp at h)) (h_nm (h_ne hk1 h1 (fun h => by cases h)) (h_nm (h_ne hk1 h2 (fun h => by simp at h)) (h_nm (h_ne hk1 h3 (fun h => by cases h)) (h_nm (h_ne hk1 hp1 (fun h => by simp at h)) (h_nm (h_ne hk1 hp2 (fun h => by simp at h)) (h_nm (h_ne hk1 hp3 (fun h => by simp at h)) h_n0))))))) hk1
      have q4_a1 := fr.at (h_nm (h_ne ha1 h0 (fun h => by cases h)) (h_nm n_a1_cc (h_nm (h_ne ha1 h2 (fun h => by cases h)) (h_nm n_a1_lo (h_nm (h_ne ha1 hp1 (fun h => by cases h)) (h_nm (h_ne ha1 hp2 (fun h => by cases h)) (h_nm (h_ne ha1 hp3 (fun h => by cases h)) h_n0))))))) ha1
      have q4_b1 := fr.at (h_nm (h_ne hb1 h0 (fun h => by cases h)) (h_nm n_b1_cc (h_nm (h_ne hb1 h2 (fun h => by cases h)) (h_nm n_b1_lo (h_nm (h_ne hb1 hp1 (fun h => by cases h)) (h_nm (h_ne hb1 hp2 (fun h => by cases h)) (h_nm (h_ne hb1 hp3 (fun h => by cases h)) h_n0))))))) hb1
      have q4_c2 := fr.at (h_nm (h_ne hk2 h0 (fun h => by simp at h)) (h_nm (h_ne hk2 h1 (fun h => by cases h)) (h_nm (h_ne hk2 h2 (fun h => by simp at h)) (h_nm (h_ne hk2 h3 (fun h => by cases h)) (h_nm (h_ne hk2 hp1 (fun h => by simp at h)) (h_nm (h_ne hk2 hp2 (fun h => by simp at h)) (h_nm (h_ne hk2 hp3 (fun h => by simp at h)) h_n0))))))) hk2
      have q4_a2 := fr.at (h_nm (h_ne ha2 h0 (fun h => by cases h)) (h_nm n_a2_cc (h_nm (h_ne ha2 h2 (fun h => by cases h)) (h_nm n_a2_lo (h_nm (h_ne ha2 hp1 (fun h => by cases h)) (h_nm (h_ne ha2 hp2 (fun h => by cases h)) (h_nm (h_ne ha2 hp3 (fun h => by cases h)) h_n0))))))) ha2
      have q4_b2 := fr.at (h_nm (h_ne hb2 h0 (fun h => by cases h)) (h_nm n_b2_cc (h_nm (h_ne hb2 h2 (fun h => by cases h)) (h_nm n_b2_lo (h_nm (h_ne hb2 hp1 (fun h => by cases h)) (h_nm (h_ne hb2 hp2 (fun h => by cases h)) (h_nm (h_ne hb2 hp3 (fun h => by cases h)) h_n0))))))) hb2
      refine lv_iload_n S0.1 S0.2.1 dMg_mergeUpToAnchors_4 rfl (lv_at hl 3 rfl) ?_
      refine lv_aload_n S0.1 S0.2.1 dMg_mergeUpToAnchors_5 rfl (lv_at hl 0 rfl) ?_
      refine hw_get S0 hK hg e0 rfl inMg 3 (by decide) lf_Mg_28 rfl rfl dMg_mergeUpToAnchors_6 ?_
      refine hw_get S0 hK hg q4_c1 rfl inCo 2 (by decide) lf_Mg_68 rfl rfl dMg_mergeUpToAnchors_9 ?_
      refine lv_icmp_ge (tgt := 130) S0.1 S0.2.1 dMg_mergeUpToAnchors_12 (by decide) (fun c_12 => ?_) (fun c_12 => ?_)
      · skip
        have c_12 : P1.length ≤ lx := (nI_leI (by omega) (by omega)).mp c_12
        have elx : lx = P1.length := by omega
        have hmi : mg bs lf rt i = mg bs lf rt bs.length := mg_at (by rw [hpi, elx, List.take_length, hP1])
        rw [hmi] at e0 e2_ e4_ e5_ e6_ eo ec
        exact hend _ _ _ _ _ _ _ (by decide) (by decide) (⟨fr, x1, x2, x3, fcx, fox, e0, e1_, e2_, e3_, e4_, e5_, e6_, eo, ec⟩) hg hS dMg_mergeUpToAnchors_130
      · skip
        have c_12 : ¬ (P1.length ≤ lx) := fun h => c_12 ((nI_leI (by omega) (by omega)).mpr h)
        obtain ⟨pl, lj, hg1, hpl, hpn1, hplt⟩ := prs_take (a := bs) (b := lf) (n := bs.length) (k := lx) (by rw [← hP1]; omega)
        rw [← hP1] at hg1 hpl
        have eLA : fa1 lx = nI pl := rpN_at ra1 hg1
        have eLB : fb1 lx = nI lj := rpN_at rb1 hg1
        have hmi : mg bs lf rt i = mg bs lf rt pl := mg_at (by rw [hpi, hpl])
        rw [hmi] at e0 e2_ e4_ e5_ e6_ eo ec
        have hin := mg_in bs lf rt pl
        have hs1 := stp_spec (show stp bs lf (fro bs lf pl) pl = some lj from hpn1)
        have hfr2 := fro_le bs rt pl
        refine lv_aload_n S0.1 S0.2.1 dMg_mergeUpToAnchors_15 rfl (lv_at hl 0 rfl) ?_
        refine hw_get S0 hK hg e0 rfl inMg 3 (by decide) lf_Mg_28 rfl rfl dMg_mergeUpToAnchors_16 ?_
        refine hw_get S0 hK hg q4_c1 rfl inCo 0 (by decide) lf_Mg_69 rfl rfl dMg_mergeUpToAnchors_19 ?_
        refine lv_iload_n S0.1 S0.2.1 dMg_mergeUpToAnchors_22 rfl (lv_at hl 3 rfl) ?_
        refine hw_iald S0 hK hg q4_a1 0 rfl (by omega) (by omega) dMg_mergeUpToAnchors_23 ?_
        refine hw_top (nI pl) eLA ?_
        refine lv_istore (lv' := [(4, .int (nI pl)), (0, .ref mo), (1, .ref rB), (2, .int (nI rx)), (3, .int (nI lx))]) S0.1 S0.2.1 dMg_mergeUpToAnchors_24 hl (by decide) rfl (fun ls hl => ?_)
        have loop_26 : ∀ (n_26 : Nat) (ry : Nat) (H : Heap) (locs : List Loc) (ls : Array Slot), P2.length - ry < n_26 → (ry ≤ P2.length) → (∀ (k : Nat) (p : Nat × Nat), k < ry → P2[k]? = some p → p.1 < pl) → hw D hC AX gl H → va_S AX sX.heap H locs → lv_has ls 5 [(0, .ref mo), (1, .ref rB), (2, .int (nI ry)), (3, .int (nI lx)), (4, .int (nI pl))] → W pX l eX RX sX mX argsX belowX methX cX H locs 0 0 QX (F0 mX 26 ls []) := by
          intro n_26
          induction n_26 with
          | zero => intros; omega
          | succ n_26 ih_26 =>
            intro ry H locs ls hm_26 hry6 hry hg hS hl
            refine lv_iload_n S0.1 S0.2.1 dMg_mergeUpToAnchors_26 rfl (lv_at hl 2 rfl) ?_
            refine lv_aload_n S0.1 S0.2.1 dMg_mergeUpToAnchors_27 rfl (lv_at hl 0 rfl) ?_
            refine hw_get S0 hK hg e0 rfl inMg 4 (by decide) lf_Mg_32 rfl rfl dMg_mergeUpToAnchors_28 ?_
            refine hw_get S0 hK hg q4_c2 rfl inCo 2 (by decide) lf_Mg_68 rfl rfl dMg_mergeUpToAnchors_31 ?_
            refine lv_icmp_ge (tgt := 57) S0.1 S0.2.1 dMg_mergeUpToAnchors_34 (by decide) (fun c_34 => ?_) (fun c_34 => ?_)
            · skip
              have c_34 : P2.length ≤ ry := (nI_leI (by omega) (by omega)).mp c_34
              refine lv_iload_n S0.1 S0.2.1 dMg_mergeUpToAnchors_57 rfl (lv_at hl 2 rfl) ?_
              refine lv_aload_n S0.1 S0.2.1 dMg_mergeUpToAnchors_58 rfl (lv_at hl 0 rfl) ?_
              refine hw_get S0 hK hg e0 rfl inMg 4 (by decide) lf_Mg_32 rfl rfl dMg_mergeUpToAnchors_59 ?_
              refine hw_get S0 hK hg q4_c2 rfl inCo 2 (by decide) lf_Mg_68 rfl rfl dMg_mergeUpToAnchors_62 ?_
              refine lv_icmp_ge (tgt := 124) S0.1 S0.2.1 dMg_mergeUpToAnchors_65 (by decide) (fun c_65 => ?_) (fun c_65 => ?_)
              · skip
                have c_65 : P2.length ≤ ry := (nI_leI (by omega) (by omega)).mp c_65
                have hnx : mg bs lf rt (pl + 1) = mg bs lf rt pl := mg_skipR (anchor_none hplt (fun k p hk hp => hry k p hk (by rw [hP2]; exact hp)) (fun p hp => by rw [← hP2] at hp; have := (List.getElem?_eq_some_iff.mp hp).1; omega))
                refine lv_iinc (v := nI (lx + 1)) (lv' := [(3, .int (nI (lx + 1))), (0, .ref mo), (1, .ref rB), (2, .int (nI ry)), (4, .int (nI pl))]) S0.1 S0.2.1 dMg_mergeUpToAnchors_124 hl (k := 3) rfl (by exact nI_add _ 1) (by decide) rfl (fun ls hl => ?_)
                refine lv_goto (tgt := 4) S0.1 S0.2.1 dMg_mergeUpToAnchors_127 (by decide) ?_
                exact ih_4 (lx + 1) ry (pl + 1) x1 x2 x3 fcx fox gl _ _ _ (by omega) (by omega) (by omega) (by rw [prs_some hpn1, take_snoc hg1, hpl]) (by omega) (fun k p hk hp l2 q hl2 hq => Nat.lt_trans (hry k p hk hp) (prs_lt (show lx < l2 by omega) (by rw [← hP1]; exact hg1) (by rw [← hP1]; exact hq))) fr (by rw [hnx]; exact e0) e1_ (by rw [hnx]; exact e2_) e3_ (by rw [hnx]; exact e4_) (by rw [hnx]; exact e5_) (by rw [hnx]; exact e6_) (by rw [hnx]; exact eo) (by rw [hnx]; exact ec) hg hS (lv_sub hl [1, 2, 3, 0] rfl)
              · skip
                have c_65 : ¬ (P2.length ≤ ry) := fun h => c_65 ((nI_leI (by omega) (by omega)).mpr h)
                omega
            · skip
              have c_34 : ¬ (P2.length ≤ ry) := fun h => c_34 ((nI_leI (by omega) (by omega)).mpr h)
              obtain ⟨pr, rj, hg2, hpr, hpn2, hprt⟩ := prs_take (a := bs) (b := rt) (n := bs.length) (k := ry) (by rw [← hP2]; omega)
              rw [← hP2] at hg2 hpr
              have eRA : fa2 ry = nI pr := rpN_at ra2 hg2
              have eRB : fb2 ry = nI rj := rpN_at rb2 hg2
              refine lv_aload_n S0.1 S0.2.1 dMg_mergeUpToAnchors_37 rfl (lv_at hl 0 rfl) ?_
              refine hw_get S0 hK hg e0 rfl inMg 4 (by decide) lf_Mg_32 rfl rfl dMg_mergeUpToAnchors_38 ?_
              refine hw_get S0 hK hg q4_c2 rfl inCo 0 (by decide) lf_Mg_69 rfl rfl dMg_mergeUpToAnchors_41 ?_
              refine lv_iload_n S0.1 S0.2.1 dMg_mergeUpToAnchors_44 rfl (lv_at hl 2 rfl) ?_
              refine hw_iald S0 hK hg q4_a2 0 rfl (by omega) (by omega) dMg_mergeUpToAnchors_45 ?_
              refine hw_top (nI pr) eRA ?_
              refine lv_iload S0.1 S0.2.1 dMg_mergeUpToAnchors_46 (lv_at hl 4 rfl) ?_
              refine lv_icmp_ge (tgt := 57) S0.1 S0.2.1 dMg_mergeUpToAnchors_48 (by decide) (fun c_48 => ?_) (fun c_48 => ?_)
              · skip
                have c_48 : pl ≤ pr := (nI_leI (by omega) (by omega)).mp c_48
                refine lv_iload_n S0.1 S0.2.1 dMg_mergeUpToAnchors_57 rfl (lv_at hl 2 rfl) ?_
                refine lv_aload_n S0.1 S0.2.1 dMg_mergeUpToAnchors_58 rfl (lv_at hl 0 rfl) ?_
                refine hw_get S0 hK hg e0 rfl inMg 4 (by decide) lf_Mg_32 rfl rfl dMg_mergeUpToAnchors_59 ?_
                refine hw_get S0 hK hg q4_c2 rfl inCo 2 (by decide) lf_Mg_68 rfl rfl dMg_mergeUpToAnchors_62 ?_
                refine lv_icmp_ge (tgt := 124) S0.1 S0.2.1 dMg_mergeUpToAnchors_65 (by decide) (fun c_65 => ?_) (fun c_65 => ?_)
                · skip
                  have c_65 : P2.length ≤ ry := (nI_leI (by omega) (by omega)).mp c_65
                  omega
                · skip
                  have c_65 : ¬ (P2.length ≤ ry) := fun h => c_65 ((nI_leI (by omega) (by omega)).mpr h)
                  refine lv_aload_n S0.1 S0.2.1 dMg_mergeUpToAnchors_68 rfl (lv_at hl 0 rfl) ?_
                  refine hw_get S0 hK hg e0 rfl inMg 4 (by decide) lf_Mg_32 rfl rfl dMg_mergeUpToAnchors_69 ?_
                  refine hw_get S0 hK hg q4_c2 rfl inCo 0 (by decide) lf_Mg_69 rfl rfl dMg_mergeUpToAnchors_72 ?_
                  refine lv_iload_n S0.1 S0.2.1 dMg_mergeUpToAnchors_75 rfl (lv_at hl 2 rfl) ?_
                  refine hw_iald S0 hK hg q4_a2 0 rfl (by omega) (by omega) dMg_mergeUpToAnchors_76 ?_
                  refine hw_top (nI pr) eRA ?_
                  refine lv_iload S0.1 S0.2.1 dMg_mergeUpToAnchors_77 (lv_at hl 4 rfl) ?_
                  refine lv_icmp_ne (tgt := 124) S0.1 S0.2.1 dMg_mergeUpToAnchors_79 (by decide) (fun c_79 => ?_) (fun c_79 => ?_)
                  · skip
                    have c_79 : ¬ (pr = pl) := fun h => c_79 ((nI_eq (by omega) (by omega)).mpr h)
                    have hnx : mg bs lf rt (pl + 1) = mg bs lf rt pl := mg_skipR (anchor_none hplt (fun k p hk hp => hry k p hk (by rw [hP2]; exact hp)) (fun p hp => by rw [← hP2] at hp; cases Option.some.inj (hg2.symm.trans hp); show pl < pr; omega))
                    refine lv_iinc (v := nI (lx + 1)) (lv' := [(3, .int (nI (lx + 1))), (0, .ref mo), (1, .ref rB), (2, .int (nI ry)), (4, .int (nI pl))]) S0.1 S0.2.1 dMg_mergeUpToAnchors_124 hl (k := 3) rfl (by exact nI_add _ 1) (by decide) rfl (fun ls hl => ?_)
                    refine lv_goto (tgt := 4) S0.1 S0.2.1 dMg_mergeUpToAnchors_127 (by decide) ?_
                    exact ih_4 (lx + 1) ry (pl + 1) x1 x2 x3 fcx fox gl _ _ _ (by omega) (by omega) (by omega) (by rw [prs_some hpn1, take_snoc hg1, hpl]) (by omega) (fun k p hk hp l2 q hl2 hq => Nat.lt_trans (hry k p hk hp) (prs_lt (show lx < l2 by omega) (by rw [← hP1]; exact hg1) (by rw [← hP1]; exact hq))) fr (by rw [hnx]; exact e0) e1_ (by rw [hnx]; exact e2_) e3_ (by rw [hnx]; exact e4_) (by rw [hnx]; exact e5_) (by rw [hnx]; exact e6_) (by rw [hnx]; exact eo) (by rw [hnx]; exact ec) hg hS (lv_sub hl [1, 2, 3, 0] rfl)
                  · skip
                    have c_79 : pr = pl := (nI_eq (by omega) (by omega)).mp c_79
                    have hpn2 : pn bs rt pl = some rj := by rw [← c_79]; exact hpn2
                    have hs2 := stp_spec (show stp bs rt (fro bs rt pl) pl = some rj from hpn2)
                    have hnx := mg_anchor hpn1 hpn2
                    have hjl := joinP_len (bs := bs) (lf := lf) (rt := rt) (a := (mg bs lf rt pl).1) (i := pl) (la := (mg bs lf rt pl).2.1) (lj := lj) (ra := (mg bs lf rt pl).2.2.1) (rj := rj) (mg bs lf rt pl).2.2.2 (by omega) (by omega)
                    refine lv_aload_n S0.1 S0.2.1 dMg_mergeUpToAnchors_82 rfl (lv_at hl 0 rfl) ?_
                    refine lv_iload S0.1 S0.2.1 dMg_mergeUpToAnchors_83 (lv_at hl 4 rfl) ?_
                    refine lv_aload_n S0.1 S0.2.1 dMg_mergeUpToAnchors_85 rfl (lv_at hl 0 rfl) ?_
                    refine hw_get S0 hK hg e0 rfl inMg 3 (by decide) lf_Mg_28 rfl rfl dMg_mergeUpToAnchors_86 ?_
                    refine hw_get S0 hK hg q4_c1 rfl inCo 1 (by decide) lf_Mg_72 rfl rfl dMg_mergeUpToAnchors_89 ?_
                    refine lv_iload_n S0.1 S0.2.1 dMg_mergeUpToAnchors_92 rfl (lv_at hl 3 rfl) ?_
                    refine hw_iald S0 hK hg q4_b1 0 rfl (by omega) (by omega) dMg_mergeUpToAnchors_93 ?_
                    refine hw_top (nI lj) eLB ?_
                    refine lv_aload_n S0.1 S0.2.1 dMg_mergeUpToAnchors_94 rfl (lv_at hl 0 rfl) ?_
                    refine hw_get S0 hK hg e0 rfl inMg 4 (by decide) lf_Mg_32 rfl rfl dMg_mergeUpToAnchors_95 ?_
                    refine hw_get S0 hK hg q4_c2 rfl inCo 1 (by decide) lf_Mg_72 rfl rfl dMg_mergeUpToAnchors_98 ?_
                    refine lv_iload_n S0.1 S0.2.1 dMg_mergeUpToAnchors_101 rfl (lv_at hl 2 rfl) ?_
                    refine hw_iald S0 hK hg q4_b2 0 rfl (by omega) (by omega) dMg_mergeUpToAnchors_102 ?_
                    refine hw_top (nI rj) eRB ?_
                    refine hw_Vv (As := [.int (nI pl), .int (nI lj), .int (nI rj)]) (rest := []) S0 hK hg hS hA0 e0 rfl (c_Mg_mergeParts l D cI cR cJ gl _ mo oc cc c1 c2 p1 p2 p3 lo rB lB cB rL lL cL rR lR cR_ bs lf rt fB fL fR fcx fox q4_rB q4_lB eB hcB hdB q4_rL q4_lL eL hcL hdL q4_rR q4_lR eR hcR hdR n_rB_oc n_rL_oc n_rR_oc n_lB_cc n_lB_lo n_lL_cc n_lL_lo n_lR_cc n_lR_lo n_lo_cc n_p1_p2 n_p1_p3 n_p2_p3 (mg bs lf rt pl).1 pl (mg bs lf rt pl).2.1 lj (mg bs lf rt pl).2.2.1 rj x1 x2 x3 (mg bs lf rt pl).2.2.2 e0 e1_ e2_ e3_ e4_ e5_ e6_ eo ec (by omega) (by omega) (by omega) (by omega) (by omega) (by omega) (by omega) (by omega)) kMg_mergeParts lm_Mg_64 (hR.call rfl) rfl hl.1 rfl (Nat.le_of_ble_eq_true rfl) dMg_mergeUpToAnchors_103 (hR.new (by decide) (by decide)) (fun g_1 H locs hp_103 hg hS => ?_)
                    obtain ⟨frm, fc1, fo1, m0, m1, m2, m3, m4, m5, m6, m7, m8⟩ := hp_103
                    generalize hJ : joinP bs lf rt (mg bs lf rt pl).1 pl (mg bs lf rt pl).2.1 lj (mg bs lf rt pl).2.2.1 rj (mg bs lf rt pl).2.2.2 = J at m0 m2 m7 m8 hnx hjl
                    have k1_0 := frm.at (h_nm (h_ne q4_rB e0 (fun h => by simp at h)) (h_nm (h_ne q4_rB e1_ (fun h => by cases h)) (h_nm n_rB_oc (h_nm (h_ne q4_rB e3_ (fun h => by cases h)) (h_nm (h_ne q4_rB e4_ (fun h => by simp at h)) (h_nm (h_ne q4_rB e5_ (fun h => by simp at h)) (h_nm (h_ne q4_rB e6_ (fun h => by simp at h)) h_n0))))))) q4_rB
                    have k1_1 := frm.at (h_nm (h_ne q4_lB e0 (fun h => by cases h)) (h_nm n_lB_cc (h_nm (h_ne q4_lB e2_ (fun h => by cases h)) (h_nm n_lB_lo (h_nm (h_ne q4_lB e4_ (fun h => by cases h)) (h_nm (h_ne q4_lB e5_ (fun h => by cases h)) (h_nm (h_ne q4_lB e6_ (fun h => by cases h)) h_n0))))))) q4_lB
                    have k1_2 := frm.at (h_nm (h_ne q4_rL e0 (fun h => by simp at h)) (h_nm (h_ne q4_rL e1_ (fun h => by cases h)) (h_nm n_rL_oc (h_nm (h_ne q4_rL e3_ (fun h => by cases h)) (h_nm (h_ne q4_rL e4_ (fun h => by simp at h)) (h_nm (h_ne q4_rL e5_ (fun h => by simp at h)) (h_nm (h_ne q4_rL e6_ (fun h => by simp at h)) h_n0))))))) q4_rL
                    have k1_3 := frm.at (h_nm (h_ne q4_lL e0 (fun h => by cases h)) (h_nm n_lL_cc (h_nm (h_ne q4_lL e2_ (fun h => by cases h)) (h_nm n_lL_lo (h_nm (h_ne q4_lL e4_ (fun h => by cases h)) (h_nm (h_ne q4_lL e5_ (fun h => by cases h)) (h_nm (h_ne q4_lL e6_ (fun h => by cases h)) h_n0))))))) q4_lL
                    have k1_4 := frm.at (h_nm (h_ne q4_rR e0 (fun h => by simp at h)) (h_nm (h_ne q4_rR e1_ (fun h => by cases h)) (h_nm n_rR_oc (h_nm (h_ne q4_rR e3_ (fun h => by cases h)) (h_nm (h_ne q4_rR e4_ (fun h => by simp at h)) (h_nm (h_ne q4_rR e5_ (fun h => by simp at h)) (h_nm (h_ne q4_rR e6_ (fun h => by simp at h)) h_n0))))))) q4_rR
                    have k1_5 := frm.at (h_nm (h_ne q4_lR e0 (fun h => by cases h)) (h_nm n_lR_cc (h_nm (h_ne q4_lR e2_ (fun h => by cases h)) (h_nm n_lR_lo (h_nm (h_ne q4_lR e4_ (fun h => by cases h)) (h_nm (h_ne q4_lR e5_ (fun h => by cases h)) (h_nm (h_ne q4_lR e6_ (fun h => by cases h)) h_n0))))))) q4_lR
                    have k1_6 := frm.at (h_nm (h_ne q4_c1 e0 (fun h => by simp at h)) (h_nm (h_ne q4_c1 e1_ (fun h => by cases h)) (h_nm (h_ne q4_c1 e2_ (fun h => by simp at h)) (h_nm (h_ne q4_c1 e3_ (fun h => by cases h)) (h_nm (h_ne q4_c1 e4_ (fun h => by simp at h)) (h_nm (h_ne q4_c1 e5_ (fun h => by simp at h)) (h_nm (h_ne q4_c1 e6_ (fun h => by simp at h)) h_n0))))))) q4_c1
                    have k1_7 := frm.at (h_nm (h_ne q4_a1 e0 (fun h => by cases h)) (h_nm n_a1_cc (h_nm (h_ne q4_a1 e2_ (fun h => by cases h)) (h_nm n_a1_lo (h_nm (h_ne q4_a1 e4_ (fun h => by cases h)) (h_nm (h_ne q4_a1 e5_ (fun h => by cases h)) (h_nm (h_ne q4_a1 e6_ (fun h => by cases h)) h_n0))))))) q4_a1
                    have k1_8 := frm.at (h_nm (h_ne q4_b1 e0 (fun h => by cases h)) (h_nm n_b1_cc (h_nm (h_ne q4_b1 e2_ (fun h => by cases h)) (h_nm n_b1_lo (h_nm (h_ne q4_b1 e4_ (fun h => by cases h)) (h_nm (h_ne q4_b1 e5_ (fun h => by cases h)) (h_nm (h_ne q4_b1 e6_ (fun h => by cases h)) h_n0))))))) q4_b1
                    have k1_9 := frm.at (h_nm (h_ne q4_c2 e0 (fun h => by simp at h)) (h_nm (h_ne q4_c2 e1_ (fun h => by cases h)) (h_nm (h_ne q4_c2 e2_ (fun h => by simp at h)) (h_nm (h_ne q4_c2 e3_ (fun h => by cases h)) (h_nm (h_ne q4_c2 e4_ (fun h => by simp at h)) (h_nm (h_ne q4_c2 e5_ (fun h => by simp at h)) (h_nm (h_ne q4_c2 e6_ (fun h => by simp at h)) h_n0))))))) q4_c2
                    have k1_10 := frm.at (h_nm (h_ne q4_a2 e0 (fun h => by cases h)) (h_nm n_a2_cc (h_nm (h_ne q4_a2 e2_ (fun h => by cases h)) (h_nm n_a2_lo (h_nm (h_ne q4_a2 e4_ (fun h => by cases h)) (h_nm (h_ne q4_a2 e5_ (fun h => by cases h)) (h_nm (h_ne q4_a2 e6_ (fun h => by cases h)) h_n0))))))) q4_a2
                    have k1_11 := frm.at (h_nm (h_ne q4_b2 e0 (fun h => by cases h)) (h_nm n_b2_cc (h_nm (h_ne q4_b2 e2_ (fun h => by cases h)) (h_nm n_b2_lo (h_nm (h_ne q4_b2 e4_ (fun h => by cases h)) (h_nm (h_ne q4_b2 e5_ (fun h => by cases h)) (h_nm (h_ne q4_b2 e6_ (fun h => by cases h)) h_n0))))))) q4_b2
                    have fr := fr.call frm (by simp)
                    refine lv_aload_n S0.1 S0.2.1 dMg_mergeUpToAnchors_106 rfl (lv_at hl 0 rfl) ?_
                    refine hw_get S0 hK hg m0 rfl inMg 0 (by decide) lf_Mg_14 rfl rfl dMg_mergeUpToAnchors_107 ?_
                    refine lv_aload_n S0.1 S0.2.1 dMg_mergeUpToAnchors_110 rfl (lv_at hl 1 rfl) ?_
                    refine lv_iload S0.1 S0.2.1 dMg_mergeUpToAnchors_111 (lv_at hl 4 rfl) ?_
                    refine lv_iload S0.1 S0.2.1 dMg_mergeUpToAnchors_113 (lv_at hl 4 rfl) ?_
                    refine lv_iconst (v := nI 1) S0.1 S0.2.1 dMg_mergeUpToAnchors_115 (by decide) ?_
                    refine lv_iadd S0.1 S0.2.1 dMg_mergeUpToAnchors_116 ?_
                    refine hw_top (nI (pl + 1)) (nI_add _ _) ?_
                    refine hw_Vv (As := [.ref rB, .int (nI pl), .int (nI (pl + 1))]) (rest := []) S0 hK hg hS hA0 m2 rfl (c_Ro_addPart l D cI cR cJ g_1 _ oc lo J.1.length 120 rB lB bs.length cB pl (pl + 1) fo1 fB m2 m3 k1_0 k1_1 n_rB_oc n_lB_lo (by omega) (by omega) (by omega) (by omega) hdB (by omega) (by omega)) kRo_addPart lm_Mg_75 (hR.call rfl) rfl hl.1 rfl (Nat.le_of_ble_eq_true rfl) dMg_mergeUpToAnchors_117 (hR.new (by decide) (by decide)) (fun g_2 H locs hp_117 hg hS => ?_)
                    obtain ⟨fra, k0, fo2, k1, k2_, k3_⟩ := hp_117
                    rw [show pl + 1 - pl = 1 by omega] at k0
                    have k2_0 := fra.at (h_nm n_rB_oc (h_nm (h_ne k1_0 m3 (fun h => by cases h)) h_n0)) k1_0
                    have k2_1 := fra.at (h_nm (h_ne k1_1 m2 (fun h => by cases h)) (h_nm n_lB_lo h_n0)) k1_1
                    have k2_2 := fra.at (h_nm n_rL_oc (h_nm (h_ne k1_2 m3 (fun h => by cases h)) h_n0)) k1_2
                    have k2_3 := fra.at (h_nm (h_ne k1_3 m2 (fun h => by cases h)) (h_nm n_lL_lo h_n0)) k1_3
                    have k2_4 := fra.at (h_nm n_rR_oc (h_nm (h_ne k1_4 m3 (fun h => by cases h)) h_n0)) k1_4
                    have k2_5 := fra.at (h_nm (h_ne k1_5 m2 (fun h => by cases h)) (h_nm n_lR_lo h_n0)) k1_5
                    have k2_6 := fra.at (h_nm (h_ne k1_6 m2 (fun h => by simp at h)) (h_nm (h_ne k1_6 m3 (fun h => by cases h)) h_n0)) k1_6
                    have k2_7 := fra.at (h_nm (h_ne k1_7 m2 (fun h => by cases h)) (h_nm n_a1_lo h_n0)) k1_7
                    have k2_8 := fra.at (h_nm (h_ne k1_8 m2 (fun h => by cases h)) (h_nm n_b1_lo h_n0)) k1_8
                    have k2_9 := fra.at (h_nm (h_ne k1_9 m2 (fun h => by simp at h)) (h_nm (h_ne k1_9 m3 (fun h => by cases h)) h_n0)) k1_9
                    have k2_10 := fra.at (h_nm (h_ne k1_10 m2 (fun h => by cases h)) (h_nm n_a2_lo h_n0)) k1_10
                    have k2_11 := fra.at (h_nm (h_ne k1_11 m2 (fun h => by cases h)) (h_nm n_b2_lo h_n0)) k1_11
                    have k2_12 := fra.at (h_nm (h_ne m0 m2 (fun h => by simp at h)) (h_nm (h_ne m0 m3 (fun h => by cases h)) h_n0)) m0
                    have k2_13 := fra.at (h_nm (h_ne m1 m2 (fun h => by cases h)) (h_nm (Ne.symm n_lo_cc) h_n0)) m1
                    have k2_14 := fra.at (h_nm (h_ne m4 m2 (fun h => by simp at h)) (h_nm (h_ne m4 m3 (fun h => by cases h)) h_n0)) m4
                    have k2_15 := fra.at (h_nm (h_ne m5 m2 (fun h => by simp at h)) (h_nm (h_ne m5 m3 (fun h => by cases h)) h_n0)) m5
                    have k2_16 := fra.at (h_nm (h_ne m6 m2 (fun h => by simp at h)) (h_nm (h_ne m6 m3 (fun h => by cases h)) h_n0)) m6
                    have fr := fr.call fra (by simp)
                    refine lv_aload_n S0.1 S0.2.1 dMg_mergeUpToAnchors_120 rfl (lv_at hl 0 rfl) ?_
                    refine hw_Vv (As := []) (rest := []) S0 hK hg hS hA0 k2_12 rfl (c_Mg_stepPartsOverAnchor l D cI cR cJ g_2 _ mo oc cc c1 c2 p1 p2 p3 rB rL rR pl lj rj (nI J.2.length) _ _ _ k2_12 k2_14 k2_15 k2_16 n_p1_p2 n_p1_p3 n_p2_p3) kMg_stepPartsOverAnchor lm_Mg_79 (hR.call rfl) rfl hl.1 rfl (Nat.le_of_ble_eq_true rfl) dMg_mergeUpToAnchors_121 (hR.new (by decide) (by decide)) (fun g_3 H locs hp_121 hg hS => ?_)
                    obtain ⟨frs, s1_, s2_, s3_⟩ := hp_121
                    have k3_0 := frs.at (h_nm (h_ne k2_0 k2_14 (fun h => by simp at h)) (h_nm (h_ne k2_0 k2_15 (fun h => by simp at h)) (h_nm (h_ne k2_0 k2_16 (fun h => by simp at h)) h_n0))) k2_0
                    have k3_1 := frs.at (h_nm (h_ne k2_1 k2_14 (fun h => by cases h)) (h_nm (h_ne k2_1 k2_15 (fun h => by cases h)) (h_nm (h_ne k2_1 k2_16 (fun h => by cases h)) h_n0))) k2_1
                    have k3_2 := frs.at (h_nm (h_ne k2_2 k2_14 (fun h => by simp at h)) (h_nm (h_ne k2_2 k2_15 (fun h => by simp at h)) (h_nm (h_ne k2_2 k2_16 (fun h => by simp at h)) h_n0))) k2_2
                    have k3_3 := frs.at (h_nm (h_ne k2_3 k2_14 (fun h => by cases h)) (h_nm (h_ne k2_3 k2_15 (fun h => by cases h)) (h_nm (h_ne k2_3 k2_16 (fun h => by cases h)) h_n0))) k2_3
                    have k3_4 := frs.at (h_nm (h_ne k2_4 k2_14 (fun h => by simp at h)) (h_nm (h_ne k2_4 k2_15 (fun h => by simp at h)) (h_nm (h_ne k2_4 k2_16 (fun h => by simp at h)) h_n0))) k2_4
                    have k3_5 := frs.at (h_nm (h_ne k2_5 k2_14 (fun h => by cases h)) (h_nm (h_ne k2_5 k2_15 (fun h => by cases h)) (h_nm (h_ne k2_5 k2_16 (fun h => by cases h)) h_n0))) k2_5
                    have k3_6 := frs.at (h_nm (h_ne k2_6 k2_14 (fun h => by simp at h)) (h_nm (h_ne k2_6 k2_15 (fun h => by simp at h)) (h_nm (h_ne k2_6 k2_16 (fun h => by simp at h)) h_n0))) k2_6
                    have k3_7 := frs.at (h_nm (h_ne k2_7 k2_14 (fun h => by cases h)) (h_nm (h_ne k2_7 k2_15 (fun h => by cases h)) (h_nm (h_ne k2_7 k2_16 (fun h => by cases h)) h_n0))) k2_7
                    have k3_8 := frs.at (h_nm (h_ne k2_8 k2_14 (fun h => by cases h)) (h_nm (h_ne k2_8 k2_15 (fun h => by cases h)) (h_nm (h_ne k2_8 k2_16 (fun h => by cases h)) h_n0))) k2_8
                    have k3_9 := frs.at (h_nm (h_ne k2_9 k2_14 (fun h => by simp at h)) (h_nm (h_ne k2_9 k2_15 (fun h => by simp at h)) (h_nm (h_ne k2_9 k2_16 (fun h => by simp at h)) h_n0))) k2_9
                    have k3_10 := frs.at (h_nm (h_ne k2_10 k2_14 (fun h => by cases h)) (h_nm (h_ne k2_10 k2_15 (fun h => by cases h)) (h_nm (h_ne k2_10 k2_16 (fun h => by cases h)) h_n0))) k2_10
                    have k3_11 := frs.at (h_nm (h_ne k2_11 k2_14 (fun h => by cases h)) (h_nm (h_ne k2_11 k2_15 (fun h => by cases h)) (h_nm (h_ne k2_11 k2_16 (fun h => by cases h)) h_n0))) k2_11
                    have k3_12 := frs.at (h_nm (h_ne k2_12 k2_14 (fun h => by simp at h)) (h_nm (h_ne k2_12 k2_15 (fun h => by simp at h)) (h_nm (h_ne k2_12 k2_16 (fun h => by simp at h)) h_n0))) k2_12
                    have k3_13 := frs.at (h_nm (h_ne k2_13 k2_14 (fun h => by cases h)) (h_nm (h_ne k2_13 k2_15 (fun h => by cases h)) (h_nm (h_ne k2_13 k2_16 (fun h => by cases h)) h_n0))) k2_13
                    have k3_14 := frs.at (h_nm (h_ne k0 k2_14 (fun h => by simp at h)) (h_nm (h_ne k0 k2_15 (fun h => by simp at h)) (h_nm (h_ne k0 k2_16 (fun h => by simp at h)) h_n0))) k0
                    have k3_15 := frs.at (h_nm (h_ne k1 k2_14 (fun h => by cases h)) (h_nm (h_ne k1 k2_15 (fun h => by cases h)) (h_nm (h_ne k1 k2_16 (fun h => by cases h)) h_n0))) k1
                    have fr := fr.call frs (by simp)
                    have eo2 : rp fo2 (J.1 ++ [bs.getD pl 0]) := by have h9 := rp_app m7 eB (show pl + 1 ≤ bs.length by omega) k2_ k3_; rw [pt_one (by omega)] at h9; exact h9
                    have ec2 := m8
                    have k0_ : g_3 oc = some (.inr (5, [.ref lo, .int (nI (J.1 ++ [bs.getD pl 0]).length)])) := by rw [List.length_append]; exact k3_14
                    refine lv_iinc (v := nI (lx + 1)) (lv' := [(3, .int (nI (lx + 1))), (0, .ref mo), (1, .ref rB), (2, .int (nI ry)), (4, .int (nI pl))]) S0.1 S0.2.1 dMg_mergeUpToAnchors_124 hl (k := 3) rfl (by exact nI_add _ 1) (by decide) rfl (fun ls hl => ?_)
                    refine lv_goto (tgt := 4) S0.1 S0.2.1 dMg_mergeUpToAnchors_127 (by decide) ?_
                    exact ih_4 (lx + 1) ry (pl + 1) _ _ _ _ _ g_3 _ _ _ (by omega) (by omega) (by omega) (by rw [prs_some hpn1, take_snoc hg1, hpl]) (by omega) (fun k p hk hp l2 q hl2 hq => Nat.lt_trans (hry k p hk hp) (prs_lt (show lx < l2 by omega) (by rw [← hP1]; exact hg1) (by rw [← hP1]; exact hq))) fr (by rw [hnx]; exact k3_12) k3_13 (by rw [hnx]; exact k0_) k3_15 (by rw [hnx]; exact s1_) (by rw [hnx]; exact s2_) (by rw [hnx]; exact s3_) (by rw [hnx]; exact eo2) (by rw [hnx]; exact ec2) hg hS (lv_sub hl [1, 2, 3, 0] rfl)
              · skip
                have c_48 : ¬ (pl ≤ pr) := fun h => c_48 ((nI_leI (by omega) (by omega)).mpr h)
                refine lv_iinc (v := nI (ry + 1)) (lv' := [(2, .int (nI (ry + 1))), (0, .ref mo), (1, .ref rB), (3, .int (nI lx)), (4, .int (nI pl))]) S0.1 S0.2.1 dMg_mergeUpToAnchors_51 hl (k := 2) rfl (by exact nI_add _ 1) (by decide) rfl (fun ls hl => ?_)
                refine lv_goto (tgt := 26) S0.1 S0.2.1 dMg_mergeUpToAnchors_54 (by decide) ?_
                exact ih_26 (ry + 1) _ _ _ (by omega) (by omega) (fun k p hk hp => by rcases Nat.lt_or_ge k ry with h9 | h9; exact hry k p h9 hp; rw [show k = ry by omega] at hp; cases Option.some.inj (hg2.symm.trans hp); show pr < pl; omega) hg hS (lv_sub hl [1, 2, 0, 3, 4] rfl)
        exact loop_26 _ rx _ _ _ (Nat.lt_succ_self _) hrx (fun k p hk hp => hlt k p hk hp lx _ (Nat.le_refl _) hg1) hg hS (lv_sub hl [1, 2, 3, 4, 0] rfl)
  exact loop_4 _ 0 0 0 e1 e2 e3 fc fo g _ _ _ (Nat.lt_succ_self _) (Nat.zero_le _) (Nat.zero_le _) rfl (Nat.zero_le _) (fun k p hk => absurd hk (Nat.not_lt_zero k)) fr h0 h1 h2 h3 hp1 hp2 hp3 (rp_nil _) (rpN_nil _) hg hS (lv_sub hl [2, 3, 1, 0] rfl)
set_option maxRecDepth 100000 in
set_option maxHeartbeats 4000000 in
theorem c_Mg_run (l : Launch) (D : va_G) (cI cR cJ : ClassId) (g : Nat → Option va_E) (sz : Nat) (mo oc cc c1 c2 p1 p2 p3 lo : Nat) (rB lB cB rL lL cL rR lR cR_ : Nat) (bs lf rt : List Int32) (fB fL fR : Nat → Int32) (fc fo : Nat → Int32) (hrB : g rB = some (.inr (5, [.ref lB, .int (nI bs.length)]))) (hlB : g lB = some (.inl (cI, cB, .inl fB))) (eB : rp fB bs) (hcB : bs.length ≤ cB) (hdB : cB < 4000) (hrL : g rL = some (.inr (5, [.ref lL, .int (nI lf.length)]))) (hlL : g lL = some (.inl (cI, cL, .inl fL))) (eL : rp fL lf) (hcL : lf.length ≤ cL) (hdL : cL < 4000) (hrR : g rR = some (.inr (5, [.ref lR, .int (nI rt.length)]))) (hlR : g lR = some (.inl (cI, cR_, .inl fR))) (eR : rp fR rt) (hcR : rt.length ≤ cR_) (hdR : cR_ < 4000) (a1 b1 a2 b2 len : Nat) (fa1 fb1 fa2 fb2 : Nat → Int32) (n_rB_oc : rB ≠ oc) (n_rL_oc : rL ≠ oc) (n_rR_oc : rR ≠ oc) (n_lB_cc : lB ≠ cc) (n_lB_lo : lB ≠ lo) (n_lL_cc : lL ≠ cc) (n_lL_lo : lL ≠ lo) (n_lR_cc : lR ≠ cc) (n_lR_lo : lR ≠ lo) (n_p1_p2 : p1 ≠ p2) (n_p1_p3 : p1 ≠ p3) (n_p2_p3 : p2 ≠ p3) (n_lB_a1 : lB ≠ a1) (n_lB_b1 : lB ≠ b1) (n_lB_a2 : lB ≠ a2) (n_lB_b2 : lB ≠ b2) (n_lB_len : lB ≠ len) (n_lL_a1 : lL ≠ a1) (n_lL_b1 : lL ≠ b1) (n_lL_a2 : lL ≠ a2) (n_lL_b2 : lL ≠ b2) (n_lL_len : lL ≠ len) (n_lR_a1 : lR ≠ a1) (n_lR_b1 : lR ≠ b1) (n_lR_a2 : lR ≠ a2) (n_lR_b2 : lR ≠ b2) (n_lR_len : lR ≠ len) (n_a1_b1 : a1 ≠ b1) (n_a1_a2 : a1 ≠ a2) (n_a1_b2 : a1 ≠ b2) (n_a1_len : a1 ≠ len) (n_a1_cc : a1 ≠ cc) (n_a1_lo : a1 ≠ lo) (n_b1_a2 : b1 ≠ a2) (n_b1_b2 : b1 ≠ b2) (n_b1_len : b1 ≠ len) (n_b1_cc : b1 ≠ cc) (n_b1_lo : b1 ≠ lo) (n_a2_b2 : a2 ≠ b2) (n_a2_len : a2 ≠ len) (n_a2_cc : a2 ≠ cc) (n_a2_lo : a2 ≠ lo) (n_b2_len : b2 ≠ len) (n_b2_cc : b2 ≠ cc) (n_b2_lo : b2 ≠ lo) (n_len_cc : len ≠ cc) (n_len_lo : len ≠ lo) (n_cc_lo : cc ≠ lo) (n_c1_c2 : c1 ≠ c2) (fl : Nat → Int32) (z1 z2 z3 : Nat) (cn0 on0 u1 u2 u3 v1 v2 v3 k1 k2 : Int32) (hk1 : g c1 = some (.inr (0, [.ref a1, .ref b1, .int k1, .ref len]))) (ha1 : g a1 = some (.inl (cI, 60, .inl fa1))) (hb1 : g b1 = some (.inl (cI, 60, .inl fb1))) (hk2 : g c2 = some (.inr (0, [.ref a2, .ref b2, .int k2, .ref len]))) (ha2 : g a2 = some (.inl (cI, 60, .inl fa2))) (hb2 : g b2 = some (.inl (cI, 60, .inl fb2))) (hlen : g len = some (.inl (cI, 3721, .inl fl))) (hb60 : bs.length ≤ 60) (hl60 : lf.length ≤ 60) (hr60 : rt.length ≤ 60) (h0 : g mo = some (.inr (2, [.ref oc, .ref cc, .int cn0, .ref c1, .ref c2, .ref p1, .ref p2, .ref p3]))) (h1 : g cc = some (.inl (cI, 183, .inl fc))) (h2 : g oc = some (.inr (5, [.ref lo, .int on0]))) (h3 : g lo = some (.inl (cI, 120, .inl fo))) (hp1 : g p1 = some (.inr (3, [.ref z1, .int u1, .int v1]))) (hp2 : g p2 = some (.inr (3, [.ref z2, .int u2, .int v2]))) (hp3 : g p3 = some (.inr (3, [.ref z3, .int u3, .int v3]))) : hMv l yMg_run cMg_run 4 (hRm 5 113 0 0) D (hT cI cR cJ) g sz [.ref mo, .ref rB, .ref rL, .ref rR] (fun g1 => hfr g g1 [mo, cc, oc, lo, p1, p2, p3, c1, a1, b1, c2, a2, b2, len] ∧ ∃ (fcx fox flx ga1 gb1 ga2 gb2 : Nat → Int32) (y1 w1 y2 w2 y3 w3 q1 q2 : Int32), g1 mo = some (.inr (2, [.ref oc, .ref cc, .int (nI (mgF bs lf rt).2.length), .ref c1, .ref c2, .ref p1, .ref p2, .ref p3])) ∧ g1 cc = some (.inl (cI, 183, .inl fcx)) ∧ g1 oc = some (.inr (5, [.ref lo, .int (nI (mgF bs lf rt).1.length)])) ∧ g1 lo = some (.inl (cI, 120, .inl fox)) ∧ g1 p1 = some (.inr (3, [.ref rB, .int y1, .int w1])) ∧ g1 p2 = some (.inr (3, [.ref rL, .int y2, .int w2])) ∧ g1 p3 = some (.inr (3, [.ref rR, .int y3, .int w3])) ∧ g1 c1 = some (.inr (0, [.ref a1, .ref b1, .int q1, .ref len])) ∧ g1 a1 = some (.inl (cI, 60, .inl ga1)) ∧ g1 b1 = some (.inl (cI, 60, .inl gb1)) ∧ g1 c2 = some (.inr (0, [.ref a2, .ref b2, .int q2, .ref len])) ∧ g1 a2 = some (.inl (cI, 60, .inl ga2)) ∧ g1 b2 = some (.inl (cI, 60, .inl gb2)) ∧ g1 len = some (.inl (cI, 3721, .inl flx)) ∧ rp fox (mgF bs lf rt).1 ∧ rpN fcx (fl3 (mgF bs lf rt).2)) := by
  refine hMv_of (by decide +kernel) (Nat.le_of_ble_eq_true rfl) ?_
  intro pX eX RX sX mX argsX belowX methX cX QX AX hR S0 hnm hsz hg hK hS hA0 hend ls hl
  have hl : lv_has ls 4 [(0, .ref mo), (1, .ref rB), (2, .ref rL), (3, .ref rR)] := hl
  have fr : hfr g g [mo, cc, oc, lo, p1, p2, p3, c1, a1, b1, c2, a2, b2, len] := hfr.rf
  refine lv_aload_n S0.1 S0.2.1 dMg_run_0 rfl (lv_at hl 0 rfl) ?_
  refine hw_get S0 hK hg h0 rfl inMg 3 (by decide) lf_Mg_28 rfl rfl dMg_run_1 ?_
  refine lv_aload_n S0.1 S0.2.1 dMg_run_4 rfl (lv_at hl 1 rfl) ?_
  refine lv_aload_n S0.1 S0.2.1 dMg_run_5 rfl (lv_at hl 2 rfl) ?_
  refine hw_Vv (As := [.ref rB, .ref rL]) (rest := []) S0 hK hg hS hA0 hk1 rfl (c_Co_find l D cI cR cJ g _ c1 a1 b1 len rB lB cB rL lL cL k1 bs lf fB fL fl hk1 hlen hrB hlB hrL hlL eB eL n_lB_len n_lL_len hb60 hl60 hcB hcL hdB hdL fa1 fb1 ha1 hb1 n_lB_a1 n_lB_b1 n_lL_a1 n_lL_b1 n_a1_b1 n_a1_len n_b1_len) kCo_find lm_Mg_48 (hR.call rfl) rfl hl.1 rfl (Nat.le_of_ble_eq_true rfl) dMg_run_6 (hR.new (by decide) (by decide)) (fun g_1 H locs hp_6 hg hS => ?_)
  obtain ⟨fr1, A1, B1, L1, c01, c11, c21, c31, c41, c51⟩ := hp_6
  have k1_0 := fr1.at (h_nm (h_ne h0 hk1 (fun h => by simp at h)) (h_nm (h_ne h0 ha1 (fun h => by cases h)) (h_nm (h_ne h0 hb1 (fun h => by cases h)) (h_nm (h_ne h0 hlen (fun h => by cases h)) h_n0)))) h0
  have k1_1 := fr1.at (h_nm (h_ne h1 hk1 (fun h => by cases h)) (h_nm (Ne.symm n_a1_cc) (h_nm (Ne.symm n_b1_cc) (h_nm (Ne.symm n_len_cc) h_n0)))) h1
  have k1_2 := fr1.at (h_nm (h_ne h2 hk1 (fun h => by simp at h)) (h_nm (h_ne h2 ha1 (fun h => by cases h)) (h_nm (h_ne h2 hb1 (fun h => by cases h)) (h_nm (h_ne h2 hlen (fun h => by cases h)) h_n0)))) h2
  have k1_3 := fr1.at (h_nm (h_ne h3 hk1 (fun h => by cases h)) (h_nm (Ne.symm n_a1_lo) (h_nm (Ne.symm n_b1_lo) (h_nm (Ne.symm n_len_lo) h_n0)))) h3
  have k1_4 := fr1.at (h_nm (h_ne hp1 hk1 (fun h => by simp at h)) (h_nm (h_ne hp1 ha1 (fun h => by cases h)) (h_nm (h_ne hp1 hb1 (fun h => by cases h)) (h_nm (h_ne hp1 hlen (fun h => by cases h)) h_n0)))) hp1
  have k1_5 := fr1.at (h_nm (h_ne hp2 hk1 (fun h => by simp at h)) (h_nm (h_ne hp2 ha1 (fun h => by cases h)) (h_nm (h_ne hp2 hb1 (fun h => by cases h)) (h_nm (h_ne hp2 hlen (fun h => by cases h)) h_n0)))) hp2
  have k1_6 := fr1.at (h_nm (h_ne hp3 hk1 (fun h => by simp at h)) (h_nm (h_ne hp3 ha1 (fun h => by cases h)) (h_nm (h_ne hp3 hb1 (fun h => by cases h)) (h_nm (h_ne hp3 hlen (fun h => by cases h)) h_n0)))) hp3
  have k1_7 := fr1.at (h_nm (h_ne hrB hk1 (fun h => by simp at h)) (h_nm (h_ne hrB ha1 (fun h => by cases h)) (h_nm (h_ne hrB hb1 (fun h => by cases h)) (h_nm (h_ne hrB hlen (fun h => by cases h)) h_n0)))) hrB
  have k1_8 := fr1.at (h_nm (h_ne hlB hk1 (fun h => by cases h)) (h_nm n_lB_a1 (h_nm n_lB_b1 (h_nm n_lB_len h_n0)))) hlB
  have k1_9 := fr1.at (h_nm (h_ne hrL hk1 (fun h => by simp at h)) (h_nm (h_ne hrL ha1 (fun h => by cases h)) (h_nm (h_ne hrL hb1 (fun h => by cases h)) (h_nm (h_ne hrL hlen (fun h => by cases h)) h_n0)))) hrL
  have k1_10 := fr1.at (h_nm (h_ne hlL hk1 (fun h => by cases h)) (h_nm n_lL_a1 (h_nm n_lL_b1 (h_nm n_lL_len h_n0)))) hlL
  have k1_11 := fr1.at (h_nm (h_ne hrR hk1 (fun h => by simp at h)) (h_nm (h_ne hrR ha1 (fun h => by cases h)) (h_nm (h_ne hrR hb1 (fun h => by cases h)) (h_nm (h_ne hrR hlen (fun h => by cases h)) h_n0)))) hrR
  have k1_12 := fr1.at (h_nm (h_ne hlR hk1 (fun h => by cases h)) (h_nm n_lR_a1 (h_nm n_lR_b1 (h_nm n_lR_len h_n0)))) hlR
  have k1_13 := fr1.at (h_nm (Ne.symm n_c1_c2) (h_nm (h_ne hk2 ha1 (fun h => by cases h)) (h_nm (h_ne hk2 hb1 (fun h => by cases h)) (h_nm (h_ne hk2 hlen (fun h => by cases h)) h_n0)))) hk2
  have k1_14 := fr1.at (h_nm (h_ne ha2 hk1 (fun h => by cases h)) (h_nm (Ne.symm n_a1_a2) (h_nm (Ne.symm n_b1_a2) (h_nm n_a2_len h_n0)))) ha2
  have k1_15 := fr1.at (h_nm (h_ne hb2 hk1 (fun h => by cases h)) (h_nm (Ne.symm n_a1_b2) (h_nm (Ne.symm n_b1_b2) (h_nm n_b2_len h_n0)))) hb2
  have fr := fr.call fr1 (by simp)
  refine lv_aload_n S0.1 S0.2.1 dMg_run_9 rfl (lv_at hl 0 rfl) ?_
  refine hw_get S0 hK hg k1_0 rfl inMg 4 (by decide) lf_Mg_32 rfl rfl dMg_run_10 ?_
  refine lv_aload_n S0.1 S0.2.1 dMg_run_13 rfl (lv_at hl 1 rfl) ?_
  refine lv_aload_n S0.1 S0.2.1 dMg_run_14 rfl (lv_at hl 3 rfl) ?_
  refine hw_Vv (As := [.ref rB, .ref rR]) (rest := []) S0 hK hg hS hA0 k1_13 rfl (c_Co_find l D cI cR cJ g_1 _ c2 a2 b2 len rB lB cB rR lR cR_ k2 bs rt fB fR L1 k1_13 c31 k1_7 k1_8 k1_11 k1_12 eB eR n_lB_len n_lR_len hb60 hr60 hcB hcR hdB hdR fa2 fb2 k1_14 k1_15 n_lB_a2 n_lB_b2 n_lR_a2 n_lR_b2 n_a2_b2 n_a2_len n_b2_len) kCo_find lm_Mg_48 (hR.call rfl) rfl hl.1 rfl (Nat.le_of_ble_eq_true rfl) dMg_run_15 (hR.new (by decide) (by decide)) (fun g_2 H locs hp_15 hg hS => ?_)
  obtain ⟨fr2, A2, B2, L2, c02, c12, c22, c32, c42, c52⟩ := hp_15
  have k2_0 := fr2.at (h_nm (h_ne k1_0 k1_13 (fun h => by simp at h)) (h_nm (h_ne k1_0 k1_14 (fun h => by cases h)) (h_nm (h_ne k1_0 k1_15 (fun h => by cases h)) (h_nm (h_ne k1_0 c31 (fun h => by cases h)) h_n0)))) k1_0
  have k2_1 := fr2.at (h_nm (h_ne k1_1 k1_13 (fun h => by cases h)) (h_nm (Ne.symm n_a2_cc) (h_nm (Ne.symm n_b2_cc) (h_nm (Ne.symm n_len_cc) h_n0)))) k1_1
  have k2_2 := fr2.at (h_nm (h_ne k1_2 k1_13 (fun h => by simp at h)) (h_nm (h_ne k1_2 k1_14 (fun h => by cases h)) (h_nm (h_ne k1_2 k1_15 (fun h => by cases h)) (h_nm (h_ne k1_2 c31 (fun h => by cases h)) h_n0)))) k1_2
  have k2_3 := fr2.at (h_nm (h_ne k1_3 k1_13 (fun h => by cases h)) (h_nm (Ne.symm n_a2_lo) (h_nm (Ne.symm n_b2_lo) (h_nm (Ne.symm n_len_lo) h_n0)))) k1_3
  have k2_4 := fr2.at (h_nm (h_ne k1_4 k1_13 (fun h => by simp at h)) (h_nm (h_ne k1_4 k1_14 (fun h => by cases h)) (h_nm (h_ne k1_4 k1_15 (fun h => by cases h)) (h_nm (h_ne k1_4 c31 (fun h => by cases h)) h_n0)))) k1_4
  have k2_5 := fr2.at (h_nm (h_ne k1_5 k1_13 (fun h => by simp at h)) (h_nm (h_ne k1_5 k1_14 (fun h => by cases h)) (h_nm (h_ne k1_5 k1_15 (fun h => by cases h)) (h_nm (h_ne k1_5 c31 (fun h => by cases h)) h_n0)))) k1_5
  have k2_6 := fr2.at (h_nm (h_ne k1_6 k1_13 (fun h => by simp at h)) (h_nm (h_ne k1_6 k1_14 (fun h => by cases h)) (h_nm (h_ne k1_6 k1_15 (fun h => by cases h)) (h_nm (h_ne k1_6 c31 (fun h => by cases h)) h_n0)))) k1_6
  have k2_7 := fr2.at (h_nm (h_ne k1_7 k1_13 (fun h => by simp at h)) (h_nm (h_ne k1_7 k1_14 (fun h => by cases h)) (h_nm (h_ne k1_7 k1_15 (fun h => by cases h)) (h_nm (h_ne k1_7 c31 (fun h => by cases h)) h_n0)))) k1_7
  have k2_8 := fr2.at (h_nm (h_ne k1_8 k1_13 (fun h => by cases h)) (h_nm n_lB_a2 (h_nm n_lB_b2 (h_nm n_lB_len h_n0)))) k1_8
  have k2_9 := fr2.at (h_nm (h_ne k1_9 k1_13 (fun h => by simp at h)) (h_nm (h_ne k1_9 k1_14 (fun h => by cases h)) (h_nm (h_ne k1_9 k1_15 (fun h => by cases h)) (h_nm (h_ne k1_9 c31 (fun h => by cases h)) h_n0)))) k1_9
  have k2_10 := fr2.at (h_nm (h_ne k1_10 k1_13 (fun h => by cases h)) (h_nm n_lL_a2 (h_nm n_lL_b2 (h_nm n_lL_len h_n0)))) k1_10
  have k2_11 := fr2.at (h_nm (h_ne k1_11 k1_13 (fun h => by simp at h)) (h_nm (h_ne k1_11 k1_14 (fun h => by cases h)) (h_nm (h_ne k1_11 k1_15 (fun h => by cases h)) (h_nm (h_ne k1_11 c31 (fun h => by cases h)) h_n0)))) k1_11
  have k2_12 := fr2.at (h_nm (h_ne k1_12 k1_13 (fun h => by cases h)) (h_nm n_lR_a2 (h_nm n_lR_b2 (h_nm n_lR_len h_n0)))) k1_12
  have k2_13 := fr2.at (h_nm n_c1_c2 (h_nm (h_ne c01 k1_14 (fun h => by cases h)) (h_nm (h_ne c01 k1_15 (fun h => by cases h)) (h_nm (h_ne c01 c31 (fun h => by cases h)) h_n0)))) c01
  have k2_14 := fr2.at (h_nm (h_ne c11 k1_13 (fun h => by cases h)) (h_nm n_a1_a2 (h_nm n_a1_b2 (h_nm n_a1_len h_n0)))) c11
  have k2_15 := fr2.at (h_nm (h_ne c21 k1_13 (fun h => by cases h)) (h_nm n_b1_a2 (h_nm n_b1_b2 (h_nm n_b1_len h_n0)))) c21
  have fr := fr.call fr2 (by simp)
  refine lv_aload_n S0.1 S0.2.1 dMg_run_18 rfl (lv_at hl 0 rfl) ?_
  refine hw_get S0 hK hg k2_0 rfl inMg 0 (by decide) lf_Mg_14 rfl rfl dMg_run_19 ?_
  refine lv_iconst (v := nI 0) S0.1 S0.2.1 dMg_run_22 (by decide) ?_
  refine hw_put S0 hK hg hS k2_2 rfl inRo tyRo tokRo nmRo 1 (by decide) lf_Mg_54 rfl rfl rfl rfl (Nat.le_of_ble_eq_true rfl) dMg_run_23 (fun H locs hg hS => ?_)
  obtain ⟨g_3, eg_3⟩ : ∃ z, z = hs g_2 oc (.inr (5, [.ref lo, .int (nI 0)])) := ⟨_, rfl⟩
  have hg : hw D hC AX g_3 H := by rw [eg_3]; exact hg
  have f3_0 : g_3 mo = some (.inr (2, [.ref oc, .ref cc, .int cn0, .ref c1, .ref c2, .ref p1, .ref p2, .ref p3])) := by rw [eg_3, hs_n _ _ (h_ne k2_0 k2_2 (fun h => by simp at h))]; exact k2_0
  have f3_1 : g_3 cc = some (.inl (cI, 183, .inl fc)) := by rw [eg_3, hs_n _ _ (h_ne k2_1 k2_2 (fun h => by cases h))]; exact k2_1
  have f3_2 : g_3 lo = some (.inl (cI, 120, .inl fo)) := by rw [eg_3, hs_n _ _ (h_ne k2_3 k2_2 (fun h => by cases h))]; exact k2_3
  have f3_3 : g_3 p1 = some (.inr (3, [.ref z1, .int u1, .int v1])) := by rw [eg_3, hs_n _ _ (h_ne k2_4 k2_2 (fun h => by simp at h))]; exact k2_4
  have f3_4 : g_3 p2 = some (.inr (3, [.ref z2, .int u2, .int v2])) := by rw [eg_3, hs_n _ _ (h_ne k2_5 k2_2 (fun h => by simp at h))]; exact k2_5
  have f3_5 : g_3 p3 = some (.inr (3, [.ref z3, .int u3, .int v3])) := by rw [eg_3, hs_n _ _ (h_ne k2_6 k2_2 (fun h => by simp at h))]; exact k2_6
  have f3_6 : g_3 rB = some (.inr (5, [.ref lB, .int (nI bs.length)])) := by rw [eg_3, hs_n _ _ n_rB_oc]; exact k2_7
  have f3_7 : g_3 lB = some (.inl (cI, cB, .inl fB)) := by rw [eg_3, hs_n _ _ (h_ne k2_8 k2_2 (fun h => by cases h))]; exact k2_8
  have f3_8 : g_3 rL = some (.inr (5, [.ref lL, .int (nI lf.length)])) := by rw [eg_3, hs_n _ _ n_rL_oc]; exact k2_9
  have f3_9 : g_3 lL = some (.inl (cI, cL, .inl fL)) := by rw [eg_3, hs_n _ _ (h_ne k2_10 k2_2 (fun h => by cases h))]; exact k2_10
  have f3_10 : g_3 rR = some (.inr (5, [.ref lR, .int (nI rt.length)])) := by rw [eg_3, hs_n _ _ n_rR_oc]; exact k2_11
  have f3_11 : g_3 lR = some (.inl (cI, cR_, .inl fR)) := by rw [eg_3, hs_n _ _ (h_ne k2_12 k2_2 (fun h => by cases h))]; exact k2_12
  have f3_12 : g_3 c1 = some (.inr (0, [.ref a1, .ref b1, .int (nI ((prs bs lf bs.length).length)), .ref len])) := by rw [eg_3, hs_n _ _ (h_ne k2_13 k2_2 (fun h => by simp at h))]; exact k2_13
  have f3_13 : g_3 a1 = some (.inl (cI, 60, .inl A1)) := by rw [eg_3, hs_n _ _ (h_ne k2_14 k2_2 (fun h => by cases h))]; exact k2_14
  have f3_14 : g_3 b1 = some (.inl (cI, 60, .inl B1)) := by rw [eg_3, hs_n _ _ (h_ne k2_15 k2_2 (fun h => by cases h))]; exact k2_15
  have f3_15 : g_3 c2 = some (.inr (0, [.ref a2, .ref b2, .int (nI ((prs bs rt bs.length).length)), .ref len])) := by rw [eg_3, hs_n _ _ (h_ne c02 k2_2 (fun h => by simp at h))]; exact c02
  have f3_16 : g_3 a2 = some (.inl (cI, 60, .inl A2)) := by rw [eg_3, hs_n _ _ (h_ne c12 k2_2 (fun h => by cases h))]; exact c12
  have f3_17 : g_3 b2 = some (.inl (cI, 60, .inl B2)) := by rw [eg_3, hs_n _ _ (h_ne c22 k2_2 (fun h => by cases h))]; exact c22
  have f3_18 : g_3 len = some (.inl (cI, 3721, .inl L2)) := by rw [eg_3, hs_n _ _ (h_ne c32 k2_2 (fun h => by cases h))]; exact c32
  have f3_19 : g_3 oc = some (.inr (5, [.ref lo, .int (nI 0)])) := by rw [eg_3]; exact hs_s _ _ _
  have fr := fr.put eg_3 (by simp)
  refine lv_aload_n S0.1 S0.2.1 dMg_run_26 rfl (lv_at hl 0 rfl) ?_
  refine lv_iconst (v := nI 0) S0.1 S0.2.1 dMg_run_27 (by decide) ?_
  refine hw_put S0 hK hg hS f3_0 rfl inMg tyMg tokMg nmMg 2 (by decide) lf_Mg_24 rfl rfl rfl rfl (Nat.le_of_ble_eq_true rfl) dMg_run_28 (fun H locs hg hS => ?_)
  obtain ⟨g_4, eg_4⟩ : ∃ z, z = hs g_3 mo (.inr (2, [.ref oc, .ref cc, .int (nI 0), .ref c1, .ref c2, .ref p1, .ref p2, .ref p3])) := ⟨_, rfl⟩
  have hg : hw D hC AX g_4 H := by rw [eg_4]; exact hg
  have f4_0 : g_4 cc = some (.inl (cI, 183, .inl fc)) := by rw [eg_4, hs_n _ _ (h_ne f3_1 f3_0 (fun h => by cases h))]; exact f3_1
  have f4_1 : g_4 lo = some (.inl (cI, 120, .inl fo)) := by rw [eg_4, hs_n _ _ (h_ne f3_2 f3_0 (fun h => by cases h))]; exact f3_2
  have f4_2 : g_4 p1 = some (.inr (3, [.ref z1, .int u1, .int v1])) := by rw [eg_4, hs_n _ _ (h_ne f3_3 f3_0 (fun h => by simp at h))]; exact f3_3
  have f4_3 : g_4 p2 = some (.inr (3, [.ref z2, .int u2, .int v2])) := by rw [eg_4, hs_n _ _ (h_ne f3_4 f3_0 (fun h => by simp at h))]; exact f3_4
  have f4_4 : g_4 p3 = some (.inr (3, [.ref z3, .int u3, .int v3])) := by rw [eg_4, hs_n _ _ (h_ne f3_5 f3_0 (fun h => by simp at h))]; exact f3_5
  have f4_5 : g_4 rB = some (.inr (5, [.ref lB, .int (nI bs.length)])) := by rw [eg_4, hs_n _ _ (h_ne f3_6 f3_0 (fun h => by simp at h))]; exact f3_6
  have f4_6 : g_4 lB = some (.inl (cI, cB, .inl fB)) := by rw [eg_4, hs_n _ _ (h_ne f3_7 f3_0 (fun h => by cases h))]; exact f3_7
  have f4_7 : g_4 rL = some (.inr (5, [.ref lL, .int (nI lf.length)])) := by rw [eg_4, hs_n _ _ (h_ne f3_8 f3_0 (fun h => by simp at h))]; exact f3_8
  have f4_8 : g_4 lL = some (.inl (cI, cL, .inl fL)) := by rw [eg_4, hs_n _ _ (h_ne f3_9 f3_0 (fun h => by cases h))]; exact f3_9
  have f4_9 : g_4 rR = some (.inr (5, [.ref lR, .int (nI rt.length)])) := by rw [eg_4, hs_n _ _ (h_ne f3_10 f3_0 (fun h => by simp at h))]; exact f3_10
  have f4_10 : g_4 lR = some (.inl (cI, cR_, .inl fR)) := by rw [eg_4, hs_n _ _ (h_ne f3_11 f3_0 (fun h => by cases h))]; exact f3_11
  have f4_11 : g_4 c1 = some (.inr (0, [.ref a1, .ref b1, .int (nI ((prs bs lf bs.length).length)), .ref len])) := by rw [eg_4, hs_n _ _ (h_ne f3_12 f3_0 (fun h => by simp at h))]; exact f3_12
  have f4_12 : g_4 a1 = some (.inl (cI, 60, .inl A1)) := by rw [eg_4, hs_n _ _ (h_ne f3_13 f3_0 (fun h => by cases h))]; exact f3_13
  have f4_13 : g_4 b1 = some (.inl (cI, 60, .inl B1)) := by rw [eg_4, hs_n _ _ (h_ne f3_14 f3_0 (fun h => by cases h))]; exact f3_14
  have f4_14 : g_4 c2 = some (.inr (0, [.ref a2, .ref b2, .int (nI ((prs bs rt bs.length).length)), .ref len])) := by rw [eg_4, hs_n _ _ (h_ne f3_15 f3_0 (fun h => by simp at h))]; exact f3_15
  have f4_15 : g_4 a2 = some (.inl (cI, 60, .inl A2)) := by rw [eg_4, hs_n _ _ (h_ne f3_16 f3_0 (fun h => by cases h))]; exact f3_16
  have f4_16 : g_4 b2 = some (.inl (cI, 60, .inl B2)) := by rw [eg_4, hs_n _ _ (h_ne f3_17 f3_0 (fun h => by cases h))]; exact f3_17
  have f4_17 : g_4 len = some (.inl (cI, 3721, .inl L2)) := by rw [eg_4, hs_n _ _ (h_ne f3_18 f3_0 (fun h => by cases h))]; exact f3_18
  have f4_18 : g_4 oc = some (.inr (5, [.ref lo, .int (nI 0)])) := by rw [eg_4, hs_n _ _ (h_ne f3_19 f3_0 (fun h => by simp at h))]; exact f3_19
  have f4_19 : g_4 mo = some (.inr (2, [.ref oc, .ref cc, .int (nI 0), .ref c1, .ref c2, .ref p1, .ref p2, .ref p3])) := by rw [eg_4]; exact hs_s _ _ _
  have fr := fr.put eg_4 (by simp)
  refine lv_aload_n S0.1 S0.2.1 dMg_run_31 rfl (lv_at hl 0 rfl) ?_
  refine hw_get S0 hK hg f4_19 rfl inMg 5 (by decide) lf_Mg_38 rfl rfl dMg_run_32 ?_
  refine lv_aload_n S0.1 S0.2.1 dMg_run_35 rfl (lv_at hl 1 rfl) ?_
  refine hw_Vv (As := [.ref rB]) (rest := []) S0 hK hg hS hA0 f4_2 rfl (c_Pa_startOn l D cI cR cJ g_4 _ p1 rB _ _ _ f4_2) kPa_startOn lm_Mg_57 (hR.call rfl) rfl hl.1 rfl (Nat.le_of_ble_eq_true rfl) dMg_run_36 (hR.new (by decide) (by decide)) (fun g_5 H locs hp_36 hg hS => ?_)
  obtain ⟨frp1, sp1⟩ := hp_36
  have k5_0 := frp1.at (h_nm (h_ne f4_0 f4_2 (fun h => by cases h)) h_n0) f4_0
  have k5_1 := frp1.at (h_nm (h_ne f4_1 f4_2 (fun h => by cases h)) h_n0) f4_1
  have k5_2 := frp1.at (h_nm (Ne.symm n_p1_p2) h_n0) f4_3
  have k5_3 := frp1.at (h_nm (Ne.symm n_p1_p3) h_n0) f4_4
  have k5_4 := frp1.at (h_nm (h_ne f4_5 f4_2 (fun h => by simp at h)) h_n0) f4_5
  have k5_5 := frp1.at (h_nm (h_ne f4_6 f4_2 (fun h => by cases h)) h_n0) f4_6
  have k5_6 := frp1.at (h_nm (h_ne f4_7 f4_2 (fun h => by simp at h)) h_n0) f4_7
  have k5_7 := frp1.at (h_nm (h_ne f4_8 f4_2 (fun h => by cases h)) h_n0) f4_8
  have k5_8 := frp1.at (h_nm (h_ne f4_9 f4_2 (fun h => by simp at h)) h_n0) f4_9
  have k5_9 := frp1.at (h_nm (h_ne f4_10 f4_2 (fun h => by cases h)) h_n0) f4_10
  have k5_10 := frp1.at (h_nm (h_ne f4_11 f4_2 (fun h => by simp at h)) h_n0) f4_11
  have k5_11 := frp1.at (h_nm (h_ne f4_12 f4_2 (fun h => by cases h)) h_n0) f4_12
  have k5_12 := frp1.at (h_nm (h_ne f4_13 f4_2 (fun h => by cases h)) h_n0) f4_13
  have k5_13 := frp1.at (h_nm (h_ne f4_14 f4_2 (fun h => by simp at h)) h_n0) f4_14
  have k5_14 := frp1.at (h_nm (h_ne f4_15 f4_2 (fun h => by cases h)) h_n0) f4_15
  have k5_15 := frp1.at (h_nm (h_ne f4_16 f4_2 (fun h => by cases h)) h_n0) f4_16
  have k5_16 := frp1.at (h_nm (h_ne f4_17 f4_2 (fun h => by cases h)) h_n0) f4_17
  have k5_17 := frp1.at (h_nm (h_ne f4_18 f4_2 (fun h => by simp at h)) h_n0) f4_18
  have k5_18 := frp1.at (h_nm (h_ne f4_19 f4_2 (fun h => by simp at h)) h_n0) f4_19
  have fr := fr.call frp1 (by simp)
  refine lv_aload_n S0.1 S0.2.1 dMg_run_39 rfl (lv_at hl 0 rfl) ?_
  refine hw_get S0 hK hg k5_18 rfl inMg 6 (by decide) lf_Mg_42 rfl rfl dMg_run_40 ?_
  refine lv_aload_n S0.1 S0.2.1 dMg_run_43 rfl (lv_at hl 2 rfl) ?_
  refine hw_Vv (As := [.ref rL]) (rest := []) S0 hK hg hS hA0 k5_2 rfl (c_Pa_startOn l D cI cR cJ g_5 _ p2 rL _ _ _ k5_2) kPa_startOn lm_Mg_57 (hR.call rfl) rfl hl.1 rfl (Nat.le_of_ble_eq_true rfl) dMg_run_44 (hR.new (by decide) (by decide)) (fun g_6 H locs hp_44 hg hS => ?_)
  obtain ⟨frp2, sp2⟩ := hp_44
  have k6_0 := frp2.at (h_nm (h_ne k5_0 k5_2 (fun h => by cases h)) h_n0) k5_0
  have k6_1 := frp2.at (h_nm (h_ne k5_1 k5_2 (fun h => by cases h)) h_n0) k5_1
  have k6_2 := frp2.at (h_nm (Ne.symm n_p2_p3) h_n0) k5_3
  have k6_3 := frp2.at (h_nm (h_ne k5_4 k5_2 (fun h => by simp at h)) h_n0) k5_4
  have k6_4 := frp2.at (h_nm (h_ne k5_5 k5_2 (fun h => by cases h)) h_n0) k5_5
  have k6_5 := frp2.at (h_nm (h_ne k5_6 k5_2 (fun h => by simp at h)) h_n0) k5_6
  have k6_6 := frp2.at (h_nm (h_ne k5_7 k5_2 (fun h => by cases h)) h_n0) k5_7
  have k6_7 := frp2.at (h_nm (h_ne k5_8 k5_2 (fun h => by simp at h)) h_n0) k5_8
  have k6_8 := frp2.at (h_nm (h_ne k5_9 k5_2 (fun h => by cases h)) h_n0) k5_9
  have k6_9 := frp2.at (h_nm (h_ne k5_10 k5_2 (fun h => by simp at h)) h_n0) k5_10
  have k6_10 := frp2.at (h_nm (h_ne k5_11 k5_2 (fun h => by cases h)) h_n0) k5_11
  have k6_11 := frp2.at (h_nm (h_ne k5_12 k5_2 (fun h => by cases h)) h_n0) k5_12
  have k6_12 := frp2.at (h_nm (h_ne k5_13 k5_2 (fun h => by simp at h)) h_n0) k5_13
  have k6_13 := frp2.at (h_nm (h_ne k5_14 k5_2 (fun h => by cases h)) h_n0) k5_14
  have k6_14 := frp2.at (h_nm (h_ne k5_15 k5_2 (fun h => by cases h)) h_n0) k5_15
  have k6_15 := frp2.at (h_nm (h_ne k5_16 k5_2 (fun h => by cases h)) h_n0) k5_16
  have k6_16 := frp2.at (h_nm (h_ne k5_17 k5_2 (fun h => by simp at h)) h_n0) k5_17
  have k6_17 := frp2.at (h_nm (h_ne k5_18 k5_2 (fun h => by simp at h)) h_n0) k5_18
  have k6_18 := frp2.at (h_nm n_p1_p2 h_n0) sp1
  have fr := fr.call frp2 (by simp)
  refine lv_aload_n S0.1 S0.2.1 dMg_run_47 rfl (lv_at hl 0 rfl) ?_
  refine hw_get S0 hK hg k6_17 rfl inMg 7 (by decide) lf_Mg_45 rfl rfl dMg_run_48 ?_
  refine lv_aload_n S0.1 S0.2.1 dMg_run_51 rfl (lv_at hl 3 rfl) ?_
  refine hw_Vv (As := [.ref rR]) (rest := []) S0 hK hg hS hA0 k6_2 rfl (c_Pa_startOn l D cI cR cJ g_6 _ p3 rR _ _ _ k6_2) kPa_startOn lm_Mg_57 (hR.call rfl) rfl hl.1 rfl (Nat.le_of_ble_eq_true rfl) dMg_run_52 (hR.new (by decide) (by decide)) (fun g_7 H locs hp_52 hg hS => ?_)
  obtain ⟨frp3, sp3⟩ := hp_52
  have k7_0 := frp3.at (h_nm (h_ne k6_0 k6_2 (fun h => by cases h)) h_n0) k6_0
  have k7_1 := frp3.at (h_nm (h_ne k6_1 k6_2 (fun h => by cases h)) h_n0) k6_1
  have k7_2 := frp3.at (h_nm (h_ne k6_3 k6_2 (fun h => by simp at h)) h_n0) k6_3
  have k7_3 := frp3.at (h_nm (h_ne k6_4 k6_2 (fun h => by cases h)) h_n0) k6_4
  have k7_4 := frp3.at (h_nm (h_ne k6_5 k6_2 (fun h => by simp at h)) h_n0) k6_5
  have k7_5 := frp3.at (h_nm (h_ne k6_6 k6_2 (fun h => by cases h)) h_n0) k6_6
  have k7_6 := frp3.at (h_nm (h_ne k6_7 k6_2 (fun h => by simp at h)) h_n0) k6_7
  have k7_7 := frp3.at (h_nm (h_ne k6_8 k6_2 (fun h => by cases h)) h_n0) k6_8
  have k7_8 := frp3.at (h_nm (h_ne k6_9 k6_2 (fun h => by simp at h)) h_n0) k6_9
  have k7_9 := frp3.at (h_nm (h_ne k6_10 k6_2 (fun h => by cases h)) h_n0) k6_10
  have k7_10 := frp3.at (h_nm (h_ne k6_11 k6_2 (fun h => by cases h)) h_n0) k6_11
  have k7_11 := frp3.at (h_nm (h_ne k6_12 k6_2 (fun h => by simp at h)) h_n0) k6_12
  have k7_12 := frp3.at (h_nm (h_ne k6_13 k6_2 (fun h => by cases h)) h_n0) k6_13
  have k7_13 := frp3.at (h_nm (h_ne k6_14 k6_2 (fun h => by cases h)) h_n0) k6_14
  have k7_14 := frp3.at (h_nm (h_ne k6_15 k6_2 (fun h => by cases h)) h_n0) k6_15
  have k7_15 := frp3.at (h_nm (h_ne k6_16 k6_2 (fun h => by simp at h)) h_n0) k6_16
  have k7_16 := frp3.at (h_nm (h_ne k6_17 k6_2 (fun h => by simp at h)) h_n0) k6_17
  have k7_17 := frp3.at (h_nm n_p1_p3 h_n0) k6_18
  have k7_18 := frp3.at (h_nm n_p2_p3 h_n0) sp2
  have fr := fr.call frp3 (by simp)
  refine lv_aload_n S0.1 S0.2.1 dMg_run_55 rfl (lv_at hl 0 rfl) ?_
  refine lv_aload_n S0.1 S0.2.1 dMg_run_56 rfl (lv_at hl 1 rfl) ?_
  refine hw_Vv (As := [.ref rB]) (rest := []) S0 hK hg hS hA0 k7_16 rfl (c_Mg_mergeUpToAnchors l D cI cR cJ g_7 _ mo oc cc c1 c2 p1 p2 p3 lo rB lB cB rL lL cL rR lR cR_ bs lf rt fB fL fR fc fo k7_2 k7_3 eB hcB hdB k7_4 k7_5 eL hcL hdL k7_6 k7_7 eR hcR hdR n_rB_oc n_rL_oc n_rR_oc n_lB_cc n_lB_lo n_lL_cc n_lL_lo n_lR_cc n_lR_lo (Ne.symm n_cc_lo) n_p1_p2 n_p1_p3 n_p2_p3 a1 b1 a2 b2 len A1 B1 A2 B2 n_a1_cc n_a1_lo n_b1_cc n_b1_lo n_a2_cc n_a2_lo n_b2_cc n_b2_lo (prs bs lf bs.length) (prs bs rt bs.length) rfl rfl k7_8 k7_9 k7_10 c41 c51 k7_11 k7_12 k7_13 c42 c52 hb60 hl60 hr60 _ _ _ k7_16 k7_0 k7_15 k7_1 k7_17 k7_18 sp3) kMg_mergeUpToAnchors lm_Mg_61 (hR.call rfl) rfl hl.1 rfl (Nat.le_of_ble_eq_true rfl) dMg_run_57 (hR.new (by decide) (by decide)) (fun g_8 H locs hp_57 hg hS => ?_)
  obtain ⟨fru, x1, x2, x3, fcx, fox, m0, m1, m2, m3, m4, m5, m6, m7, m8⟩ := hp_57
  have k8_0 := fru.at (h_nm (h_ne k7_2 k7_16 (fun h => by simp at h)) (h_nm (h_ne k7_2 k7_0 (fun h => by cases h)) (h_nm n_rB_oc (h_nm (h_ne k7_2 k7_1 (fun h => by cases h)) (h_nm (h_ne k7_2 k7_17 (fun h => by simp at h)) (h_nm (h_ne k7_2 k7_18 (fun h => by simp at h)) (h_nm (h_ne k7_2 sp3 (fun h => by simp at h)) h_n0))))))) k7_2
  have k8_1 := fru.at (h_nm (h_ne k7_3 k7_16 (fun h => by cases h)) (h_nm n_lB_cc (h_nm (h_ne k7_3 k7_15 (fun h => by cases h)) (h_nm n_lB_lo (h_nm (h_ne k7_3 k7_17 (fun h => by cases h)) (h_nm (h_ne k7_3 k7_18 (fun h => by cases h)) (h_nm (h_ne k7_3 sp3 (fun h => by cases h)) h_n0))))))) k7_3
  have k8_2 := fru.at (h_nm (h_ne k7_4 k7_16 (fun h => by simp at h)) (h_nm (h_ne k7_4 k7_0 (fun h => by cases h)) (h_nm n_rL_oc (h_nm (h_ne k7_4 k7_1 (fun h => by cases h)) (h_nm (h_ne k7_4 k7_17 (fun h => by simp at h)) (h_nm (h_ne k7_4 k7_18 (fun h => by simp at h)) (h_nm (h_ne k7_4 sp3 (fun h => by simp at h)) h_n0))))))) k7_4
  have k8_3 := fru.at (h_nm (h_ne k7_5 k7_16 (fun h => by cases h)) (h_nm n_lL_cc (h_nm (h_ne k7_5 k7_15 (fun h => by cases h)) (h_nm n_lL_lo (h_nm (h_ne k7_5 k7_17 (fun h => by cases h)) (h_nm (h_ne k7_5 k7_18 (fun h => by cases h)) (h_nm (h_ne k7_5 sp3 (fun h => by cases h)) h_n0))))))) k7_5
  have k8_4 := fru.at (h_nm (h_ne k7_6 k7_16 (fun h => by simp at h)) (h_nm (h_ne k7_6 k7_0 (fun h => by cases h)) (h_nm n_rR_oc (h_nm (h_ne k7_6 k7_1 (fun h => by cases h)) (h_nm (h_ne k7_6 k7_17 (fun h => by simp at h)) (h_nm (h_ne k7_6 k7_18 (fun h => by simp at h)) (h_nm (h_ne k7_6 sp3 (fun h => by simp at h)) h_n0))))))) k7_6
  have k8_5 := fru.at (h_nm (h_ne k7_7 k7_16 (fun h => by cases h)) (h_nm n_lR_cc (h_nm (h_ne k7_7 k7_15 (fun h => by cases h)) (h_nm n_lR_lo (h_nm (h_ne k7_7 k7_17 (fun h => by cases h)) (h_nm (h_ne k7_7 k7_18 (fun h => by cases h)) (h_nm (h_ne k7_7 sp3 (fun h => by cases h)) h_n0))))))) k7_7
  have k8_6 := fru.at (h_nm (h_ne k7_8 k7_16 (fun h => by simp at h)) (h_nm (h_ne k7_8 k7_0 (fun h => by cases h)) (h_nm (h_ne k7_8 k7_15 (fun h => by simp at h)) (h_nm (h_ne k7_8 k7_1 (fun h => by cases h)) (h_nm (h_ne k7_8 k7_17 (fun h => by simp at h)) (h_nm (h_ne k7_8 k7_18 (fun h => by simp at h)) (h_nm (h_ne k7_8 sp3 (fun h => by simp at h)) h_n0))))))) k7_8
  have k8_7 := fru.at (h_nm (h_ne k7_9 k7_16 (fun h => by cases h)) (h_nm n_a1_cc (h_nm (h_ne k7_9 k7_15 (fun h => by cases h)) (h_nm n_a1_lo (h_nm (h_ne k7_9 k7_17 (fun h => by cases h)) (h_nm (h_ne k7_9 k7_18 (fun h => by cases h)) (h_nm (h_ne k7_9 sp3 (fun h => by cases h)) h_n0))))))) k7_9
  have k8_8 := fru.at (h_nm (h_ne k7_10 k7_16 (fun h => by cases h)) (h_nm n_b1_cc (h_nm (h_ne k7_10 k7_15 (fun h => by cases h)) (h_nm n_b1_lo (h_nm (h_ne k7_10 k7_17 (fun h => by cases h)) (h_nm (h_ne k7_10 k7_18 (fun h => by cases h)) (h_nm (h_ne k7_10 sp3 (fun h => by cases h)) h_n0))))))) k7_10
  have k8_9 := fru.at (h_nm (h_ne k7_11 k7_16 (fun h => by simp at h)) (h_nm (h_ne k7_11 k7_0 (fun h => by cases h)) (h_nm (h_ne k7_11 k7_15 (fun h => by simp at h)) (h_nm (h_ne k7_11 k7_1 (fun h => by cases h)) (h_nm (h_ne k7_11 k7_17 (fun h => by simp at h)) (h_nm (h_ne k7_11 k7_18 (fun h => by simp at h)) (h_nm (h_ne k7_11 sp3 (fun h => by simp at h)) h_n0))))))) k7_11
  have k8_10 := fru.at (h_nm (h_ne k7_12 k7_16 (fun h => by cases h)) (h_nm n_a2_cc (h_nm (h_ne k7_12 k7_15 (fun h => by cases h)) (h_nm n_a2_lo (h_nm (h_ne k7_12 k7_17 (fun h => by cases h)) (h_nm (h_ne k7_12 k7_18 (fun h => by cases h)) (h_nm (h_ne k7_12 sp3 (fun h => by cases h)) h_n0))))))) k7_12
  have k8_11 := fru.at (h_nm (h_ne k7_13 k7_16 (fun h => by cases h)) (h_nm n_b2_cc (h_nm (h_ne k7_13 k7_15 (fun h => by cases h)) (h_nm n_b2_lo (h_nm (h_ne k7_13 k7_17 (fun h => by cases h)) (h_nm (h_ne k7_13 k7_18 (fun h => by cases h)) (h_nm (h_ne k7_13 sp3 (fun h => by cases h)) h_n0))))))) k7_13
  have k8_12 := fru.at (h_nm (h_ne k7_14 k7_16 (fun h => by cases h)) (h_nm n_len_cc (h_nm (h_ne k7_14 k7_15 (fun h => by cases h)) (h_nm n_len_lo (h_nm (h_ne k7_14 k7_17 (fun h => by cases h)) (h_nm (h_ne k7_14 k7_18 (fun h => by cases h)) (h_nm (h_ne k7_14 sp3 (fun h => by cases h)) h_n0))))))) k7_14
  have fr := fr.call fru (by simp)
  have hin := mg_in bs lf rt bs.length
  have hf1 := fro_le bs lf bs.length
  have hf2 := fro_le bs rt bs.length
  refine lv_aload_n S0.1 S0.2.1 dMg_run_60 rfl (lv_at hl 0 rfl) ?_
  refine lv_aload_n S0.1 S0.2.1 dMg_run_61 rfl (lv_at hl 1 rfl) ?_
  refine hw_get S0 hK hg k8_0 rfl inRo 1 (by decide) lf_Mg_54 rfl rfl dMg_run_62 ?_
  refine lv_aload_n S0.1 S0.2.1 dMg_run_65 rfl (lv_at hl 2 rfl) ?_
  refine hw_get S0 hK hg k8_2 rfl inRo 1 (by decide) lf_Mg_54 rfl rfl dMg_run_66 ?_
  refine lv_aload_n S0.1 S0.2.1 dMg_run_69 rfl (lv_at hl 3 rfl) ?_
  refine hw_get S0 hK hg k8_4 rfl inRo 1 (by decide) lf_Mg_54 rfl rfl dMg_run_70 ?_
  refine hw_Vv (As := [.int (nI bs.length), .int (nI lf.length), .int (nI rt.length)]) (rest := []) S0 hK hg hS hA0 m0 rfl (c_Mg_mergeParts l D cI cR cJ g_8 _ mo oc cc c1 c2 p1 p2 p3 lo rB lB cB rL lL cL rR lR cR_ bs lf rt fB fL fR fcx fox k8_0 k8_1 eB hcB hdB k8_2 k8_3 eL hcL hdL k8_4 k8_5 eR hcR hdR n_rB_oc n_rL_oc n_rR_oc n_lB_cc n_lB_lo n_lL_cc n_lL_lo n_lR_cc n_lR_lo (Ne.symm n_cc_lo) n_p1_p2 n_p1_p3 n_p2_p3 (mg bs lf rt bs.length).1 bs.length (mg bs lf rt bs.length).2.1 lf.length (mg bs lf rt bs.length).2.2.1 rt.length x1 x2 x3 (mg bs lf rt bs.length).2.2.2 m0 m1 m2 m3 m4 m5 m6 m7 m8 (by omega) (Nat.le_refl _) (by omega) (Nat.le_refl _) (by omega) (Nat.le_refl _) (by omega) (by omega)) kMg_mergeParts lm_Mg_64 (hR.call rfl) rfl hl.1 rfl (Nat.le_of_ble_eq_true rfl) dMg_run_73 (hR.new (by decide) (by decide)) (fun g_9 H locs hp_73 hg hS => ?_)
  obtain ⟨frm, fc1, fo1, j0, j1, j2, j3, j4, j5, j6, j7, j8⟩ := hp_73
  have k9_0 := frm.at (h_nm (h_ne k8_0 m0 (fun h => by simp at h)) (h_nm (h_ne k8_0 m1 (fun h => by cases h)) (h_nm n_rB_oc (h_nm (h_ne k8_0 m3 (fun h => by cases h)) (h_nm (h_ne k8_0 m4 (fun h => by simp at h)) (h_nm (h_ne k8_0 m5 (fun h => by simp at h)) (h_nm (h_ne k8_0 m6 (fun h => by simp at h)) h_n0))))))) k8_0
  have k9_1 := frm.at (h_nm (h_ne k8_1 m0 (fun h => by cases h)) (h_nm n_lB_cc (h_nm (h_ne k8_1 m2 (fun h => by cases h)) (h_nm n_lB_lo (h_nm (h_ne k8_1 m4 (fun h => by cases h)) (h_nm (h_ne k8_1 m5 (fun h => by cases h)) (h_nm (h_ne k8_1 m6 (fun h => by cases h)) h_n0))))))) k8_1
  have k9_2 := frm.at (h_nm (h_ne k8_2 m0 (fun h => by simp at h)) (h_nm (h_ne k8_2 m1 (fun h => by cases h)) (h_nm n_rL_oc (h_nm (h_ne k8_2 m3 (fun h => by cases h)) (h_nm (h_ne k8_2 m4 (fun h => by simp at h)) (h_nm (h_ne k8_2 m5 (fun h => by simp at h)) (h_nm (h_ne k8_2 m6 (fun h => by simp at h)) h_n0))))))) k8_2
  have k9_3 := frm.at (h_nm (h_ne k8_3 m0 (fun h => by cases h)) (h_nm n_lL_cc (h_nm (h_ne k8_3 m2 (fun h => by cases h)) (h_nm n_lL_lo (h_nm (h_ne k8_3 m4 (fun h => by cases h)) (h_nm (h_ne k8_3 m5 (fun h => by cases h)) (h_nm (h_ne k8_3 m6 (fun h => by cases h)) h_n0))))))) k8_3
  have k9_4 := frm.at (h_nm (h_ne k8_4 m0 (fun h => by simp at h)) (h_nm (h_ne k8_4 m1 (fun h => by cases h)) (h_nm n_rR_oc (h_nm (h_ne k8_4 m3 (fun h => by cases h)) (h_nm (h_ne k8_4 m4 (fun h => by simp at h)) (h_nm (h_ne k8_4 m5 (fun h => by simp at h)) (h_nm (h_ne k8_4 m6 (fun h => by simp at h)) h_n0))))))) k8_4
  have k9_5 := frm.at (h_nm (h_ne k8_5 m0 (fun h => by cases h)) (h_nm n_lR_cc (h_nm (h_ne k8_5 m2 (fun h => by cases h)) (h_nm n_lR_lo (h_nm (h_ne k8_5 m4 (fun h => by cases h)) (h_nm (h_ne k8_5 m5 (fun h => by cases h)) (h_nm (h_ne k8_5 m6 (fun h => by cases h)) h_n0))))))) k8_5
  have k9_6 := frm.at (h_nm (h_ne k8_6 m0 (fun h => by simp at h)) (h_nm (h_ne k8_6 m1 (fun h => by cases h)) (h_nm (h_ne k8_6 m2 (fun h => by simp at h)) (h_nm (h_ne k8_6 m3 (fun h => by cases h)) (h_nm (h_ne k8_6 m4 (fun h => by simp at h)) (h_nm (h_ne k8_6 m5 (fun h => by simp at h)) (h_nm (h_ne k8_6 m6 (fun h => by simp at h)) h_n0))))))) k8_6
  have k9_7 := frm.at (h_nm (h_ne k8_7 m0 (fun h => by cases h)) (h_nm n_a1_cc (h_nm (h_ne k8_7 m2 (fun h => by cases h)) (h_nm n_a1_lo (h_nm (h_ne k8_7 m4 (fun h => by cases h)) (h_nm (h_ne k8_7 m5 (fun h => by cases h)) (h_nm (h_ne k8_7 m6 (fun h => by cases h)) h_n0))))))) k8_7
  have k9_8 := frm.at (h_nm (h_ne k8_8 m0 (fun h => by cases h)) (h_nm n_b1_cc (h_nm (h_ne k8_8 m2 (fun h => by cases h)) (h_nm n_b1_lo (h_nm (h_ne k8_8 m4 (fun h => by cases h)) (h_nm (h_ne k8_8 m5 (fun h => by cases h)) (h_nm (h_ne k8_8 m6 (fun h => by cases h)) h_n0))))))) k8_8
  have k9_9 := frm.at (h_nm (h_ne k8_9 m0 (fun h => by simp at h)) (h_nm (h_ne k8_9 m1 (fun h => by cases h)) (h_nm (h_ne k8_9 m2 (fun h => by simp at h)) (h_nm (h_ne k8_9 m3 (fun h => by cases h)) (h_nm (h_ne k8_9 m4 (fun h => by simp at h)) (h_nm (h_ne k8_9 m5 (fun h => by simp at h)) (h_nm (h_ne k8_9 m6 (fun h => by simp at h)) h_n0))))))) k8_9
  have k9_10 := frm.at (h_nm (h_ne k8_10 m0 (fun h => by cases h)) (h_nm n_a2_cc (h_nm (h_ne k8_10 m2 (fun h => by cases h)) (h_nm n_a2_lo (h_nm (h_ne k8_10 m4 (fun h => by cases h)) (h_nm (h_ne k8_10 m5 (fun h => by cases h)) (h_nm (h_ne k8_10 m6 (fun h => by cases h)) h_n0))))))) k8_10
  have k9_11 := frm.at (h_nm (h_ne k8_11 m0 (fun h => by cases h)) (h_nm n_b2_cc (h_nm (h_ne k8_11 m2 (fun h => by cases h)) (h_nm n_b2_lo (h_nm (h_ne k8_11 m4 (fun h => by cases h)) (h_nm (h_ne k8_11 m5 (fun h => by cases h)) (h_nm (h_ne k8_11 m6 (fun h => by cases h)) h_n0))))))) k8_11
  have k9_12 := frm.at (h_nm (h_ne k8_12 m0 (fun h => by cases h)) (h_nm n_len_cc (h_nm (h_ne k8_12 m2 (fun h => by cases h)) (h_nm n_len_lo (h_nm (h_ne k8_12 m4 (fun h => by cases h)) (h_nm (h_ne k8_12 m5 (fun h => by cases h)) (h_nm (h_ne k8_12 m6 (fun h => by cases h)) h_n0))))))) k8_12
  have fr := fr.call frm (by simp)
  exact hend _ _ _ _ _ _ _ (by decide) (by decide) (⟨fr, fc1, fo1, _, _, _, _, _, _, _, _, _, _, _, _, _, j0, j1, j2, j3, j4, j5, j6, k9_6, k9_7, k9_8, k9_9, k9_10, k9_11, k9_12, j7, j8⟩) hg hS dMg_run_76
