/-! PARTS, MERGING -/
theorem pt_same {xs ys : List Int32} {i1 j1 i2 j2 : Nat} (h1 : j1 ≤ xs.length) (h2 : j2 ≤ ys.length) (hl : j1 - i1 = j2 - i2) (h : ∀ q, q < j1 - i1 → xs.getD (i1 + q) 0 = ys.getD (i2 + q) 0) : pt xs i1 j1 = pt ys i2 j2 := by
  refine l_ext0 (by rw [pt_len h1, pt_len h2, hl]) (fun q hq => ?_)
  rw [pt_len h1] at hq
  rw [pt_get h1 hq, pt_get h2 (by omega)]
  exact h q hq
theorem pt_diff {xs ys : List Int32} {i1 j1 i2 j2 k : Nat} (h1 : j1 ≤ xs.length) (h2 : j2 ≤ ys.length) (hl : j1 - i1 = j2 - i2) (hk : k < j1 - i1) (h : ¬ xs.getD (i1 + k) 0 = ys.getD (i2 + k) 0) : ¬ pt xs i1 j1 = pt ys i2 j2 := fun e => h (by rw [← pt_get h1 hk, e, pt_get h2 (by omega)])
theorem pt_lens {xs ys : List Int32} {i1 j1 i2 j2 : Nat} (h1 : j1 ≤ xs.length) (h2 : j2 ≤ ys.length) (hl : ¬ j1 - i1 = j2 - i2) : ¬ pt xs i1 j1 = pt ys i2 j2 := fun e => hl (by rw [← pt_len h1, e, pt_len h2])
theorem anchor_none {bs rt : List Int32} {n ry pl : Nat} (h : pl < n) (hlt : ∀ (k : Nat) (p : Nat × Nat), k < ry → (prs bs rt n)[k]? = some p → p.1 < pl) (hge : ∀ p : Nat × Nat, (prs bs rt n)[ry]? = some p → pl < p.1) : pn bs rt pl = none := by
  cases e : pn bs rt pl with
  | none => rfl
  | some j =>
    obtain ⟨k, hk⟩ := List.getElem?_of_mem (prs_has h e)
    rcases Nat.lt_or_ge k ry with h9 | h9
    · exact absurd (hlt k _ h9 hk) (Nat.lt_irrefl _)
    · rcases Nat.lt_or_ge ry k with h8 | h8
      · have hl : ry < (prs bs rt n).length := Nat.lt_trans h8 (List.getElem?_eq_some_iff.mp hk).1
        have hq := List.getElem?_eq_getElem hl
        have a1 := hge _ hq
        have a2 := prs_lt h8 hq hk
        exact absurd (Nat.lt_trans a1 a2) (Nat.lt_irrefl _)
      · have e9 : k = ry := by omega
        subst e9
        exact absurd (hge _ hk) (Nat.lt_irrefl _)
theorem mg_at {bs lf rt : List Int32} {i p : Nat} (e : prs bs lf i = prs bs lf p) : mg bs lf rt i = mg bs lf rt p := by
  rcases Nat.le_total i p with h | h
  · exact mg_same h e
  · exact (mg_same h e.symm).symm
set_option maxRecDepth 100000 in
set_option maxHeartbeats 4000000 in
theorem c_Pa_startOn (l : Launch) (D : va_G) (cI cR cJ : ClassId) (g : Nat → Option va_E) (sz : Nat) (pq r r0 : Nat) (x y : Int32) (h0 : g pq = some (.inr (3, [.ref r0, .int x, .int y]))) : hMv l yPa_startOn cPa_startOn 2 (hRm 0 0 0 0) D (hT cI cR cJ) g sz [.ref pq, .ref r] (fun g1 => hfr g g1 [pq] ∧ g1 pq = some (.inr (3, [.ref r, .int (nI 0), .int (nI 0)]))) := by
  refine hMv_of (by decide +kernel) (Nat.le_of_ble_eq_true rfl) ?_
  intro pX eX RX sX mX argsX belowX methX cX QX AX hR S0 hnm hsz hg hK hS hA0 hend ls hl
  have hl : lv_has ls 2 [(0, .ref pq), (1, .ref r)] := hl
  have fr : hfr g g [pq] := hfr.rf
  refine lv_aload_n S0.1 S0.2.1 dPa_startOn_0 rfl (lv_at hl 0 rfl) ?_
  refine lv_aload_n S0.1 S0.2.1 dPa_startOn_1 rfl (lv_at hl 1 rfl) ?_
  refine hw_put S0 hK hg hS h0 rfl inPa tyPa tokPa nmPa 0 (by decide) lf_Pa_12 rfl rfl rfl rfl (Nat.le_of_ble_eq_true rfl) dPa_startOn_2 (fun H locs hg hS => ?_)
  obtain ⟨g_1, eg_1⟩ : ∃ z, z = hs g pq (.inr (3, [.ref r, .int x, .int y])) := ⟨_, rfl⟩
  have hg : hw D hC AX g_1 H := by rw [eg_1]; exact hg
  have f1_0 : g_1 pq = some (.inr (3, [.ref r, .int x, .int y])) := by rw [eg_1]; exact hs_s _ _ _
  have fr := fr.put eg_1 (by simp)
  refine lv_aload_n S0.1 S0.2.1 dPa_startOn_5 rfl (lv_at hl 0 rfl) ?_
  refine lv_iconst (v := nI 0) S0.1 S0.2.1 dPa_startOn_6 (by decide) ?_
  refine hw_put S0 hK hg hS f1_0 rfl inPa tyPa tokPa nmPa 1 (by decide) lf_Pa_18 rfl rfl rfl rfl (Nat.le_of_ble_eq_true rfl) dPa_startOn_7 (fun H locs hg hS => ?_)
  obtain ⟨g_2, eg_2⟩ : ∃ z, z = hs g_1 pq (.inr (3, [.ref r, .int (nI 0), .int y])) := ⟨_, rfl⟩
  have hg : hw D hC AX g_2 H := by rw [eg_2]; exact hg
  have f2_0 : g_2 pq = some (.inr (3, [.ref r, .int (nI 0), .int y])) := by rw [eg_2]; exact hs_s _ _ _
  have fr := fr.put eg_2 (by simp)
  refine lv_aload_n S0.1 S0.2.1 dPa_startOn_10 rfl (lv_at hl 0 rfl) ?_
  refine lv_iconst (v := nI 0) S0.1 S0.2.1 dPa_startOn_11 (by decide) ?_
  refine hw_put S0 hK hg hS f2_0 rfl inPa tyPa tokPa nmPa 2 (by decide) lf_Pa_22 rfl rfl rfl rfl (Nat.le_of_ble_eq_true rfl) dPa_startOn_12 (fun H locs hg hS => ?_)
  obtain ⟨g_3, eg_3⟩ : ∃ z, z = hs g_2 pq (.inr (3, [.ref r, .int (nI 0), .int (nI 0)])) := ⟨_, rfl⟩
  have hg : hw D hC AX g_3 H := by rw [eg_3]; exact hg
  have f3_0 : g_3 pq = some (.inr (3, [.ref r, .int (nI 0), .int (nI 0)])) := by rw [eg_3]; exact hs_s _ _ _
  have fr := fr.put eg_3 (by simp)
  exact hend _ _ _ _ _ _ _ (by decide) (by decide) (⟨fr, f3_0⟩) hg hS dPa_startOn_15
set_option maxRecDepth 100000 in
set_option maxHeartbeats 4000000 in
theorem c_Pa_stepOverAnchor (l : Launch) (D : va_G) (cI cR cJ : ClassId) (g : Nat → Option va_E) (sz : Nat) (pq r0 n : Nat) (x : Int32) (h0 : g pq = some (.inr (3, [.ref r0, .int x, .int (nI n)]))) : hMv l yPa_stepOverAnchor cPa_stepOverAnchor 1 (hRm 0 0 0 0) D (hT cI cR cJ) g sz [.ref pq] (fun g1 => hfr g g1 [pq] ∧ g1 pq = some (.inr (3, [.ref r0, .int (nI (n + 1)), .int (nI n)]))) := by
  refine hMv_of (by decide +kernel) (Nat.le_of_ble_eq_true rfl) ?_
  intro pX eX RX sX mX argsX belowX methX cX QX AX hR S0 hnm hsz hg hK hS hA0 hend ls hl
  have hl : lv_has ls 1 [(0, .ref pq)] := hl
  have fr : hfr g g [pq] := hfr.rf
  refine lv_aload_n S0.1 S0.2.1 dPa_stepOverAnchor_0 rfl (lv_at hl 0 rfl) ?_
  refine lv_aload_n S0.1 S0.2.1 dPa_stepOverAnchor_1 rfl (lv_at hl 0 rfl) ?_
  refine hw_get S0 hK hg h0 rfl inPa 2 (by decide) lf_Pa_22 rfl rfl dPa_stepOverAnchor_2 ?_
  refine lv_iconst (v := nI 1) S0.1 S0.2.1 dPa_stepOverAnchor_5 (by decide) ?_
  refine lv_iadd S0.1 S0.2.1 dPa_stepOverAnchor_6 ?_
  refine hw_top (nI (n + 1)) (nI_add _ _) ?_
  refine hw_put S0 hK hg hS h0 rfl inPa tyPa tokPa nmPa 1 (by decide) lf_Pa_18 rfl rfl rfl rfl (Nat.le_of_ble_eq_true rfl) dPa_stepOverAnchor_7 (fun H locs hg hS => ?_)
  obtain ⟨g_1, eg_1⟩ : ∃ z, z = hs g pq (.inr (3, [.ref r0, .int (nI (n + 1)), .int (nI n)])) := ⟨_, rfl⟩
  have hg : hw D hC AX g_1 H := by rw [eg_1]; exact hg
  have f1_0 : g_1 pq = some (.inr (3, [.ref r0, .int (nI (n + 1)), .int (nI n)])) := by rw [eg_1]; exact hs_s _ _ _
  have fr := fr.put eg_1 (by simp)
  exact hend _ _ _ _ _ _ _ (by decide) (by decide) (⟨fr, f1_0⟩) hg hS dPa_stepOverAnchor_10
set_option maxRecDepth 100000 in
set_option maxHeartbeats 4000000 in
theorem c_Pa_length (l : Launch) (D : va_G) (cI cR cJ : ClassId) (g : Nat → Option va_E) (sz : Nat) (pq r0 i j : Nat) (hij : i ≤ j) (h0 : g pq = some (.inr (3, [.ref r0, .int (nI i), .int (nI j)]))) : hMi l yPa_length cPa_length 1 .int (hRm 0 0 0 0) D (hT cI cR cJ) g sz [.ref pq] (fun o g1 => g1 = g ∧ o = nI (j - i)) := by
  refine hMi_of (by decide +kernel) (Nat.le_of_ble_eq_true rfl) ?_
  intro pX eX RX sX mX argsX belowX methX cX QX AX hR S0 hnm hsz hg hK hS hA0 hend ls hl
  have hl : lv_has ls 1 [(0, .ref pq)] := hl
  refine lv_aload_n S0.1 S0.2.1 dPa_length_0 rfl (lv_at hl 0 rfl) ?_
  refine hw_get S0 hK hg h0 rfl inPa 2 (by decide) lf_Pa_22 rfl rfl dPa_length_1 ?_
  refine lv_aload_n S0.1 S0.2.1 dPa_length_4 rfl (lv_at hl 0 rfl) ?_
  refine hw_get S0 hK hg h0 rfl inPa 1 (by decide) lf_Pa_18 rfl rfl dPa_length_5 ?_
  refine lv_isub S0.1 S0.2.1 dPa_length_8 ?_
  refine hw_top (nI (j - i)) (pk_sub (by omega)) ?_
  exact hend _ _ _ _ _ _ _ _ (by decide) (by decide) rfl (⟨rfl, rfl⟩) hg hS dPa_length_9
set_option maxRecDepth 100000 in
set_option maxHeartbeats 4000000 in
theorem c_Pa_isLike (l : Launch) (D : va_G) (cI cR cJ : ClassId) (g : Nat → Option va_E) (sz : Nat) (p1 r1 l1 c1 i1 j1 p2 r2 l2 c2 i2 j2 : Nat) (xs ys : List Int32) (f1 f2 : Nat → Int32) (h0 : g p1 = some (.inr (3, [.ref r1, .int (nI i1), .int (nI j1)]))) (h1 : g r1 = some (.inr (5, [.ref l1, .int (nI xs.length)]))) (h2 : g l1 = some (.inl (cI, c1, .inl f1))) (h3 : g p2 = some (.inr (3, [.ref r2, .int (nI i2), .int (nI j2)]))) (h4 : g r2 = some (.inr (5, [.ref l2, .int (nI ys.length)]))) (h5 : g l2 = some (.inl (cI, c2, .inl f2))) (ex : rp f1 xs) (ey : rp f2 ys) (hi1 : i1 ≤ j1) (hj1 : j1 ≤ xs.length) (hc1 : xs.length ≤ c1) (hd1 : c1 < 4000) (hi2 : i2 ≤ j2) (hj2 : j2 ≤ ys.length) (hc2 : ys.length ≤ c2) (hd2 : c2 < 4000) : hMi l yPa_isLike cPa_isLike 3 .boolean (hRm 1 22 0 0) D (hT cI cR cJ) g sz [.ref p1, .ref p2] (fun o g1 => g1 = g ∧ ((o = nI 1 ∧ pt xs i1 j1 = pt ys i2 j2) ∨ (o = nI 0 ∧ ¬ pt xs i1 j1 = pt ys i2 j2))) := by
  refine hMi_of (by decide +kernel) (Nat.le_of_ble_eq_true rfl) ?_
  intro pX eX RX sX mX argsX belowX methX cX QX AX hR S0 hnm hsz hg hK hS hA0 hend ls hl
  have hl : lv_has ls 3 [(0, .ref p1), (1, .ref p2)] := hl
  refine lv_aload_n S0.1 S0.2.1 dPa_isLike_0 rfl (lv_at hl 0 rfl) ?_
  refine hw_Vi (As := []) (rest := []) S0 hK hg hS hA0 h0 rfl (c_Pa_length l D cI cR cJ g _ p1 _ _ _ hi1 h0) kPa_length lm_Pa_25 (hR.call rfl) rfl hl.1 rfl (Nat.le_of_ble_eq_true rfl) dPa_isLike_1 (hR.new (by decide) (by decide)) (fun r_1 g_1 H locs hp_1 hg hS => ?_)
  rw [hp_1.1] at hg
  replace hp_1 := hp_1.2
  subst hp_1
  refine lv_aload_n S0.1 S0.2.1 dPa_isLike_4 rfl (lv_at hl 1 rfl) ?_
  refine hw_Vi (As := []) (rest := [.int (nI (j1 - i1))]) S0 hK hg hS hA0 h3 rfl (c_Pa_length l D cI cR cJ g _ p2 _ _ _ hi2 h3) kPa_length lm_Pa_25 (hR.call rfl) rfl hl.1 rfl (Nat.le_of_ble_eq_true rfl) dPa_isLike_5 (hR.new (by decide) (by decide)) (fun r_5 g_2 H locs hp_5 hg hS => ?_)
  rw [hp_5.1] at hg
  replace hp_5 := hp_5.2
  subst hp_5
  refine lv_icmp_eq (tgt := 13) S0.1 S0.2.1 dPa_isLike_8 (by decide) (fun c_8 => ?_) (fun c_8 => ?_)
  · skip
    have c_8 : (j1 - i1) = (j2 - i2) := (nI_eq (by omega) (by omega)).mp c_8
    refine lv_aload_n S0.1 S0.2.1 dPa_isLike_13 rfl (lv_at hl 0 rfl) ?_
    refine hw_get S0 hK hg h0 rfl inPa 1 (by decide) lf_Pa_18 rfl rfl dPa_isLike_14 ?_
    refine lv_istore_n (lv' := [(2, .int (nI i1)), (0, .ref p1), (1, .ref p2)]) S0.1 S0.2.1 dPa_isLike_17 rfl hl (by decide) rfl (fun ls hl => ?_)
    have loop_18 : ∀ (n_18 : Nat) (t : Nat) (H : Heap) (locs : List Loc) (ls : Array Slot), j1 - (i1 + t) < n_18 → (i1 + t ≤ j1) → (∀ q, q < t → xs.getD (i1 + q) 0 = ys.getD (i2 + q) 0) → hw D hC AX g H → va_S AX sX.heap H locs → lv_has ls 3 [(0, .ref p1), (1, .ref p2), (2, .int (nI (i1 + t)))] → W pX l eX RX sX mX argsX belowX methX cX H locs 0 0 QX (F0 mX 18 ls []) := by
      intro n_18
      induction n_18 with
      | zero => intros; omega
      | succ n_18 ih_18 =>
        intro t H locs ls hm_18 ht hall hg hS hl
        refine lv_iload_n S0.1 S0.2.1 dPa_isLike_18 rfl (lv_at hl 2 rfl) ?_
        refine lv_aload_n S0.1 S0.2.1 dPa_isLike_19 rfl (lv_at hl 0 rfl) ?_
        refine hw_get S0 hK hg h0 rfl inPa 2 (by decide) lf_Pa_22 rfl rfl dPa_isLike_20 ?_
        refine lv_icmp_ge (tgt := 75) S0.1 S0.2.1 dPa_isLike_23 (by decide) (fun c_23 => ?_) (fun c_23 => ?_)
        · skip
          have c_23 : j1 ≤ (i1 + t) := (nI_leI (by omega) (by omega)).mp c_23
          refine lv_iconst (v := nI 1) S0.1 S0.2.1 dPa_isLike_75 (by decide) ?_
          exact hend _ _ _ _ _ _ _ _ (by decide) (by decide) rfl (⟨rfl, Or.inl ⟨rfl, pt_same hj1 hj2 c_8 (fun q h => hall q (by omega))⟩⟩) hg hS dPa_isLike_76
        · skip
          have c_23 : ¬ (j1 ≤ (i1 + t)) := fun h => c_23 ((nI_leI (by omega) (by omega)).mpr h)
          refine lv_iload_n S0.1 S0.2.1 dPa_isLike_26 rfl (lv_at hl 2 rfl) ?_
          refine lv_aload_n S0.1 S0.2.1 dPa_isLike_27 rfl (lv_at hl 0 rfl) ?_
          refine hw_get S0 hK hg h0 rfl inPa 0 (by decide) lf_Pa_12 rfl rfl dPa_isLike_28 ?_
          refine hw_get S0 hK hg h1 rfl inRo 1 (by decide) lf_Pa_29 rfl rfl dPa_isLike_31 ?_
          refine lv_icmp_ge (tgt := 75) S0.1 S0.2.1 dPa_isLike_34 (by decide) (fun c_34 => ?_) (fun c_34 => ?_)
          · skip
            have c_34 : xs.length ≤ (i1 + t) := (nI_leI (by omega) (by omega)).mp c_34
            omega
          · skip
            have c_34 : ¬ (xs.length ≤ (i1 + t)) := fun h => c_34 ((nI_leI (by omega) (by omega)).mpr h)
            refine lv_aload_n S0.1 S0.2.1 dPa_isLike_37 rfl (lv_at hl 1 rfl) ?_
            refine hw_get S0 hK hg h3 rfl inPa 0 (by decide) lf_Pa_12 rfl rfl dPa_isLike_38 ?_
            refine lv_aload_n S0.1 S0.2.1 dPa_isLike_41 rfl (lv_at hl 1 rfl) ?_
            refine hw_get S0 hK hg h3 rfl inPa 1 (by decide) lf_Pa_18 rfl rfl dPa_isLike_42 ?_
            refine lv_iload_n S0.1 S0.2.1 dPa_isLike_45 rfl (lv_at hl 2 rfl) ?_
            refine lv_iadd S0.1 S0.2.1 dPa_isLike_46 ?_
            refine hw_top (nI (i2 + (i1 + t))) (nI_add _ _) ?_
            refine lv_aload_n S0.1 S0.2.1 dPa_isLike_47 rfl (lv_at hl 0 rfl) ?_
            refine hw_get S0 hK hg h0 rfl inPa 1 (by decide) lf_Pa_18 rfl rfl dPa_isLike_48 ?_
            refine lv_isub S0.1 S0.2.1 dPa_isLike_51 ?_
            refine hw_top (nI (i2 + t)) (by rw [pk_sub (by omega), show i2 + (i1 + t) - i1 = i2 + t by omega]) ?_
            refine lv_aload_n S0.1 S0.2.1 dPa_isLike_52 rfl (lv_at hl 0 rfl) ?_
            refine hw_get S0 hK hg h0 rfl inPa 0 (by decide) lf_Pa_12 rfl rfl dPa_isLike_53 ?_
            refine hw_get S0 hK hg h1 rfl inRo 0 (by decide) lf_Pa_32 rfl rfl dPa_isLike_56 ?_
            refine lv_iload_n S0.1 S0.2.1 dPa_isLike_59 rfl (lv_at hl 2 rfl) ?_
            refine hw_iald S0 hK hg h2 0 rfl (by omega) (by omega) dPa_isLike_60 ?_
            refine hw_Vi (As := [.int (nI (i2 + t)), .int (f1 (i1 + t))]) (rest := []) S0 hK hg hS hA0 h4 rfl (c_Ro_hasAt l D cI cR cJ g _ r2 l2 ys.length c2 f2 (nI (i2 + t)) (f1 (i1 + t)) h4 h5 hc2 hd2) kRo_hasAt lm_Pa_36 (hR.call rfl) rfl hl.1 rfl (Nat.le_of_ble_eq_true rfl) dPa_isLike_61 (hR.new (by decide) (by decide)) (fun r_61 g_3 H locs hp_61 hg hS => ?_)
            rw [hp_61.1] at hg
            replace hp_61 := hp_61.2
            rcases hp_61 with ⟨ho, hq⟩ | ⟨ho, hq⟩
            · skip
              subst ho
              have hln : xs.getD (i1 + t) 0 = ys.getD (i2 + t) 0 := by obtain ⟨k9, b1, b2, b3⟩ := hq; rw [← (nI_eq (by omega) (by omega)).mp b2, ex (i1 + t) (by omega), ey (i2 + t) (by omega)] at b3; exact b3.symm
              refine lv_if_ne (tgt := 69) S0.1 S0.2.1 dPa_isLike_64 (by decide) (fun c_64 => ?_) (fun c_64 => ?_)
              · skip
                refine lv_iinc (v := nI (i1 + t + 1)) (lv' := [(2, .int (nI (i1 + t + 1))), (0, .ref p1), (1, .ref p2)]) S0.1 S0.2.1 dPa_isLike_69 hl (k := 2) rfl (by exact nI_add _ 1) (by decide) rfl (fun ls hl => ?_)
                refine lv_goto (tgt := 18) S0.1 S0.2.1 dPa_isLike_72 (by decide) ?_
                exact ih_18 (t + 1) _ _ _ (by omega) (by omega) (fun q h => by rcases Nat.lt_or_ge q t with h9 | h9; exact hall q h9; rw [show q = t by omega]; exact hln) hg hS (lv_sub hl [1, 2, 0] rfl)
              · skip
                exact absurd c_64 (by decide)
            · skip
              subst ho
              have hln : ¬ xs.getD (i1 + t) 0 = ys.getD (i2 + t) 0 := fun h => hq ⟨i2 + t, by omega, rfl, by rw [ex (i1 + t) (by omega), ey (i2 + t) (by omega)]; exact h.symm⟩
              refine lv_if_ne (tgt := 69) S0.1 S0.2.1 dPa_isLike_64 (by decide) (fun c_64 => ?_) (fun c_64 => ?_)
              · skip
                exact absurd c_64 (by decide)
              · skip
                refine lv_iconst (v := nI 0) S0.1 S0.2.1 dPa_isLike_67 (by decide) ?_
                exact hend _ _ _ _ _ _ _ _ (by decide) (by decide) rfl (⟨rfl, Or.inr ⟨rfl, pt_diff hj1 hj2 c_8 (by omega) hln⟩⟩) hg hS dPa_isLike_68
    exact loop_18 _ 0 _ _ _ (Nat.lt_succ_self _) (by omega) (fun q h => absurd h (Nat.not_lt_zero q)) hg hS (lv_sub hl [1, 2, 0] rfl)
  · skip
    have c_8 : ¬ ((j1 - i1) = (j2 - i2)) := fun h => c_8 ((nI_eq (by omega) (by omega)).mpr h)
    refine lv_iconst (v := nI 0) S0.1 S0.2.1 dPa_isLike_11 (by decide) ?_
    exact hend _ _ _ _ _ _ _ _ (by decide) (by decide) rfl (⟨rfl, Or.inr ⟨rfl, pt_lens hj1 hj2 c_8⟩⟩) hg hS dPa_isLike_12
set_option maxRecDepth 100000 in
set_option maxHeartbeats 4000000 in
theorem c_Mg_take (l : Launch) (D : va_G) (cI cR cJ : ClassId) (g : Nat → Option va_E) (sz : Nat) (mo oc cc c1 c2 p1 p2 p3 lo pq r lr cr i j : Nat) (cn : Int32) (ot xs : List Int32) (fo fr_ : Nat → Int32) (h0 : g mo = some (.inr (2, [.ref oc, .ref cc, .int cn, .ref c1, .ref c2, .ref p1, .ref p2, .ref p3]))) (h1 : g oc = some (.inr (5, [.ref lo, .int (nI ot.length)]))) (h2 : g lo = some (.inl (cI, 120, .inl fo))) (h3 : g pq = some (.inr (3, [.ref r, .int (nI i), .int (nI j)]))) (h4 : g r = some (.inr (5, [.ref lr, .int (nI xs.length)]))) (h5 : g lr = some (.inl (cI, cr, .inl fr_))) (eo : rp fo ot) (ex : rp fr_ xs) (hro : r ≠ oc) (hlo : lr ≠ lo) (hi : i ≤ j) (hj : j ≤ xs.length) (hcr : xs.length ≤ cr) (hdr : cr < 4000) (hol : ot.length + (j - i) ≤ 120) : hMv l yMg_take cMg_take 2 (hRm 2 45 0 0) D (hT cI cR cJ) g sz [.ref mo, .ref pq] (fun g1 => hfr g g1 [oc, lo] ∧ ∃ f1 : Nat → Int32, g1 oc = some (.inr (5, [.ref lo, .int (nI (ot ++ pt xs i j).length)])) ∧ g1 lo = some (.inl (cI, 120, .inl f1)) ∧ rp f1 (ot ++ pt xs i j)) := by
  refine hMv_of (by decide +kernel) (Nat.le_of_ble_eq_true rfl) ?_
  intro pX eX RX sX mX argsX belowX methX cX QX AX hR S0 hnm hsz hg hK hS hA0 hend ls hl
  have hl : lv_has ls 2 [(0, .ref mo), (1, .ref pq)] := hl
  have fr : hfr g g [oc, lo] := hfr.rf
  refine lv_aload_n S0.1 S0.2.1 dMg_take_0 rfl (lv_at hl 0 rfl) ?_
  refine hw_get S0 hK hg h0 rfl inMg 0 (by decide) lf_Mg_14 rfl rfl dMg_take_1 ?_
  refine lv_aload_n S0.1 S0.2.1 dMg_take_4 rfl (lv_at hl 1 rfl) ?_
  refine hw_get S0 hK hg h3 rfl inPa 0 (by decide) lf_Mg_99 rfl rfl dMg_take_5 ?_
  refine lv_aload_n S0.1 S0.2.1 dMg_take_8 rfl (lv_at hl 1 rfl) ?_
  refine hw_get S0 hK hg h3 rfl inPa 1 (by decide) lf_Mg_102 rfl rfl dMg_take_9 ?_
  refine lv_aload_n S0.1 S0.2.1 dMg_take_12 rfl (lv_at hl 1 rfl) ?_
  refine hw_get S0 hK hg h3 rfl inPa 2 (by decide) lf_Mg_85 rfl rfl dMg_take_13 ?_
  refine hw_Vv (As := [.ref r, .int (nI i), .int (nI j)]) (rest := []) S0 hK hg hS hA0 h1 rfl (c_Ro_addPart l D cI cR cJ g _ oc lo ot.length 120 r lr xs.length cr i j fo fr_ h1 h2 h4 h5 hro hlo hi (by omega) hol (by omega) hdr hj (by omega)) kRo_addPart lm_Mg_75 (hR.call rfl) rfl hl.1 rfl (Nat.le_of_ble_eq_true rfl) dMg_take_16 (hR.new (by decide) (by decide)) (fun g_1 H locs hp_16 hg hS => ?_)
  obtain ⟨fr1, a0, f1, a1, a2, a3⟩ := hp_16
  have fr := fr.call fr1 (by simp)
  exact hend _ _ _ _ _ _ _ (by decide) (by decide) (⟨fr, f1, by rw [List.length_append, pt_len hj]; exact a0, a1, rp_app eo ex hj a2 a3⟩) hg hS dMg_take_19
set_option maxRecDepth 100000 in
set_option maxHeartbeats 4000000 in
theorem c_Mg_addConflict (l : Launch) (D : va_G) (cI cR cJ : ClassId) (g : Nat → Option va_E) (sz : Nat) (mo oc cc c1 c2 p1 p2 p3 lo rL rR n ol la lj ra rj : Nat) (f : Nat → Int32) (cf : List N3) (h0 : g mo = some (.inr (2, [.ref oc, .ref cc, .int (nI n), .ref c1, .ref c2, .ref p1, .ref p2, .ref p3]))) (h1 : g cc = some (.inl (cI, 183, .inl f))) (h2 : g oc = some (.inr (5, [.ref lo, .int (nI ol)]))) (h3 : g p2 = some (.inr (3, [.ref rL, .int (nI la), .int (nI lj)]))) (h4 : g p3 = some (.inr (3, [.ref rR, .int (nI ra), .int (nI rj)]))) (hn : n = cf.length) (hn6 : n < 61) (hr : rpN f (fl3 cf)) (hl : la ≤ lj) (hrr : ra ≤ rj) : hMv l yMg_addConflict cMg_addConflict 2 (hRm 1 20 0 0) D (hT cI cR cJ) g sz [.ref mo] (fun g1 => hfr g g1 [mo, cc] ∧ ∃ f1 : Nat → Int32, g1 mo = some (.inr (2, [.ref oc, .ref cc, .int (nI (cf ++ [(ol, lj - la, rj - ra)]).length), .ref c1, .ref c2, .ref p1, .ref p2, .ref p3])) ∧ g1 cc = some (.inl (cI, 183, .inl f1)) ∧ rpN f1 (fl3 (cf ++ [(ol, lj - la, rj - ra)]))) := by
  refine hMv_of (by decide +kernel) (Nat.le_of_ble_eq_true rfl) ?_
  intro pX eX RX sX mX argsX belowX methX cX QX AX hR S0 hnm hsz hg hK hS hA0 hend ls hl_
  have hll := hl
  have hl : lv_has ls 2 [(0, .ref mo)] := hl_
  have fr : hfr g g [mo, cc] := hfr.rf
  refine lv_aload_n S0.1 S0.2.1 dMg_addConflict_0 rfl (lv_at hl 0 rfl) ?_
  refine hw_get S0 hK hg h0 rfl inMg 2 (by decide) lf_Mg_24 rfl rfl dMg_addConflict_1 ?_
  refine lv_bipush (v := nI 61) S0.1 S0.2.1 dMg_addConflict_4 (by decide) ?_
  refine lv_icmp_ge (tgt := 71) S0.1 S0.2.1 dMg_addConflict_6 (by decide) (fun c_6 => ?_) (fun c_6 => ?_)
  · skip
    have c_6 : 61 ≤ n := (nI_leI (by omega) (by omega)).mp c_6
    exact absurd hn6 (by omega)
  · skip
    have c_6 : ¬ (61 ≤ n) := fun h => c_6 ((nI_leI (by omega) (by omega)).mpr h)
    refine lv_aload_n S0.1 S0.2.1 dMg_addConflict_9 rfl (lv_at hl 0 rfl) ?_
    refine hw_get S0 hK hg h0 rfl inMg 2 (by decide) lf_Mg_24 rfl rfl dMg_addConflict_10 ?_
    refine lv_iconst (v := nI 3) S0.1 S0.2.1 dMg_addConflict_13 (by decide) ?_
    refine lv_imul S0.1 S0.2.1 dMg_addConflict_14 ?_
    refine hw_top (nI (n * 3)) (pk_mul _ _) ?_
    refine lv_istore_n (lv' := [(1, .int (nI (n * 3))), (0, .ref mo)]) S0.1 S0.2.1 dMg_addConflict_15 rfl hl (by decide) rfl (fun ls hl => ?_)
    refine lv_aload_n S0.1 S0.2.1 dMg_addConflict_16 rfl (lv_at hl 1 rfl) ?_
    refine hw_get S0 hK hg h0 rfl inMg 1 (by decide) lf_Mg_20 rfl rfl dMg_addConflict_17 ?_
    refine lv_iload_n S0.1 S0.2.1 dMg_addConflict_20 rfl (lv_at hl 0 rfl) ?_
    refine lv_iconst (v := nI 0) S0.1 S0.2.1 dMg_addConflict_21 (by decide) ?_
    refine lv_iadd S0.1 S0.2.1 dMg_addConflict_22 ?_
    refine hw_top (nI ((n * 3) + 0)) (nI_add _ _) ?_
    refine lv_aload_n S0.1 S0.2.1 dMg_addConflict_23 rfl (lv_at hl 1 rfl) ?_
    refine hw_get S0 hK hg h0 rfl inMg 0 (by decide) lf_Mg_14 rfl rfl dMg_addConflict_24 ?_
    refine hw_get S0 hK hg h2 rfl inRo 1 (by decide) lf_Mg_54 rfl rfl dMg_addConflict_27 ?_
    refine hw_iast S0 hK hg hS h1 0 rfl (by omega) (by omega) dMg_addConflict_30 (fun H locs hg hS => ?_)
    obtain ⟨g_1, eg_1⟩ : ∃ z, z = hs g cc (.inl (cI, 183, .inl (upd f ((n * 3) + 0) (nI ol)))) := ⟨_, rfl⟩
    have hg : hw D hC AX g_1 H := by rw [eg_1]; exact hg
    have f1_0 : g_1 mo = some (.inr (2, [.ref oc, .ref cc, .int (nI n), .ref c1, .ref c2, .ref p1, .ref p2, .ref p3])) := by rw [eg_1, hs_n _ _ (h_ne h0 h1 (fun h => by cases h))]; exact h0
    have f1_1 : g_1 oc = some (.inr (5, [.ref lo, .int (nI ol)])) := by rw [eg_1, hs_n _ _ (h_ne h2 h1 (fun h => by cases h))]; exact h2
    have f1_2 : g_1 p2 = some (.inr (3, [.ref rL, .int (nI la), .int (nI lj)])) := by rw [eg_1, hs_n _ _ (h_ne h3 h1 (fun h => by cases h))]; exact h3
    have f1_3 : g_1 p3 = some (.inr (3, [.ref rR, .int (nI ra), .int (nI rj)])) := by rw [eg_1, hs_n _ _ (h_ne h4 h1 (fun h => by cases h))]; exact h4
    have f1_4 : g_1 cc = some (.inl (cI, 183, .inl (upd f ((n * 3) + 0) (nI ol)))) := by rw [eg_1]; exact hs_s _ _ _
    have fr := fr.put eg_1 (by simp)
    refine lv_aload_n S0.1 S0.2.1 dMg_addConflict_31 rfl (lv_at hl 1 rfl) ?_
    refine hw_get S0 hK hg f1_0 rfl inMg 1 (by decide) lf_Mg_20 rfl rfl dMg_addConflict_32 ?_
    refine lv_iload_n S0.1 S0.2.1 dMg_addConflict_35 rfl (lv_at hl 0 rfl) ?_
    refine lv_iconst (v := nI 1) S0.1 S0.2.1 dMg_addConflict_36 (by decide) ?_
    refine lv_iadd S0.1 S0.2.1 dMg_addConflict_37 ?_
    refine hw_top (nI ((n * 3) + 1)) (nI_add _ _) ?_
    refine lv_aload_n S0.1 S0.2.1 dMg_addConflict_38 rfl (lv_at hl 1 rfl) ?_
    refine hw_get S0 hK hg f1_0 rfl inMg 6 (by decide) lf_Mg_42 rfl rfl dMg_addConflict_39 ?_
    refine hw_Vi (As := []) (rest := [.int (nI ((n * 3) + 1)), .ref cc]) S0 hK hg hS hA0 f1_2 rfl (c_Pa_length l D cI cR cJ g_1 _ p2 _ _ _ hll f1_2) kPa_length lm_Mg_105 (hR.call rfl) rfl hl.1 rfl (Nat.le_of_ble_eq_true rfl) dMg_addConflict_42 (hR.new (by decide) (by decide)) (fun r_42 g_2 H locs hp_42 hg hS => ?_)
    rw [hp_42.1] at hg
    replace hp_42 := hp_42.2
    subst hp_42
    refine hw_iast S0 hK hg hS f1_4 0 rfl (by omega) (by omega) dMg_addConflict_45 (fun H locs hg hS => ?_)
    obtain ⟨g_3, eg_3⟩ : ∃ z, z = hs g_1 cc (.inl (cI, 183, .inl (upd (upd f ((n * 3) + 0) (nI ol)) ((n * 3) + 1) (nI (lj - la))))) := ⟨_, rfl⟩
    have hg : hw D hC AX g_3 H := by rw [eg_3]; exact hg
    have f3_0 : g_3 mo = some (.inr (2, [.ref oc, .ref cc, .int (nI n), .ref c1, .ref c2, .ref p1, .ref p2, .ref p3])) := by rw [eg_3, hs_n _ _ (h_ne f1_0 f1_4 (fun h => by cases h))]; exact f1_0
    have f3_1 : g_3 oc = some (.inr (5, [.ref lo, .int (nI ol)])) := by rw [eg_3, hs_n _ _ (h_ne f1_1 f1_4 (fun h => by cases h))]; exact f1_1
    have f3_2 : g_3 p2 = some (.inr (3, [.ref rL, .int (nI la), .int (nI lj)])) := by rw [eg_3, hs_n _ _ (h_ne f1_2 f1_4 (fun h => by cases h))]; exact f1_2
    have f3_3 : g_3 p3 = some (.inr (3, [.ref rR, .int (nI ra), .int (nI rj)])) := by rw [eg_3, hs_n _ _ (h_ne f1_3 f1_4 (fun h => by cases h))]; exact f1_3
    have f3_4 : g_3 cc = some (.inl (cI, 183, .inl (upd (upd f ((n * 3) + 0) (nI ol)) ((n * 3) + 1) (nI (lj - la))))) := by rw [eg_3]; exact hs_s _ _ _
    have fr := fr.put eg_3 (by simp)
    refine lv_aload_n S0.1 S0.2.1 dMg_addConflict_46 rfl (lv_at hl 1 rfl) ?_
    refine hw_get S0 hK hg f3_0 rfl inMg 1 (by decide) lf_Mg_20 rfl rfl dMg_addConflict_47 ?_
    refine lv_iload_n S0.1 S0.2.1 dMg_addConflict_50 rfl (lv_at hl 0 rfl) ?_
    refine lv_iconst (v := nI 2) S0.1 S0.2.1 dMg_addConflict_51 (by decide) ?_
    refine lv_iadd S0.1 S0.2.1 dMg_addConflict_52 ?_
    refine hw_top (nI ((n * 3) + 2)) (nI_add _ _) ?_
    refine lv_aload_n S0.1 S0.2.1 dMg_addConflict_53 rfl (lv_at hl 1 rfl) ?_
    refine hw_get S0 hK hg f3_0 rfl inMg 7 (by decide) lf_Mg_45 rfl rfl dMg_addConflict_54 ?_
    refine hw_Vi (As := []) (rest := [.int (nI ((n * 3) + 2)), .ref cc]) S0 hK hg hS hA0 f3_3 rfl (c_Pa_length l D cI cR cJ g_3 _ p3 _ _ _ hrr f3_3) kPa_length lm_Mg_105 (hR.call rfl) rfl hl.1 rfl (Nat.le_of_ble_eq_true rfl) dMg_addConflict_57 (hR.new (by decide) (by decide)) (fun r_57 g_4 H locs hp_57 hg hS => ?_)
    rw [hp_57.1] at hg
    replace hp_57 := hp_57.2
    subst hp_57
    refine hw_iast S0 hK hg hS f3_4 0 rfl (by omega) (by omega) dMg_addConflict_60 (fun H locs hg hS => ?_)
    obtain ⟨g_5, eg_5⟩ : ∃ z, z = hs g_3 cc (.inl (cI, 183, .inl (upd (upd (upd f ((n * 3) + 0) (nI ol)) ((n * 3) + 1) (nI (lj - la))) ((n * 3) + 2) (nI (rj - ra))))) := ⟨_, rfl⟩
    have hg : hw D hC AX g_5 H := by rw [eg_5]; exact hg
    have f5_0 : g_5 mo = some (.inr (2, [.ref oc, .ref cc, .int (nI n), .ref c1, .ref c2, .ref p1, .ref p2, .ref p3])) := by rw [eg_5, hs_n _ _ (h_ne f3_0 f3_4 (fun h => by cases h))]; exact f3_0
    have f5_1 : g_5 oc = some (.inr (5, [.ref lo, .int (nI ol)])) := by rw [eg_5, hs_n _ _ (h_ne f3_1 f3_4 (fun h => by cases h))]; exact f3_1
    have f5_2 : g_5 p2 = some (.inr (3, [.ref rL, .int (nI la), .int (nI lj)])) := by rw [eg_5, hs_n _ _ (h_ne f3_2 f3_4 (fun h => by cases h))]; exact f3_2
    have f5_3 : g_5 p3 = some (.inr (3, [.ref rR, .int (nI ra), .int (nI rj)])) := by rw [eg_5, hs_n _ _ (h_ne f3_3 f3_4 (fun h => by cases h))]; exact f3_3
    have f5_4 : g_5 cc = some (.inl (cI, 183, .inl (upd (upd (upd f ((n * 3) + 0) (nI ol)) ((n * 3) + 1) (nI (lj - la))) ((n * 3) + 2) (nI (rj - ra))))) := by rw [eg_5]; exact hs_s _ _ _
    have fr := fr.put eg_5 (by simp)
    refine lv_aload_n S0.1 S0.2.1 dMg_addConflict_61 rfl (lv_at hl 1 rfl) ?_
    refine lv_dup S0.1 S0.2.1 dMg_addConflict_62 rfl ?_
    refine hw_get S0 hK hg f5_0 rfl inMg 2 (by decide) lf_Mg_24 rfl rfl dMg_addConflict_63 ?_
    refine lv_iconst (v := nI 1) S0.1 S0.2.1 dMg_addConflict_66 (by decide) ?_
    refine lv_iadd S0.1 S0.2.1 dMg_addConflict_67 ?_
    refine hw_top (nI (n + 1)) (nI_add _ _) ?_
    refine hw_put S0 hK hg hS f5_0 rfl inMg tyMg tokMg nmMg 2 (by decide) lf_Mg_24 rfl rfl rfl rfl (Nat.le_of_ble_eq_true rfl) dMg_addConflict_68 (fun H locs hg hS => ?_)
    obtain ⟨g_6, eg_6⟩ : ∃ z, z = hs g_5 mo (.inr (2, [.ref oc, .ref cc, .int (nI (n + 1)), .ref c1, .ref c2, .ref p1, .ref p2, .ref p3])) := ⟨_, rfl⟩
    have hg : hw D hC AX g_6 H := by rw [eg_6]; exact hg
    have f6_0 : g_6 oc = some (.inr (5, [.ref lo, .int (nI ol)])) := by rw [eg_6, hs_n _ _ (h_ne f5_1 f5_0 (fun h => by simp at h))]; exact f5_1
    have f6_1 : g_6 p2 = some (.inr (3, [.ref rL, .int (nI la), .int (nI lj)])) := by rw [eg_6, hs_n _ _ (h_ne f5_2 f5_0 (fun h => by simp at h))]; exact f5_2
    have f6_2 : g_6 p3 = some (.inr (3, [.ref rR, .int (nI ra), .int (nI rj)])) := by rw [eg_6, hs_n _ _ (h_ne f5_3 f5_0 (fun h => by simp at h))]; exact f5_3
    have f6_3 : g_6 cc = some (.inl (cI, 183, .inl (upd (upd (upd f ((n * 3) + 0) (nI ol)) ((n * 3) + 1) (nI (lj - la))) ((n * 3) + 2) (nI (rj - ra))))) := by rw [eg_6, hs_n _ _ (h_ne f5_4 f5_0 (fun h => by cases h))]; exact f5_4
    have f6_4 : g_6 mo = some (.inr (2, [.ref oc, .ref cc, .int (nI (n + 1)), .ref c1, .ref c2, .ref p1, .ref p2, .ref p3])) := by rw [eg_6]; exact hs_s _ _ _
    have fr := fr.put eg_6 (by simp)
    exact hend _ _ _ _ _ _ _ (by decide) (by decide) (by rw [List.length_append, ← hn]; exact ⟨fr, _, f6_4, f6_3, rp3_snoc hr hn ol (lj - la) (rj - ra)⟩) hg hS dMg_addConflict_71
set_option maxRecDepth 100000 in
set_option maxHeartbeats 4000000 in
theorem c_Mg_stepPartsOverAnchor (l : Launch) (D : va_G) (cI cR cJ : ClassId) (g : Nat → Option va_E) (sz : Nat) (mo oc cc c1 c2 p1 p2 p3 rB rL rR n1 n2 n3 : Nat) (cn x1 x2 x3 : Int32) (h0 : g mo = some (.inr (2, [.ref oc, .ref cc, .int cn, .ref c1, .ref c2, .ref p1, .ref p2, .ref p3]))) (hp1 : g p1 = some (.inr (3, [.ref rB, .int x1, .int (nI n1)]))) (hp2 : g p2 = some (.inr (3, [.ref rL, .int x2, .int (nI n2)]))) (hp3 : g p3 = some (.inr (3, [.ref rR, .int x3, .int (nI n3)]))) (h12 : p1 ≠ p2) (h13 : p1 ≠ p3) (h23 : p2 ≠ p3) : hMv l yMg_stepPartsOverAnchor cMg_stepPartsOverAnchor 1 (hRm 1 20 0 0) D (hT cI cR cJ) g sz [.ref mo] (fun g1 => hfr g g1 [p1, p2, p3] ∧ g1 p1 = some (.inr (3, [.ref rB, .int (nI (n1 + 1)), .int (nI n1)])) ∧ g1 p2 = some (.inr (3, [.ref rL, .int (nI (n2 + 1)), .int (nI n2)])) ∧ g1 p3 = some (.inr (3, [.ref rR, .int (nI (n3 + 1)), .int (nI n3)]))) := by
  refine hMv_of (by decide +kernel) (Nat.le_of_ble_eq_true rfl) ?_
  intro pX eX RX sX mX argsX belowX methX cX QX AX hR S0 hnm hsz hg hK hS hA0 hend ls hl
  have hl : lv_has ls 1 [(0, .ref mo)] := hl
  have fr : hfr g g [p1, p2, p3] := hfr.rf
  refine lv_aload_n S0.1 S0.2.1 dMg_stepPartsOverAnchor_0 rfl (lv_at hl 0 rfl) ?_
  refine hw_get S0 hK hg h0 rfl inMg 5 (by decide) lf_Mg_38 rfl rfl dMg_stepPartsOverAnchor_1 ?_
  refine hw_Vv (As := []) (rest := []) S0 hK hg hS hA0 hp1 rfl (c_Pa_stepOverAnchor l D cI cR cJ g _ p1 _ _ _ hp1) kPa_stepOverAnchor lm_Mg_82 (hR.call rfl) rfl hl.1 rfl (Nat.le_of_ble_eq_true rfl) dMg_stepPartsOverAnchor_4 (hR.new (by decide) (by decide)) (fun g_1 H locs hp_4 hg hS => ?_)
  obtain ⟨fr1, s1⟩ := hp_4
  have k1_0 := fr1.at (h_nm (h_ne h0 hp1 (fun h => by simp at h)) h_n0) h0
  have k1_1 := fr1.at (h_nm (Ne.symm h12) h_n0) hp2
  have k1_2 := fr1.at (h_nm (Ne.symm h13) h_n0) hp3
  have fr := fr.call fr1 (by simp)
  refine lv_aload_n S0.1 S0.2.1 dMg_stepPartsOverAnchor_7 rfl (lv_at hl 0 rfl) ?_
  refine hw_get S0 hK hg k1_0 rfl inMg 6 (by decide) lf_Mg_42 rfl rfl dMg_stepPartsOverAnchor_8 ?_
  refine hw_Vv (As := []) (rest := []) S0 hK hg hS hA0 k1_1 rfl (c_Pa_stepOverAnchor l D cI cR cJ g_1 _ p2 _ _ _ k1_1) kPa_stepOverAnchor lm_Mg_82 (hR.call rfl) rfl hl.1 rfl (Nat.le_of_ble_eq_true rfl) dMg_stepPartsOverAnchor_11 (hR.new (by decide) (by decide)) (fun g_2 H locs hp_11 hg hS => ?_)
  obtain ⟨fr2, s2⟩ := hp_11
  have k2_0 := fr2.at (h_nm (h_ne k1_0 k1_1 (fun h => by simp at h)) h_n0) k1_0
  have k2_1 := fr2.at (h_nm (Ne.symm h23) h_n0) k1_2
  have k2_2 := fr2.at (h_nm h12 h_n0) s1
  have fr := fr.call fr2 (by simp)
  refine lv_aload_n S0.1 S0.2.1 dMg_stepPartsOverAnchor_14 rfl (lv_at hl 0 rfl) ?_
  refine hw_get S0 hK hg k2_0 rfl inMg 7 (by decide) lf_Mg_45 rfl rfl dMg_stepPartsOverAnchor_15 ?_
  refine hw_Vv (As := []) (rest := []) S0 hK hg hS hA0 k2_1 rfl (c_Pa_stepOverAnchor l D cI cR cJ g_2 _ p3 _ _ _ k2_1) kPa_stepOverAnchor lm_Mg_82 (hR.call rfl) rfl hl.1 rfl (Nat.le_of_ble_eq_true rfl) dMg_stepPartsOverAnchor_18 (hR.new (by decide) (by decide)) (fun g_3 H locs hp_18 hg hS => ?_)
  obtain ⟨fr3, s3⟩ := hp_18
  have k3_0 := fr3.at (h_nm (h_ne k2_0 k2_1 (fun h => by simp at h)) h_n0) k2_0
  have k3_1 := fr3.at (h_nm h13 h_n0) k2_2
  have k3_2 := fr3.at (h_nm h23 h_n0) s2
  have fr := fr.call fr3 (by simp)
  exact hend _ _ _ _ _ _ _ (by decide) (by decide) (⟨fr, k3_1, k3_2, s3⟩) hg hS dMg_stepPartsOverAnchor_21
set_option maxRecDepth 100000 in
set_option maxHeartbeats 4000000 in
theorem c_Mg_mergeParts (l : Launch) (D : va_G) (cI cR cJ : ClassId) (g : Nat → Option va_E) (sz : Nat) (mo oc cc c1 c2 p1 p2 p3 lo : Nat) (rB lB cB rL lL cL rR lR cR_ : Nat) (bs lf rt : List Int32) (fB fL fR : Nat → Int32) (fc fo : Nat → Int32) (hrB : g rB = some (.inr (5, [.ref lB, .int (nI bs.length)]))) (hlB : g lB = some (.inl (cI, cB, .inl fB))) (eB : rp fB bs) (hcB : bs.length ≤ cB) (hdB : cB < 4000) (hrL : g rL = some (.inr (5, [.ref lL, .int (nI lf.length)]))) (hlL : g lL = some (.inl (cI, cL, .inl fL))) (eL : rp fL lf) (hcL : lf.length ≤ cL) (hdL : cL < 4000) (hrR : g rR = some (.inr (5, [.ref lR, .int (nI rt.length)]))) (hlR : g lR = some (.inl (cI, cR_, .inl fR))) (eR : rp fR rt) (hcR : rt.length ≤ cR_) (hdR : cR_ < 4000) (n_rB_oc : rB ≠ oc) (n_rL_oc : rL ≠ oc) (n_rR_oc : rR ≠ oc) (n_lB_cc : lB ≠ cc) (n_lB_lo : lB ≠ lo) (n_lL_cc : lL ≠ cc) (n_lL_lo : lL ≠ lo) (n_lR_cc : lR ≠ cc) (n_lR_lo : lR ≠ lo) (n_lo_cc : lo ≠ cc) (n_p1_p2 : p1 ≠ p2) (n_p1_p3 : p1 ≠ p3) (n_p2_p3 : p2 ≠ p3) (a i la lj ra rj : Nat) (e1 e2 e3 : Int32) (s : List Int32 × List N3) (h0 : g mo = some (.inr (2, [.ref oc, .ref cc, .int (nI s.2.length), .ref c1, .ref c2, .ref p1, .ref p2, .ref p3]))) (h1 : g cc = some (.inl (cI, 183, .inl fc))) (h2 : g oc = some (.inr (5, [.ref lo, .int (nI s.1.length)]))) (h3 : g lo = some (.inl (cI, 120, .inl fo))) (hp1 : g p1 = some (.inr (3, [.ref rB, .int (nI a), .int e1]))) (hp2 : g p2 = some (.inr (3, [.ref rL, .int (nI la), .int e2]))) (hp3 : g p3 = some (.inr (3, [.ref rR, .int (nI ra), .int e3]))) (eo : rp fo s.1) (ec : rpN fc (fl3 s.2)) (hai : a ≤ i) (hi : i ≤ bs.length) (hal : la ≤ lj) (hlj : lj ≤ lf.length) (har : ra ≤ rj) (hrj : rj ≤ rt.length) (hol : s.1.length + (lj - la) + (rj - ra) ≤ 120) (hcf : s.2.length < 61) : hMv l yMg_mergeParts cMg_mergeParts 4 (hRm 3 66 0 0) D (hT cI cR cJ) g sz [.ref mo, .int (nI i), .int (nI lj), .int (nI rj)] (fun g1 => hfr g g1 [mo, cc, oc, lo, p1, p2, p3] ∧ ∃ fc1 fo1 : Nat → Int32, g1 mo = some (.inr (2, [.ref oc, .ref cc, .int (nI (joinP bs lf rt a i la lj ra rj s).2.length), .ref c1, .ref c2, .ref p1, .ref p2, .ref p3])) ∧ g1 cc = some (.inl (cI, 183, .inl fc1)) ∧ g1 oc = some (.inr (5, [.ref lo, .int (nI (joinP bs lf rt a i la lj ra rj s).1.length)])) ∧ g1 lo = some (.inl (cI, 120, .inl fo1)) ∧ g1 p1 = some (.inr (3, [.ref rB, .int (nI a), .int (nI i)])) ∧ g1 p2 = some (.inr (3, [.ref rL, .int (nI la), .int (nI lj)])) ∧ g1 p3 = some (.inr (3, [.ref rR, .int (nI ra), .int (nI rj)])) ∧ rp fo1 (joinP bs lf rt a i la lj ra rj s).1 ∧ rpN fc1 (fl3 (joinP bs lf rt a i la lj ra rj s).2)) := by
  refine hMv_of (by decide +kernel) (Nat.le_of_ble_eq_true rfl) ?_
  intro pX eX RX sX mX argsX belowX methX cX QX AX hR S0 hnm hsz hg hK hS hA0 hend ls hl
  have hl : lv_has ls 4 [(0, .ref mo), (1, .int (nI i)), (2, .int (nI lj)), (3, .int (nI rj))] := hl
  have fr : hfr g g [mo, cc, oc, lo, p1, p2, p3] := hfr.rf
  refine lv_aload_n S0.1 S0.2.1 dMg_mergeParts_0 rfl (lv_at hl 0 rfl) ?_
  refine hw_get S0 hK hg h0 rfl inMg 5 (by decide) lf_Mg_38 rfl rfl dMg_mergeParts_1 ?_
  refine lv_iload_n S0.1 S0.2.1 dMg_mergeParts_4 rfl (lv_at hl 1 rfl) ?_
  refine hw_put S0 hK hg hS hp1 rfl inPa tyPa tokPa nmPa 2 (by decide) lf_Mg_85 rfl rfl rfl rfl (Nat.le_of_ble_eq_true rfl) dMg_mergeParts_5 (fun H locs hg hS => ?_)
  obtain ⟨g_1, eg_1⟩ : ∃ z, z = hs g p1 (.inr (3, [.ref rB, .int (nI a), .int (nI i)])) := ⟨_, rfl⟩
  have hg : hw D hC AX g_1 H := by rw [eg_1]; exact hg
  have f1_0 : g_1 mo = some (.inr (2, [.ref oc, .ref cc, .int (nI s.2.length), .ref c1, .ref c2, .ref p1, .ref p2, .ref p3])) := by rw [eg_1, hs_n _ _ (h_ne h0 hp1 (fun h => by simp at h))]; exact h0
  have f1_1 : g_1 cc = some (.inl (cI, 183, .inl fc)) := by rw [eg_1, hs_n _ _ (h_ne h1 hp1 (fun h => by cases h))]; exact h1
  have f1_2 : g_1 oc = some (.inr (5, [.ref lo, .int (nI s.1.length)])) := by rw [eg_1, hs_n _ _ (h_ne h2 hp1 (fun h => by simp at h))]; exact h2
  have f1_3 : g_1 lo = some (.inl (cI, 120, .inl fo)) := by rw [eg_1, hs_n _ _ (h_ne h3 hp1 (fun h => by cases h))]; exact h3
  have f1_4 : g_1 p2 = some (.inr (3, [.ref rL, .int (nI la), .int e2])) := by rw [eg_1, hs_n _ _ (Ne.symm n_p1_p2)]; exact hp2
  have f1_5 : g_1 p3 = some (.inr (3, [.ref rR, .int (nI ra), .int e3])) := by rw [eg_1, hs_n _ _ (Ne.symm n_p1_p3)]; exact hp3
  have f1_6 : g_1 rB = some (.inr (5, [.ref lB, .int (nI bs.length)])) := by rw [eg_1, hs_n _ _ (h_ne hrB hp1 (fun h => by simp at h))]; exact hrB
  have f1_7 : g_1 lB = some (.inl (cI, cB, .inl fB)) := by rw [eg_1, hs_n _ _ (h_ne hlB hp1 (fun h => by cases h))]; exact hlB
  have f1_8 : g_1 rL = some (.inr (5, [.ref lL, .int (nI lf.length)])) := by rw [eg_1, hs_n _ _ (h_ne hrL hp1 (fun h => by simp at h))]; exact hrL
  have f1_9 : g_1 lL = some (.inl (cI, cL, .inl fL)) := by rw [eg_1, hs_n _ _ (h_ne hlL hp1 (fun h => by cases h))]; exact hlL
  have f1_10 : g_1 rR = some (.inr (5, [.ref lR, .int (nI rt.length)])) := by rw [eg_1, hs_n _ _ (h_ne hrR hp1 (fun h => by simp at h))]; exact hrR
  have f1_11 : g_1 lR = some (.inl (cI, cR_, .inl fR)) := by rw [eg_1, hs_n _ _ (h_ne hlR hp1 (fun h => by cases h))]; exact hlR
  have f1_12 : g_1 p1 = some (.inr (3, [.ref rB, .int (nI a), .int (nI i)])) := by rw [eg_1]; exact hs_s _ _ _
  have fr := fr.put eg_1 (by simp)
  refine lv_aload_n S0.1 S0.2.1 dMg_mergeParts_8 rfl (lv_at hl 0 rfl) ?_
  refine hw_get S0 hK hg f1_0 rfl inMg 6 (by decide) lf_Mg_42 rfl rfl dMg_mergeParts_9 ?_
  refine lv_iload_n S0.1 S0.2.1 dMg_mergeParts_12 rfl (lv_at hl 2 rfl) ?_
  refine hw_put S0 hK hg hS f1_4 rfl inPa tyPa tokPa nmPa 2 (by decide) lf_Mg_85 rfl rfl rfl rfl (Nat.le_of_ble_eq_true rfl) dMg_mergeParts_13 (fun H locs hg hS => ?_)
  obtain ⟨g_2, eg_2⟩ : ∃ z, z = hs g_1 p2 (.inr (3, [.ref rL, .int (nI la), .int (nI lj)])) := ⟨_, rfl⟩
  have hg : hw D hC AX g_2 H := by rw [eg_2]; exact hg
  have f2_0 : g_2 mo = some (.inr (2, [.ref oc, .ref cc, .int (nI s.2.length), .ref c1, .ref c2, .ref p1, .ref p2, .ref p3])) := by rw [eg_2, hs_n _ _ (h_ne f1_0 f1_4 (fun h => by simp at h))]; exact f1_0
  have f2_1 : g_2 cc = some (.inl (cI, 183, .inl fc)) := by rw [eg_2, hs_n _ _ (h_ne f1_1 f1_4 (fun h => by cases h))]; exact f1_1
  have f2_2 : g_2 oc = some (.inr (5, [.ref lo, .int (nI s.1.length)])) := by rw [eg_2, hs_n _ _ (h_ne f1_2 f1_4 (fun h => by simp at h))]; exact f1_2
  have f2_3 : g_2 lo = some (.inl (cI, 120, .inl fo)) := by rw [eg_2, hs_n _ _ (h_ne f1_3 f1_4 (fun h => by cases h))]; exact f1_3
  have f2_4 : g_2 p3 = some (.inr (3, [.ref rR, .int (nI ra), .int e3])) := by rw [eg_2, hs_n _ _ (Ne.symm n_p2_p3)]; exact f1_5
  have f2_5 : g_2 rB = some (.inr (5, [.ref lB, .int (nI bs.length)])) := by rw [eg_2, hs_n _ _ (h_ne f1_6 f1_4 (fun h => by simp at h))]; exact f1_6
  have f2_6 : g_2 lB = some (.inl (cI, cB, .inl fB)) := by rw [eg_2, hs_n _ _ (h_ne f1_7 f1_4 (fun h => by cases h))]; exact f1_7
  have f2_7 : g_2 rL = some (.inr (5, [.ref lL, .int (nI lf.length)])) := by rw [eg_2, hs_n _ _ (h_ne f1_8 f1_4 (fun h => by simp at h))]; exact f1_8
  have f2_8 : g_2 lL = some (.inl (cI, cL, .inl fL)) := by rw [eg_2, hs_n _ _ (h_ne f1_9 f1_4 (fun h => by cases h))]; exact f1_9
  have f2_9 : g_2 rR = some (.inr (5, [.ref lR, .int (nI rt.length)])) := by rw [eg_2, hs_n _ _ (h_ne f1_10 f1_4 (fun h => by simp at h))]; exact f1_10
  have f2_10 : g_2 lR = some (.inl (cI, cR_, .inl fR)) := by rw [eg_2, hs_n _ _ (h_ne f1_11 f1_4 (fun h => by cases h))]; exact f1_11
  have f2_11 : g_2 p1 = some (.inr (3, [.ref rB, .int (nI a), .int (nI i)])) := by rw [eg_2, hs_n _ _ n_p1_p2]; exact f1_12
  have f2_12 : g_2 p2 = some (.inr (3, [.ref rL, .int (nI la), .int (nI lj)])) := by rw [eg_2]; exact hs_s _ _ _
  have fr := fr.put eg_2 (by simp)
  refine lv_aload_n S0.1 S0.2.1 dMg_mergeParts_16 rfl (lv_at hl 0 rfl) ?_
  refine hw_get S0 hK hg f2_0 rfl inMg 7 (by decide) lf_Mg_45 rfl rfl dMg_mergeParts_17 ?_
  refine lv_iload_n S0.1 S0.2.1 dMg_mergeParts_20 rfl (lv_at hl 3 rfl) ?_
  refine hw_put S0 hK hg hS f2_4 rfl inPa tyPa tokPa nmPa 2 (by decide) lf_Mg_85 rfl rfl rfl rfl (Nat.le_of_ble_eq_true rfl) dMg_mergeParts_21 (fun H locs hg hS => ?_)
  obtain ⟨g_3, eg_3⟩ : ∃ z, z = hs g_2 p3 (.inr (3, [.ref rR, .int (nI ra), .int (nI rj)])) := ⟨_, rfl⟩
  have hg : hw D hC AX g_3 H := by rw [eg_3]; exact hg
  have f3_0 : g_3 mo = some (.inr (2, [.ref oc, .ref cc, .int (nI s.2.length), .ref c1, .ref c2, .ref p1, .ref p2, .ref p3])) := by rw [eg_3, hs_n _ _ (h_ne f2_0 f2_4 (fun h => by simp at h))]; exact f2_0
  have f3_1 : g_3 cc = some (.inl (cI, 183, .inl fc)) := by rw [eg_3, hs_n _ _ (h_ne f2_1 f2_4 (fun h => by cases h))]; exact f2_1
  have f3_2 : g_3 oc = some (.inr (5, [.ref lo, .int (nI s.1.length)])) := by rw [eg_3, hs_n _ _ (h_ne f2_2 f2_4 (fun h => by simp at h))]; exact f2_2
  have f3_3 : g_3 lo = some (.inl (cI, 120, .inl fo)) := by rw [eg_3, hs_n _ _ (h_ne f2_3 f2_4 (fun h => by cases h))]; exact f2_3
  have f3_4 : g_3 rB = some (.inr (5, [.ref lB, .int (nI bs.length)])) := by rw [eg_3, hs_n _ _ (h_ne f2_5 f2_4 (fun h => by simp at h))]; exact f2_5
  have f3_5 : g_3 lB = some (.inl (cI, cB, .inl fB)) := by rw [eg_3, hs_n _ _ (h_ne f2_6 f2_4 (fun h => by cases h))]; exact f2_6
  have f3_6 : g_3 rL = some (.inr (5, [.ref lL, .int (nI lf.length)])) := by rw [eg_3, hs_n _ _ (h_ne f2_7 f2_4 (fun h => by simp at h))]; exact f2_7
  have f3_7 : g_3 lL = some (.inl (cI, cL, .inl fL)) := by rw [eg_3, hs_n _ _ (h_ne f2_8 f2_4 (fun h => by cases h))]; exact f2_8
  have f3_8 : g_3 rR = some (.inr (5, [.ref lR, .int (nI rt.length)])) := by rw [eg_3, hs_n _ _ (h_ne f2_9 f2_4 (fun h => by simp at h))]; exact f2_9
  have f3_9 : g_3 lR = some (.inl (cI, cR_, .inl fR)) := by rw [eg_3, hs_n _ _ (h_ne f2_10 f2_4 (fun h => by cases h))]; exact f2_10
  have f3_10 : g_3 p1 = some (.inr (3, [.ref rB, .int (nI a), .int (nI i)])) := by rw [eg_3, hs_n _ _ n_p1_p3]; exact f2_11
  have f3_11 : g_3 p2 = some (.inr (3, [.ref rL, .int (nI la), .int (nI lj)])) := by rw [eg_3, hs_n _ _ n_p2_p3]; exact f2_12
  have f3_12 : g_3 p3 = some (.inr (3, [.ref rR, .int (nI ra), .int (nI rj)])) := by rw [eg_3]; exact hs_s _ _ _
  have fr := fr.put eg_3 (by simp)
  refine lv_aload_n S0.1 S0.2.1 dMg_mergeParts_24 rfl (lv_at hl 0 rfl) ?_
  refine hw_get S0 hK hg f3_0 rfl inMg 6 (by decide) lf_Mg_42 rfl rfl dMg_mergeParts_25 ?_
  refine lv_aload_n S0.1 S0.2.1 dMg_mergeParts_28 rfl (lv_at hl 0 rfl) ?_
  refine hw_get S0 hK hg f3_0 rfl inMg 7 (by decide) lf_Mg_45 rfl rfl dMg_mergeParts_29 ?_
  refine hw_Vi (As := [.ref p3]) (rest := []) S0 hK hg hS hA0 f3_11 rfl (c_Pa_isLike l D cI cR cJ g_3 _ p2 rL lL cL la lj p3 rR lR cR_ ra rj lf rt fL fR f3_11 f3_6 f3_7 f3_12 f3_8 f3_9 eL eR hal hlj hcL hdL har hrj hcR hdR) kPa_isLike lm_Mg_88 (hR.call rfl) rfl hl.1 rfl (Nat.le_of_ble_eq_true rfl) dMg_mergeParts_32 (hR.new (by decide) (by decide)) (fun r_32 g_4 H locs hp_32 hg hS => ?_)
  rw [hp_32.1] at hg
  replace hp_32 := hp_32.2
  rcases hp_32 with ⟨ho, k23⟩ | ⟨ho, k23⟩
  · skip
    subst ho
    refine lv_if_ne (tgt := 52) S0.1 S0.2.1 dMg_mergeParts_35 (by decide) (fun c_35 => ?_) (fun c_35 => ?_)
    · skip
      rw [← nI_0] at c_35
      have c_35 : ¬ (1 = 0) := fun h => c_35 ((nI_eq (by omega) (by omega)).mpr h)
      refine lv_aload_n S0.1 S0.2.1 dMg_mergeParts_52 rfl (lv_at hl 0 rfl) ?_
      refine lv_aload_n S0.1 S0.2.1 dMg_mergeParts_53 rfl (lv_at hl 0 rfl) ?_
      refine hw_get S0 hK hg f3_0 rfl inMg 6 (by decide) lf_Mg_42 rfl rfl dMg_mergeParts_54 ?_
      refine hw_Vv (As := [.ref p2]) (rest := []) S0 hK hg hS hA0 f3_0 rfl (c_Mg_take l D cI cR cJ g_3 _ mo oc cc c1 c2 p1 p2 p3 lo p2 rL lL cL la lj _ s.1 lf fo fL f3_0 f3_2 f3_3 f3_11 f3_6 f3_7 eo eL n_rL_oc n_lL_lo hal hlj hcL hdL (by first | omega | (rw [List.length_append, pt_len hlj]; omega))) kMg_take lm_Mg_92 (hR.call rfl) rfl hl.1 rfl (Nat.le_of_ble_eq_true rfl) dMg_mergeParts_57 (hR.new (by decide) (by decide)) (fun g_5 H locs hp_57 hg hS => ?_)
      obtain ⟨frt57, ft57, t057, t157, t257⟩ := hp_57
      have k5_0 := frt57.at (h_nm (h_ne f3_0 f3_2 (fun h => by simp at h)) (h_nm (h_ne f3_0 f3_3 (fun h => by cases h)) h_n0)) f3_0
      have k5_1 := frt57.at (h_nm (h_ne f3_1 f3_2 (fun h => by cases h)) (h_nm (Ne.symm n_lo_cc) h_n0)) f3_1
      have k5_2 := frt57.at (h_nm n_rB_oc (h_nm (h_ne f3_4 f3_3 (fun h => by cases h)) h_n0)) f3_4
      have k5_3 := frt57.at (h_nm (h_ne f3_5 f3_2 (fun h => by cases h)) (h_nm n_lB_lo h_n0)) f3_5
      have k5_4 := frt57.at (h_nm n_rL_oc (h_nm (h_ne f3_6 f3_3 (fun h => by cases h)) h_n0)) f3_6
      have k5_5 := frt57.at (h_nm (h_ne f3_7 f3_2 (fun h => by cases h)) (h_nm n_lL_lo h_n0)) f3_7
      have k5_6 := frt57.at (h_nm n_rR_oc (h_nm (h_ne f3_8 f3_3 (fun h => by cases h)) h_n0)) f3_8
      have k5_7 := frt57.at (h_nm (h_ne f3_9 f3_2 (fun h => by cases h)) (h_nm n_lR_lo h_n0)) f3_9
      have k5_8 := frt57.at (h_nm (h_ne f3_10 f3_2 (fun h => by simp at h)) (h_nm (h_ne f3_10 f3_3 (fun h => by cases h)) h_n0)) f3_10
      have k5_9 := frt57.at (h_nm (h_ne f3_11 f3_2 (fun h => by simp at h)) (h_nm (h_ne f3_11 f3_3 (fun h => by cases h)) h_n0)) f3_11
      have k5_10 := frt57.at (h_nm (h_ne f3_12 f3_2 (fun h => by simp at h)) (h_nm (h_ne f3_12 f3_3 (fun h => by cases h)) h_n0)) f3_12
      have fr := fr.call frt57 (by simp)
      refine lv_goto (tgt := 108) S0.1 S0.2.1 dMg_mergeParts_60 (by decide) ?_
      have ej : joinP bs lf rt a i la lj ra rj s = (s.1 ++ pt lf la lj, s.2) := if_pos (Or.inl k23)
      exact hend _ _ _ _ _ _ _ (by decide) (by decide) (by rw [ej]; exact ⟨fr, _, _, k5_0, k5_1, t057, t157, k5_8, k5_9, k5_10, t257, ec⟩) hg hS dMg_mergeParts_108
    · skip
      rw [← nI_0] at c_35
      have c_35 : 1 = 0 := (nI_eq (by omega) (by omega)).mp c_35
      exact absurd c_35 (by decide)
  · skip
    subst ho
    refine lv_if_ne (tgt := 52) S0.1 S0.2.1 dMg_mergeParts_35 (by decide) (fun c_35 => ?_) (fun c_35 => ?_)
    · skip
      rw [← nI_0] at c_35
      have c_35 : ¬ (0 = 0) := fun h => c_35 ((nI_eq (by omega) (by omega)).mpr h)
      exact absurd c_35 (by decide)
    · skip
      rw [← nI_0] at c_35
      have c_35 : 0 = 0 := (nI_eq (by omega) (by omega)).mp c_35
      refine lv_aload_n S0.1 S0.2.1 dMg_mergeParts_38 rfl (lv_at hl 0 rfl) ?_
      refine hw_get S0 hK hg f3_0 rfl inMg 7 (by decide) lf_Mg_45 rfl rfl dMg_mergeParts_39 ?_
      refine lv_aload_n S0.1 S0.2.1 dMg_mergeParts_42 rfl (lv_at hl 0 rfl) ?_
      refine hw_get S0 hK hg f3_0 rfl inMg 5 (by decide) lf_Mg_38 rfl rfl dMg_mergeParts_43 ?_
      refine hw_Vi (As := [.ref p1]) (rest := []) S0 hK hg hS hA0 f3_12 rfl (c_Pa_isLike l D cI cR cJ g_3 _ p3 rR lR cR_ ra rj p1 rB lB cB a i rt bs fR fB f3_12 f3_8 f3_9 f3_10 f3_4 f3_5 eR eB har hrj hcR hdR hai hi hcB hdB) kPa_isLike lm_Mg_88 (hR.call rfl) rfl hl.1 rfl (Nat.le_of_ble_eq_true rfl) dMg_mergeParts_46 (hR.new (by decide) (by decide)) (fun r_46 g_6 H locs hp_46 hg hS => ?_)
      rw [hp_46.1] at hg
      replace hp_46 := hp_46.2
      rcases hp_46 with ⟨ho, k31⟩ | ⟨ho, k31⟩
      · skip
        subst ho
        refine lv_if_eq (tgt := 63) S0.1 S0.2.1 dMg_mergeParts_49 (by decide) (fun c_49 => ?_) (fun c_49 => ?_)
        · skip
          rw [← nI_0] at c_49
          have c_49 : 1 = 0 := (nI_eq (by omega) (by omega)).mp c_49
          exact absurd c_49 (by decide)
        · skip
          rw [← nI_0] at c_49
          have c_49 : ¬ (1 = 0) := fun h => c_49 ((nI_eq (by omega) (by omega)).mpr h)
          refine lv_aload_n S0.1 S0.2.1 dMg_mergeParts_52 rfl (lv_at hl 0 rfl) ?_
          refine lv_aload_n S0.1 S0.2.1 dMg_mergeParts_53 rfl (lv_at hl 0 rfl) ?_
          refine hw_get S0 hK hg f3_0 rfl inMg 6 (by decide) lf_Mg_42 rfl rfl dMg_mergeParts_54 ?_
          refine hw_Vv (As := [.ref p2]) (rest := []) S0 hK hg hS hA0 f3_0 rfl (c_Mg_take l D cI cR cJ g_3 _ mo oc cc c1 c2 p1 p2 p3 lo p2 rL lL cL la lj _ s.1 lf fo fL f3_0 f3_2 f3_3 f3_11 f3_6 f3_7 eo eL n_rL_oc n_lL_lo hal hlj hcL hdL (by first | omega | (rw [List.length_append, pt_len hlj]; omega))) kMg_take lm_Mg_92 (hR.call rfl) rfl hl.1 rfl (Nat.le_of_ble_eq_true rfl) dMg_mergeParts_57 (hR.new (by decide) (by decide)) (fun g_7 H locs hp_57 hg hS => ?_)
          obtain ⟨frt57, ft57, t057, t157, t257⟩ := hp_57
          have k7_0 := frt57.at (h_nm (h_ne f3_0 f3_2 (fun h => by simp at h)) (h_nm (h_ne f3_0 f3_3 (fun h => by cases h)) h_n0)) f3_0
          have k7_1 := frt57.at (h_nm (h_ne f3_1 f3_2 (fun h => by cases h)) (h_nm (Ne.symm n_lo_cc) h_n0)) f3_1
          have k7_2 := frt57.at (h_nm n_rB_oc (h_nm (h_ne f3_4 f3_3 (fun h => by cases h)) h_n0)) f3_4
          have k7_3 := frt57.at (h_nm (h_ne f3_5 f3_2 (fun h => by cases h)) (h_nm n_lB_lo h_n0)) f3_5
          have k7_4 := frt57.at (h_nm n_rL_oc (h_nm (h_ne f3_6 f3_3 (fun h => by cases h)) h_n0)) f3_6
          have k7_5 := frt57.at (h_nm (h_ne f3_7 f3_2 (fun h => by cases h)) (h_nm n_lL_lo h_n0)) f3_7
          have k7_6 := frt57.at (h_nm n_rR_oc (h_nm (h_ne f3_8 f3_3 (fun h => by cases h)) h_n0)) f3_8
          have k7_7 := frt57.at (h_nm (h_ne f3_9 f3_2 (fun h => by cases h)) (h_nm n_lR_lo h_n0)) f3_9
          have k7_8 := frt57.at (h_nm (h_ne f3_10 f3_2 (fun h => by simp at h)) (h_nm (h_ne f3_10 f3_3 (fun h => by cases h)) h_n0)) f3_10
          have k7_9 := frt57.at (h_nm (h_ne f3_11 f3_2 (fun h => by simp at h)) (h_nm (h_ne f3_11 f3_3 (fun h => by cases h)) h_n0)) f3_11
          have k7_10 := frt57.at (h_nm (h_ne f3_12 f3_2 (fun h => by simp at h)) (h_nm (h_ne f3_12 f3_3 (fun h => by cases h)) h_n0)) f3_12
          have fr := fr.call frt57 (by simp)
          refine lv_goto (tgt := 108) S0.1 S0.2.1 dMg_mergeParts_60 (by decide) ?_
          have ej : joinP bs lf rt a i la lj ra rj s = (s.1 ++ pt lf la lj, s.2) := if_pos (Or.inr k31)
          exact hend _ _ _ _ _ _ _ (by decide) (by decide) (by rw [ej]; exact ⟨fr, _, _, k7_0, k7_1, t057, t157, k7_8, k7_9, k7_10, t257, ec⟩) hg hS dMg_mergeParts_108
      · skip
        subst ho
        refine lv_if_eq (tgt := 63) S0.1 S0.2.1 dMg_mergeParts_49 (by decide) (fun c_49 => ?_) (fun c_49 => ?_)
        · skip
          rw [← nI_0] at c_49
          have c_49 : 0 = 0 := (nI_eq (by omega) (by omega)).mp c_49
          refine lv_aload_n S0.1 S0.2.1 dMg_mergeParts_63 rfl (lv_at hl 0 rfl) ?_
          refine hw_get S0 hK hg f3_0 rfl inMg 6 (by decide) lf_Mg_42 rfl rfl dMg_mergeParts_64 ?_
          refine lv_aload_n S0.1 S0.2.1 dMg_mergeParts_67 rfl (lv_at hl 0 rfl) ?_
          refine hw_get S0 hK hg f3_0 rfl inMg 5 (by decide) lf_Mg_38 rfl rfl dMg_mergeParts_68 ?_
          refine hw_Vi (As := [.ref p1]) (rest := []) S0 hK hg hS hA0 f3_11 rfl (c_Pa_isLike l D cI cR cJ g_3 _ p2 rL lL cL la lj p1 rB lB cB a i lf bs fL fB f3_11 f3_6 f3_7 f3_10 f3_4 f3_5 eL eB hal hlj hcL hdL hai hi hcB hdB) kPa_isLike lm_Mg_88 (hR.call rfl) rfl hl.1 rfl (Nat.le_of_ble_eq_true rfl) dMg_mergeParts_71 (hR.new (by decide) (by decide)) (fun r_71 g_8 H locs hp_71 hg hS => ?_)
          rw [hp_71.1] at hg
          replace hp_71 := hp_71.2
          rcases hp_71 with ⟨ho, k21⟩ | ⟨ho, k21⟩
          · skip
            subst ho
            refine lv_if_eq (tgt := 88) S0.1 S0.2.1 dMg_mergeParts_74 (by decide) (fun c_74 => ?_) (fun c_74 => ?_)
            · skip
              rw [← nI_0] at c_74
              have c_74 : 1 = 0 := (nI_eq (by omega) (by omega)).mp c_74
              exact absurd c_74 (by decide)
            · skip
              rw [← nI_0] at c_74
              have c_74 : ¬ (1 = 0) := fun h => c_74 ((nI_eq (by omega) (by omega)).mpr h)
              refine lv_aload_n S0.1 S0.2.1 dMg_mergeParts_77 rfl (lv_at hl 0 rfl) ?_
              refine lv_aload_n S0.1 S0.2.1 dMg_mergeParts_78 rfl (lv_at hl 0 rfl) ?_
              refine hw_get S0 hK hg f3_0 rfl inMg 7 (by decide) lf_Mg_45 rfl rfl dMg_mergeParts_79 ?_
              refine hw_Vv (As := [.ref p3]) (rest := []) S0 hK hg hS hA0 f3_0 rfl (c_Mg_take l D cI cR cJ g_3 _ mo oc cc c1 c2 p1 p2 p3 lo p3 rR lR cR_ ra rj _ s.1 rt fo fR f3_0 f3_2 f3_3 f3_12 f3_8 f3_9 eo eR n_rR_oc n_lR_lo har hrj hcR hdR (by first | omega | (rw [List.length_append, pt_len hlj]; omega))) kMg_take lm_Mg_92 (hR.call rfl) rfl hl.1 rfl (Nat.le_of_ble_eq_true rfl) dMg_mergeParts_82 (hR.new (by decide) (by decide)) (fun g_9 H locs hp_82 hg hS => ?_)
              obtain ⟨frt82, ft82, t082, t182, t282⟩ := hp_82
              have k9_0 := frt82.at (h_nm (h_ne f3_0 f3_2 (fun h => by simp at h)) (h_nm (h_ne f3_0 f3_3 (fun h => by cases h)) h_n0)) f3_0
              have k9_1 := frt82.at (h_nm (h_ne f3_1 f3_2 (fun h => by cases h)) (h_nm (Ne.symm n_lo_cc) h_n0)) f3_1
              have k9_2 := frt82.at (h_nm n_rB_oc (h_nm (h_ne f3_4 f3_3 (fun h => by cases h)) h_n0)) f3_4
              have k9_3 := frt82.at (h_nm (h_ne f3_5 f3_2 (fun h => by cases h)) (h_nm n_lB_lo h_n0)) f3_5
              have k9_4 := frt82.at (h_nm n_rL_oc (h_nm (h_ne f3_6 f3_3 (fun h => by cases h)) h_n0)) f3_6
              have k9_5 := frt82.at (h_nm (h_ne f3_7 f3_2 (fun h => by cases h)) (h_nm n_lL_lo h_n0)) f3_7
              have k9_6 := frt82.at (h_nm n_rR_oc (h_nm (h_ne f3_8 f3_3 (fun h => by cases h)) h_n0)) f3_8
              have k9_7 := frt82.at (h_nm (h_ne f3_9 f3_2 (fun h => by cases h)) (h_nm n_lR_lo h_n0)) f3_9
              have k9_8 := frt82.at (h_nm (h_ne f3_10 f3_2 (fun h => by simp at h)) (h_nm (h_ne f3_10 f3_3 (fun h => by cases h)) h_n0)) f3_10
              have k9_9 := frt82.at (h_nm (h_ne f3_11 f3_2 (fun h => by simp at h)) (h_nm (h_ne f3_11 f3_3 (fun h => by cases h)) h_n0)) f3_11
              have k9_10 := frt82.at (h_nm (h_ne f3_12 f3_2 (fun h => by simp at h)) (h_nm (h_ne f3_12 f3_3 (fun h => by cases h)) h_n0)) f3_12
              have fr := fr.call frt82 (by simp)
              refine lv_goto (tgt := 108) S0.1 S0.2.1 dMg_mergeParts_85 (by decide) ?_
              have ej : joinP bs lf rt a i la lj ra rj s = (s.1 ++ pt rt ra rj, s.2) := (if_neg (fun h => h.elim k23 k31)).trans (if_pos k21)
              exact hend _ _ _ _ _ _ _ (by decide) (by decide) (by rw [ej]; exact ⟨fr, _, _, k9_0, k9_1, t082, t182, k9_8, k9_9, k9_10, t282, ec⟩) hg hS dMg_mergeParts_108
          · skip
            subst ho
            refine lv_if_eq (tgt := 88) S0.1 S0.2.1 dMg_mergeParts_74 (by decide) (fun c_74 => ?_) (fun c_74 => ?_)
            · skip
              rw [← nI_0] at c_74
              have c_74 : 0 = 0 := (nI_eq (by omega) (by omega)).mp c_74
              refine lv_aload_n S0.1 S0.2.1 dMg_mergeParts_88 rfl (lv_at hl 0 rfl) ?_
              refine hw_Vv (As := []) (rest := []) S0 hK hg hS hA0 f3_0 rfl (c_Mg_addConflict l D cI cR cJ g_3 _ mo oc cc c1 c2 p1 p2 p3 lo rL rR s.2.length s.1.length la lj ra rj fc s.2 f3_0 f3_1 f3_2 f3_11 f3_12 rfl hcf ec hal har) kMg_addConflict lm_Mg_96 (hR.call rfl) rfl hl.1 rfl (Nat.le_of_ble_eq_true rfl) dMg_mergeParts_89 (hR.new (by decide) (by decide)) (fun g_10 H locs hp_89 hg hS => ?_)
              obtain ⟨frc, fk, u0, u1, u2⟩ := hp_89
              have k10_0 := frc.at (h_nm (h_ne f3_2 f3_0 (fun h => by simp at h)) (h_nm (h_ne f3_2 f3_1 (fun h => by cases h)) h_n0)) f3_2
              have k10_1 := frc.at (h_nm (h_ne f3_3 f3_0 (fun h => by cases h)) (h_nm n_lo_cc h_n0)) f3_3
              have k10_2 := frc.at (h_nm (h_ne f3_4 f3_0 (fun h => by simp at h)) (h_nm (h_ne f3_4 f3_1 (fun h => by cases h)) h_n0)) f3_4
              have k10_3 := frc.at (h_nm (h_ne f3_5 f3_0 (fun h => by cases h)) (h_nm n_lB_cc h_n0)) f3_5
              have k10_4 := frc.at (h_nm (h_ne f3_6 f3_0 (fun h => by simp at h)) (h_nm (h_ne f3_6 f3_1 (fun h => by cases h)) h_n0)) f3_6
              have k10_5 := frc.at (h_nm (h_ne f3_7 f3_0 (fun h => by cases h)) (h_nm n_lL_cc h_n0)) f3_7
              have k10_6 := frc.at (h_nm (h_ne f3_8 f3_0 (fun h => by simp at h)) (h_nm (h_ne f3_8 f3_1 (fun h => by cases h)) h_n0)) f3_8
              have k10_7 := frc.at (h_nm (h_ne f3_9 f3_0 (fun h => by cases h)) (h_nm n_lR_cc h_n0)) f3_9
              have k10_8 := frc.at (h_nm (h_ne f3_10 f3_0 (fun h => by simp at h)) (h_nm (h_ne f3_10 f3_1 (fun h => by cases h)) h_n0)) f3_10
              have k10_9 := frc.at (h_nm (h_ne f3_11 f3_0 (fun h => by simp at h)) (h_nm (h_ne f3_11 f3_1 (fun h => by cases h)) h_n0)) f3_11
              have k10_10 := frc.at (h_nm (h_ne f3_12 f3_0 (fun h => by simp at h)) (h_nm (h_ne f3_12 f3_1 (fun h => by cases h)) h_n0)) f3_12
              have fr := fr.call frc (by simp)
              refine lv_aload_n S0.1 S0.2.1 dMg_mergeParts_92 rfl (lv_at hl 0 rfl) ?_
              refine lv_aload_n S0.1 S0.2.1 dMg_mergeParts_93 rfl (lv_at hl 0 rfl) ?_
              refine hw_get S0 hK hg u0 rfl inMg 6 (by decide) lf_Mg_42 rfl rfl dMg_mergeParts_94 ?_
              refine hw_Vv (As := [.ref p2]) (rest := []) S0 hK hg hS hA0 u0 rfl (c_Mg_take l D cI cR cJ g_10 _ mo oc cc c1 c2 p1 p2 p3 lo p2 rL lL cL la lj _ s.1 lf fo fL u0 k10_0 k10_1 k10_9 k10_4 k10_5 eo eL n_rL_oc n_lL_lo hal hlj hcL hdL (by first | omega | (rw [List.length_append, pt_len hlj]; omega))) kMg_take lm_Mg_92 (hR.call rfl) rfl hl.1 rfl (Nat.le_of_ble_eq_true rfl) dMg_mergeParts_97 (hR.new (by decide) (by decide)) (fun g_11 H locs hp_97 hg hS => ?_)
              obtain ⟨frt97, ft97, t097, t197, t297⟩ := hp_97
              have k11_0 := frt97.at (h_nm n_rB_oc (h_nm (h_ne k10_2 k10_1 (fun h => by cases h)) h_n0)) k10_2
              have k11_1 := frt97.at (h_nm (h_ne k10_3 k10_0 (fun h => by cases h)) (h_nm n_lB_lo h_n0)) k10_3
              have k11_2 := frt97.at (h_nm n_rL_oc (h_nm (h_ne k10_4 k10_1 (fun h => by cases h)) h_n0)) k10_4
              have k11_3 := frt97.at (h_nm (h_ne k10_5 k10_0 (fun h => by cases h)) (h_nm n_lL_lo h_n0)) k10_5
              have k11_4 := frt97.at (h_nm n_rR_oc (h_nm (h_ne k10_6 k10_1 (fun h => by cases h)) h_n0)) k10_6
              have k11_5 := frt97.at (h_nm (h_ne k10_7 k10_0 (fun h => by cases h)) (h_nm n_lR_lo h_n0)) k10_7
              have k11_6 := frt97.at (h_nm (h_ne k10_8 k10_0 (fun h => by simp at h)) (h_nm (h_ne k10_8 k10_1 (fun h => by cases h)) h_n0)) k10_8
              have k11_7 := frt97.at (h_nm (h_ne k10_9 k10_0 (fun h => by simp at h)) (h_nm (h_ne k10_9 k10_1 (fun h => by cases h)) h_n0)) k10_9
              have k11_8 := frt97.at (h_nm (h_ne k10_10 k10_0 (fun h => by simp at h)) (h_nm (h_ne k10_10 k10_1 (fun h => by cases h)) h_n0)) k10_10
              have k11_9 := frt97.at (h_nm (h_ne u0 k10_0 (fun h => by simp at h)) (h_nm (h_ne u0 k10_1 (fun h => by cases h)) h_n0)) u0
              have k11_10 := frt97.at (h_nm (h_ne u1 k10_0 (fun h => by cases h)) (h_nm (Ne.symm n_lo_cc) h_n0)) u1
              have fr := fr.call frt97 (by simp)
              refine lv_aload_n S0.1 S0.2.1 dMg_mergeParts_100 rfl (lv_at hl 0 rfl) ?_
              refine lv_aload_n S0.1 S0.2.1 dMg_mergeParts_101 rfl (lv_at hl 0 rfl) ?_
              refine hw_get S0 hK hg k11_9 rfl inMg 7 (by decide) lf_Mg_45 rfl rfl dMg_mergeParts_102 ?_
              refine hw_Vv (As := [.ref p3]) (rest := []) S0 hK hg hS hA0 k11_9 rfl (c_Mg_take l D cI cR cJ g_11 _ mo oc cc c1 c2 p1 p2 p3 lo p3 rR lR cR_ ra rj _ (s.1 ++ pt lf la lj) rt ft97 fR k11_9 t097 t197 k11_8 k11_4 k11_5 t297 eR n_rR_oc n_lR_lo har hrj hcR hdR (by first | omega | (rw [List.length_append, pt_len hlj]; omega))) kMg_take lm_Mg_92 (hR.call rfl) rfl hl.1 rfl (Nat.le_of_ble_eq_true rfl) dMg_mergeParts_105 (hR.new (by decide) (by decide)) (fun g_12 H locs hp_105 hg hS => ?_)
              obtain ⟨frt105, ft105, t0105, t1105, t2105⟩ := hp_105
              have k12_0 := frt105.at (h_nm n_rB_oc (h_nm (h_ne k11_0 t197 (fun h => by cases h)) h_n0)) k11_0
              have k12_1 := frt105.at (h_nm (h_ne k11_1 t097 (fun h => by cases h)) (h_nm n_lB_lo h_n0)) k11_1
              have k12_2 := frt105.at (h_nm n_rL_oc (h_nm (h_ne k11_2 t197 (fun h => by cases h)) h_n0)) k11_2
              have k12_3 := frt105.at (h_nm (h_ne k11_3 t097 (fun h => by cases h)) (h_nm n_lL_lo h_n0)) k11_3
              have k12_4 := frt105.at (h_nm n_rR_oc (h_nm (h_ne k11_4 t197 (fun h => by cases h)) h_n0)) k11_4
              have k12_5 := frt105.at (h_nm (h_ne k11_5 t097 (fun h => by cases h)) (h_nm n_lR_lo h_n0)) k11_5
              have k12_6 := frt105.at (h_nm (h_ne k11_6 t097 (fun h => by simp at h)) (h_nm (h_ne k11_6 t197 (fun h => by cases h)) h_n0)) k11_6
              have k12_7 := frt105.at (h_nm (h_ne k11_7 t097 (fun h => by simp at h)) (h_nm (h_ne k11_7 t197 (fun h => by cases h)) h_n0)) k11_7
              have k12_8 := frt105.at (h_nm (h_ne k11_8 t097 (fun h => by simp at h)) (h_nm (h_ne k11_8 t197 (fun h => by cases h)) h_n0)) k11_8
              have k12_9 := frt105.at (h_nm (h_ne k11_9 t097 (fun h => by simp at h)) (h_nm (h_ne k11_9 t197 (fun h => by cases h)) h_n0)) k11_9
              have k12_10 := frt105.at (h_nm (h_ne k11_10 t097 (fun h => by cases h)) (h_nm (Ne.symm n_lo_cc) h_n0)) k11_10
              have fr := fr.call frt105 (by simp)
              have ej : joinP bs lf rt a i la lj ra rj s = (s.1 ++ pt lf la lj ++ pt rt ra rj, s.2 ++ [(s.1.length, lj - la, rj - ra)]) := (if_neg (fun h => h.elim k23 k31)).trans (if_neg k21)
              exact hend _ _ _ _ _ _ _ (by decide) (by decide) (by rw [ej]; exact ⟨fr, _, _, k12_9, k12_10, t0105, t1105, k12_6, k12_7, k12_8, t2105, u2⟩) hg hS dMg_mergeParts_108
            · skip
              rw [← nI_0] at c_74
              have c_74 : ¬ (0 = 0) := fun h => c_74 ((nI_eq (by omega) (by omega)).mpr h)
              exact absurd c_74 (by decide)
        · skip
          rw [← nI_0] at c_49
          have c_49 : ¬ (0 = 0) := fun h => c_49 ((nI_eq (by omega) (by omega)).mpr h)
          exact absurd c_49 (by decide)
