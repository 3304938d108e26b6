/-! ROWS of lines -/
abbrev hT (cI cR cJ : ClassId) : List (ClassId × FieldType) := [(cI, .int), (cR, .object "MergeRows$Row"), (cJ, .long)]
set_option maxRecDepth 100000 in
set_option maxHeartbeats 4000000 in
theorem c_Ro_add (l : Launch) (D : va_G) (cI cR cJ : ClassId) (g : Nat → Option va_E) (sz : Nat) (r la n cap : Nat) (f : Nat → Int32) (v : Int32) (h0 : g r = some (.inr (5, [.ref la, .int (nI n)]))) (h1 : g la = some (.inl (cI, cap, .inl f))) (hn : n < cap) (hcap : cap < 4000) : hMv l yRo_add cRo_add 2 (hRm 0 0 0 0) D (hT cI cR cJ) g sz [.ref r, .int v] (fun g1 => hfr g g1 [r, la] ∧ g1 r = some (.inr (5, [.ref la, .int (nI (n + 1))])) ∧ g1 la = some (.inl (cI, cap, .inl (upd f n v)))) := by
  refine hMv_of (by decide +kernel) (Nat.le_of_ble_eq_true rfl) ?_
  intro pX eX RX sX mX argsX belowX methX cX QX AX hR S0 hnm hsz hg hK hS hA0 hend ls hl
  have hl : lv_has ls 2 [(0, .ref r), (1, .int v)] := hl
  have fr : hfr g g [r, la] := hfr.rf
  refine lv_aload_n S0.1 S0.2.1 dRo_add_0 rfl (lv_at hl 0 rfl) ?_
  refine hw_get S0 hK hg h0 rfl inRo 1 (by decide) lf_Ro_15 rfl rfl dRo_add_1 ?_
  refine lv_aload_n S0.1 S0.2.1 dRo_add_4 rfl (lv_at hl 0 rfl) ?_
  refine hw_get S0 hK hg h0 rfl inRo 0 (by decide) lf_Ro_9 rfl rfl dRo_add_5 ?_
  refine hw_alen S0 hK hg h1 0 rfl dRo_add_8 ?_
  refine lv_icmp_ge (tgt := 32) S0.1 S0.2.1 dRo_add_9 (by decide) (fun c_9 => ?_) (fun c_9 => ?_)
  · skip
    have c_9 : cap ≤ n := (nI_leI (by omega) (by omega)).mp c_9
    exact absurd hn (by omega)
  · skip
    have c_9 : ¬ (cap ≤ n) := fun h => c_9 ((nI_leI (by omega) (by omega)).mpr h)
    refine lv_aload_n S0.1 S0.2.1 dRo_add_12 rfl (lv_at hl 0 rfl) ?_
    refine hw_get S0 hK hg h0 rfl inRo 0 (by decide) lf_Ro_9 rfl rfl dRo_add_13 ?_
    refine lv_aload_n S0.1 S0.2.1 dRo_add_16 rfl (lv_at hl 0 rfl) ?_
    refine hw_get S0 hK hg h0 rfl inRo 1 (by decide) lf_Ro_15 rfl rfl dRo_add_17 ?_
    refine lv_iload_n S0.1 S0.2.1 dRo_add_20 rfl (lv_at hl 1 rfl) ?_
    refine hw_iast S0 hK hg hS h1 0 rfl (by omega) (by omega) dRo_add_21 (fun H locs hg hS => ?_)
    obtain ⟨g_1, eg_1⟩ : ∃ z, z = hs g la (.inl (cI, cap, .inl (upd f n v))) := ⟨_, rfl⟩
    have hg : hw D hC AX g_1 H := by rw [eg_1]; exact hg
    have f1_0 : g_1 r = some (.inr (5, [.ref la, .int (nI n)])) := by rw [eg_1, hs_n _ _ (h_ne h0 h1 (fun h => by cases h))]; exact h0
    have f1_1 : g_1 la = some (.inl (cI, cap, .inl (upd f n v))) := by rw [eg_1]; exact hs_s _ _ _
    have fr := fr.put eg_1 (by simp)
    refine lv_aload_n S0.1 S0.2.1 dRo_add_22 rfl (lv_at hl 0 rfl) ?_
    refine lv_dup S0.1 S0.2.1 dRo_add_23 rfl ?_
    refine hw_get S0 hK hg f1_0 rfl inRo 1 (by decide) lf_Ro_15 rfl rfl dRo_add_24 ?_
    refine lv_iconst (v := nI 1) S0.1 S0.2.1 dRo_add_27 (by decide) ?_
    refine lv_iadd S0.1 S0.2.1 dRo_add_28 ?_
    refine hw_top (nI (n + 1)) (nI_add _ _) ?_
    refine hw_put S0 hK hg hS f1_0 rfl inRo tyRo tokRo nmRo 1 (by decide) lf_Ro_15 rfl rfl rfl rfl (Nat.le_of_ble_eq_true rfl) dRo_add_29 (fun H locs hg hS => ?_)
    obtain ⟨g_2, eg_2⟩ : ∃ z, z = hs g_1 r (.inr (5, [.ref la, .int (nI (n + 1))])) := ⟨_, rfl⟩
    have hg : hw D hC AX g_2 H := by rw [eg_2]; exact hg
    have f2_0 : g_2 la = some (.inl (cI, cap, .inl (upd f n v))) := by rw [eg_2, hs_n _ _ (h_ne f1_1 f1_0 (fun h => by cases h))]; exact f1_1
    have f2_1 : g_2 r = some (.inr (5, [.ref la, .int (nI (n + 1))])) := by rw [eg_2]; exact hs_s _ _ _
    have fr := fr.put eg_2 (by simp)
    exact hend _ _ _ _ _ _ _ (by decide) (by decide) (⟨fr, f2_1, f2_0⟩) hg hS dRo_add_32
set_option maxRecDepth 100000 in
set_option maxHeartbeats 4000000 in
theorem c_Ro_hasAt (l : Launch) (D : va_G) (cI cR cJ : ClassId) (g : Nat → Option va_E) (sz : Nat) (r la n cap : Nat) (f : Nat → Int32) (p v : Int32) (h0 : g r = some (.inr (5, [.ref la, .int (nI n)]))) (h1 : g la = some (.inl (cI, cap, .inl f))) (hn : n ≤ cap) (hcap : cap < 4000) : hMi l yRo_hasAt cRo_hasAt 3 .boolean (hRm 0 0 0 0) D (hT cI cR cJ) g sz [.ref r, .int p, .int v] (fun o g1 => g1 = g ∧ ((o = 1 ∧ ∃ k : Nat, k < n ∧ p = nI k ∧ f k = v) ∨ (o = 0 ∧ ¬ ∃ k : Nat, k < n ∧ p = nI k ∧ f k = v))) := by
  refine hMi_of (by decide +kernel) (Nat.le_of_ble_eq_true rfl) ?_
  intro pX eX RX sX mX argsX belowX methX cX QX AX hR S0 hnm hsz hg hK hS hA0 hend ls hl
  have hl : lv_has ls 3 [(0, .ref r), (1, .int p), (2, .int v)] := hl
  refine lv_iload_n S0.1 S0.2.1 dRo_hasAt_0 rfl (lv_at hl 1 rfl) ?_
  refine lv_if_lt (tgt := 26) S0.1 S0.2.1 dRo_hasAt_1 (by decide) (fun c_1 => ?_) (fun c_1 => ?_)
  · skip
    refine lv_iconst (v := nI 0) S0.1 S0.2.1 dRo_hasAt_26 (by decide) ?_
    refine hend _ _ _ _ _ _ _ _ (by decide) (by decide) rfl ⟨rfl, ?_⟩ hg hS dRo_hasAt_27
    exact Or.inr ⟨rfl, fun ⟨k, hk, hp, _⟩ => by rw [hp] at c_1; exact nI_pos (by omega) c_1⟩
  · skip
    obtain ⟨k, hk, rfl⟩ := nI_of c_1
    refine lv_iload_n S0.1 S0.2.1 dRo_hasAt_4 rfl (lv_at hl 1 rfl) ?_
    refine lv_aload_n S0.1 S0.2.1 dRo_hasAt_5 rfl (lv_at hl 0 rfl) ?_
    refine hw_get S0 hK hg h0 rfl inRo 1 (by decide) lf_Ro_15 rfl rfl dRo_hasAt_6 ?_
    refine lv_icmp_ge (tgt := 26) S0.1 S0.2.1 dRo_hasAt_9 (by decide) (fun c_9 => ?_) (fun c_9 => ?_)
    · skip
      have c_9 : n ≤ k := (nI_leI (by omega) (by omega)).mp c_9
      refine lv_iconst (v := nI 0) S0.1 S0.2.1 dRo_hasAt_26 (by decide) ?_
      refine hend _ _ _ _ _ _ _ _ (by decide) (by decide) rfl ⟨rfl, ?_⟩ hg hS dRo_hasAt_27
      exact Or.inr ⟨rfl, fun ⟨k1, hk1, hp, _⟩ => by have := (nI_eq (by omega) (by omega)).mp hp; omega⟩
    · skip
      have c_9 : ¬ (n ≤ k) := fun h => c_9 ((nI_leI (by omega) (by omega)).mpr h)
      refine lv_aload_n S0.1 S0.2.1 dRo_hasAt_12 rfl (lv_at hl 0 rfl) ?_
      refine hw_get S0 hK hg h0 rfl inRo 0 (by decide) lf_Ro_9 rfl rfl dRo_hasAt_13 ?_
      refine lv_iload_n S0.1 S0.2.1 dRo_hasAt_16 rfl (lv_at hl 1 rfl) ?_
      refine hw_iald S0 hK hg h1 0 rfl (by omega) (by omega) dRo_hasAt_17 ?_
      refine lv_iload_n S0.1 S0.2.1 dRo_hasAt_18 rfl (lv_at hl 2 rfl) ?_
      refine lv_icmp_ne (tgt := 26) S0.1 S0.2.1 dRo_hasAt_19 (by decide) (fun c_19 => ?_) (fun c_19 => ?_)
      · skip
        refine lv_iconst (v := nI 0) S0.1 S0.2.1 dRo_hasAt_26 (by decide) ?_
        refine hend _ _ _ _ _ _ _ _ (by decide) (by decide) rfl ⟨rfl, ?_⟩ hg hS dRo_hasAt_27
        exact Or.inr ⟨rfl, fun ⟨k1, hk1, hp, hf⟩ => c_19 (by have := (nI_eq (by omega) (by omega)).mp hp; subst this; exact hf)⟩
      · skip
        refine lv_iconst (v := nI 1) S0.1 S0.2.1 dRo_hasAt_22 (by decide) ?_
        refine lv_goto (tgt := 27) S0.1 S0.2.1 dRo_hasAt_23 (by decide) ?_
        refine hend _ _ _ _ _ _ _ _ (by decide) (by decide) rfl ⟨rfl, ?_⟩ hg hS dRo_hasAt_27
        exact Or.inl ⟨rfl, k, by omega, rfl, c_19⟩
set_option maxRecDepth 100000 in
set_option maxHeartbeats 4000000 in
theorem c_Ro_firstPlaceOf (l : Launch) (D : va_G) (cI cR cJ : ClassId) (g : Nat → Option va_E) (sz : Nat) (r la n cap i : Nat) (f : Nat → Int32) (v : Int32) (h0 : g r = some (.inr (5, [.ref la, .int (nI n)]))) (h1 : g la = some (.inl (cI, cap, .inl f))) (hi : i ≤ n) (hn : n ≤ cap) (hcap : cap < 4000) : hMi l yRo_firstPlaceOf cRo_firstPlaceOf 4 .int (hRm 0 0 0 0) D (hT cI cR cJ) g sz [.ref r, .int v, .int (nI i)] (fun o g1 => g1 = g ∧ ((∃ k : Nat, o = nI k ∧ i ≤ k ∧ k < n ∧ f k = v ∧ ∀ q, i ≤ q → q < k → f q ≠ v) ∨ (o = -1 ∧ ∀ q, i ≤ q → q < n → f q ≠ v))) := by
  refine hMi_of (by decide +kernel) (Nat.le_of_ble_eq_true rfl) ?_
  intro pX eX RX sX mX argsX belowX methX cX QX AX hR S0 hnm hsz hg hK hS hA0 hend ls hl
  have hl : lv_has ls 4 [(0, .ref r), (1, .int v), (2, .int (nI i))] := hl
  refine lv_iload_n S0.1 S0.2.1 dRo_firstPlaceOf_0 rfl (lv_at hl 2 rfl) ?_
  refine lv_istore_n (lv' := [(3, .int (nI i)), (0, .ref r), (1, .int v), (2, .int (nI i))]) S0.1 S0.2.1 dRo_firstPlaceOf_1 rfl hl (by decide) rfl (fun ls hl => ?_)
  have loop_2 : ∀ (n_2 : Nat) (k : Nat) (H : Heap) (locs : List Loc) (ls : Array Slot), n - k < n_2 → (i ≤ k ∧ k ≤ n) → (∀ q, i ≤ q → q < k → f q ≠ v) → hw D hC AX g H → va_S AX sX.heap H locs → lv_has ls 4 [(0, .ref r), (1, .int v), (3, .int (nI k))] → W pX l eX RX sX mX argsX belowX methX cX H locs 0 0 QX (F0 mX 2 ls []) := by
    intro n_2
    induction n_2 with
    | zero => intros; omega
    | succ n_2 ih_2 =>
      intro k H locs ls hm_2 hk hno hg hS hl
      refine lv_iload_n S0.1 S0.2.1 dRo_firstPlaceOf_2 rfl (lv_at hl 2 rfl) ?_
      refine lv_aload_n S0.1 S0.2.1 dRo_firstPlaceOf_3 rfl (lv_at hl 0 rfl) ?_
      refine hw_get S0 hK hg h0 rfl inRo 1 (by decide) lf_Ro_15 rfl rfl dRo_firstPlaceOf_4 ?_
      refine lv_icmp_ge (tgt := 28) S0.1 S0.2.1 dRo_firstPlaceOf_7 (by decide) (fun c_7 => ?_) (fun c_7 => ?_)
      · skip
        have c_7 : n ≤ k := (nI_leI (by omega) (by omega)).mp c_7
        refine lv_iconst (v := (-1)) S0.1 S0.2.1 dRo_firstPlaceOf_28 (by decide) ?_
        exact hend _ _ _ _ _ _ _ _ (by decide) (by decide) rfl (⟨rfl, Or.inr ⟨rfl, fun q h1 h2 => hno q h1 (by omega)⟩⟩) hg hS dRo_firstPlaceOf_29
      · skip
        have c_7 : ¬ (n ≤ k) := fun h => c_7 ((nI_leI (by omega) (by omega)).mpr h)
        refine lv_aload_n S0.1 S0.2.1 dRo_firstPlaceOf_10 rfl (lv_at hl 0 rfl) ?_
        refine hw_get S0 hK hg h0 rfl inRo 0 (by decide) lf_Ro_9 rfl rfl dRo_firstPlaceOf_11 ?_
        refine lv_iload_n S0.1 S0.2.1 dRo_firstPlaceOf_14 rfl (lv_at hl 2 rfl) ?_
        refine hw_iald S0 hK hg h1 0 rfl (by omega) (by omega) dRo_firstPlaceOf_15 ?_
        refine lv_iload_n S0.1 S0.2.1 dRo_firstPlaceOf_16 rfl (lv_at hl 1 rfl) ?_
        refine lv_icmp_ne (tgt := 22) S0.1 S0.2.1 dRo_firstPlaceOf_17 (by decide) (fun c_17 => ?_) (fun c_17 => ?_)
        · skip
          refine lv_iinc (v := nI (k + 1)) (lv' := [(3, .int (nI (k + 1))), (0, .ref r), (1, .int v)]) S0.1 S0.2.1 dRo_firstPlaceOf_22 hl (k := 2) rfl (by exact nI_add _ 1) (by decide) rfl (fun ls hl => ?_)
          refine lv_goto (tgt := 2) S0.1 S0.2.1 dRo_firstPlaceOf_25 (by decide) ?_
          exact ih_2 (k + 1) _ _ _ (by omega) (⟨by omega, by omega⟩) (fun q h1 h2 => by rcases Nat.lt_or_ge q k with h | h; exact hno q h1 h; rw [show q = k by omega]; exact c_17) hg hS (lv_sub hl [1, 2, 0] rfl)
        · skip
          refine lv_iload_n S0.1 S0.2.1 dRo_firstPlaceOf_20 rfl (lv_at hl 2 rfl) ?_
          exact hend _ _ _ _ _ _ _ _ (by decide) (by decide) rfl (⟨rfl, Or.inl ⟨k, rfl, hk.1, by omega, c_17, hno⟩⟩) hg hS dRo_firstPlaceOf_21
  exact loop_2 _ i _ _ _ (Nat.lt_succ_self _) (⟨Nat.le_refl _, hi⟩) (fun q h1 h2 => by omega) hg hS (lv_sub hl [1, 2, 0] rfl)
set_option maxRecDepth 100000 in
set_option maxHeartbeats 4000000 in
theorem c_Ro_addPart (l : Launch) (D : va_G) (cI cR cJ : ClassId) (g : Nat → Option va_E) (sz : Nat) (r la n cap o lo mo capo i j : Nat) (f fo : Nat → Int32) (h0 : g r = some (.inr (5, [.ref la, .int (nI n)]))) (h1 : g la = some (.inl (cI, cap, .inl f))) (h2 : g o = some (.inr (5, [.ref lo, .int (nI mo)]))) (h3 : g lo = some (.inl (cI, capo, .inl fo))) (hor : o ≠ r) (hol : lo ≠ la) (hij : i ≤ j) (hj : j ≤ capo) (hn : n + (j - i) ≤ cap) (hcap : cap < 4000) (hco : capo < 4000) (hjm : j ≤ mo) (hmo : mo < 4000) : hMv l yRo_addPart cRo_addPart 5 (hRm 1 21 0 0) D (hT cI cR cJ) g sz [.ref r, .ref o, .int (nI i), .int (nI j)] (fun g1 => hfr g g1 [r, la] ∧ g1 r = some (.inr (5, [.ref la, .int (nI (n + (j - i)))])) ∧ ∃ f1, g1 la = some (.inl (cI, cap, .inl f1)) ∧ (∀ q, q < n → f1 q = f q) ∧ ∀ q, q < j - i → f1 (n + q) = fo (i + q)) := by
  refine hMv_of (by decide +kernel) (Nat.le_of_ble_eq_true rfl) ?_
  intro pX eX RX sX mX argsX belowX methX cX QX AX hR S0 hnm hsz hg hK hS hA0 hend ls hl
  have hl : lv_has ls 5 [(0, .ref r), (1, .ref o), (2, .int (nI i)), (3, .int (nI j))] := hl
  have fr : hfr g g [r, la] := hfr.rf
  refine lv_iload_n S0.1 S0.2.1 dRo_addPart_0 rfl (lv_at hl 2 rfl) ?_
  refine lv_iconst (v := nI 0) S0.1 S0.2.1 dRo_addPart_1 (by decide) ?_
  refine hw_max S0 hR hl.1 lm_Ro_19 rfl ⟨Nat.zero_le _, Nat.zero_le _⟩ dRo_addPart_2 ?_
  refine hw_top (nI (max i 0)) (nI_max (by omega) (by omega)) ?_
  refine hw_top (nI i) (by rw [Nat.max_eq_left (Nat.zero_le _)]) ?_
  refine lv_istore (lv' := [(4, .int (nI i)), (0, .ref r), (1, .ref o), (2, .int (nI i)), (3, .int (nI j))]) S0.1 S0.2.1 dRo_addPart_5 hl (by decide) rfl (fun ls hl => ?_)
  have loop_7 : ∀ (n_7 : Nat) (t : Nat) (fl : Nat → Int32) (gl : Nat → Option va_E) (H : Heap) (locs : List Loc) (ls : Array Slot), j - (i + t) < n_7 → (i + t ≤ j) → (∀ q, q < n → fl q = f q) → (∀ q, q < t → fl (n + q) = fo (i + q)) → (hfr g gl [r, la]) → (gl r = some (.inr (5, [.ref la, .int (nI (n + t))]))) → (gl la = some (.inl (cI, cap, .inl fl))) → hw D hC AX gl H → va_S AX sX.heap H locs → lv_has ls 5 [(0, .ref r), (1, .ref o), (3, .int (nI j)), (4, .int (nI (i + t)))] → W pX l eX RX sX mX argsX belowX methX cX H locs 0 0 QX (F0 mX 7 ls []) := by
    intro n_7
    induction n_7 with
    | zero => intros; omega
    | succ n_7 ih_7 =>
      intro t fl gl H locs ls hm_7 ht hf1 hf2 fr e0 e1 hg hS hl
      have q7_o := fr.at (h_nm hor (h_nm (h_ne h2 h1 (fun h => by cases h)) h_n0)) h2
      have q7_lo := fr.at (h_nm (h_ne h3 h0 (fun h => by cases h)) (h_nm hol h_n0)) h3
      refine lv_iload S0.1 S0.2.1 dRo_addPart_7 (lv_at hl 3 rfl) ?_
      refine lv_iload_n S0.1 S0.2.1 dRo_addPart_9 rfl (lv_at hl 2 rfl) ?_
      refine lv_icmp_ge (tgt := 39) S0.1 S0.2.1 dRo_addPart_10 (by decide) (fun c_10 => ?_) (fun c_10 => ?_)
      · skip
        have c_10 : j ≤ (i + t) := (nI_leI (by omega) (by omega)).mp c_10
        have et : t = j - i := by omega
        subst et
        exact hend _ _ _ _ _ _ _ (by decide) (by decide) (⟨fr, e0, fl, e1, hf1, hf2⟩) hg hS dRo_addPart_39
      · skip
        have c_10 : ¬ (j ≤ (i + t)) := fun h => c_10 ((nI_leI (by omega) (by omega)).mpr h)
        refine lv_iload S0.1 S0.2.1 dRo_addPart_13 (lv_at hl 3 rfl) ?_
        refine lv_aload_n S0.1 S0.2.1 dRo_addPart_15 rfl (lv_at hl 1 rfl) ?_
        refine hw_get S0 hK hg q7_o rfl inRo 1 (by decide) lf_Ro_15 rfl rfl dRo_addPart_16 ?_
        refine lv_icmp_ge (tgt := 39) S0.1 S0.2.1 dRo_addPart_19 (by decide) (fun c_19 => ?_) (fun c_19 => ?_)
        · skip
          have c_19 : mo ≤ (i + t) := (nI_leI (by omega) (by omega)).mp c_19
          omega
        · skip
          have c_19 : ¬ (mo ≤ (i + t)) := fun h => c_19 ((nI_leI (by omega) (by omega)).mpr h)
          refine lv_aload_n S0.1 S0.2.1 dRo_addPart_22 rfl (lv_at hl 0 rfl) ?_
          refine lv_aload_n S0.1 S0.2.1 dRo_addPart_23 rfl (lv_at hl 1 rfl) ?_
          refine hw_get S0 hK hg q7_o rfl inRo 0 (by decide) lf_Ro_9 rfl rfl dRo_addPart_24 ?_
          refine lv_iload S0.1 S0.2.1 dRo_addPart_27 (lv_at hl 3 rfl) ?_
          refine hw_iald S0 hK hg q7_lo 0 rfl (by omega) (by omega) dRo_addPart_29 ?_
          refine hw_Vv (As := [.int (fo (i + t))]) (rest := []) S0 hK hg hS hA0 e0 rfl (c_Ro_add l D cI cR cJ gl _ r la (n + t) cap fl (fo (i + t)) e0 e1 (by omega) hcap) kRo_add lm_Ro_25 (hR.call rfl) rfl hl.1 rfl (Nat.le_of_ble_eq_true rfl) dRo_addPart_30 (hR.new (by decide) (by decide)) (fun g_1 H locs hp_30 hg hS => ?_)
          obtain ⟨fr1, a0, a1⟩ := hp_30
          have k1_0 := fr1.at (h_nm hor (h_nm (h_ne q7_o e1 (fun h => by cases h)) h_n0)) q7_o
          have k1_1 := fr1.at (h_nm (h_ne q7_lo e0 (fun h => by cases h)) (h_nm hol h_n0)) q7_lo
          have fr := fr.call fr1 (by simp)
          refine lv_iinc (v := nI (i + t + 1)) (lv' := [(4, .int (nI (i + t + 1))), (0, .ref r), (1, .ref o), (3, .int (nI j))]) S0.1 S0.2.1 dRo_addPart_33 hl (k := 3) rfl (by exact nI_add _ 1) (by decide) rfl (fun ls hl => ?_)
          refine lv_goto (tgt := 7) S0.1 S0.2.1 dRo_addPart_36 (by decide) ?_
          exact ih_7 (t + 1) (upd fl (n + t) (fo (i + t))) g_1 _ _ _ (by omega) (by omega) (fun q h => by rw [pk_un (by omega)]; exact hf1 q h) (fun q h => by rcases Nat.lt_or_ge q t with h9 | h9; rw [pk_un (by omega)]; exact hf2 q h9; rw [show q = t by omega, pk_us]) fr a0 a1 hg hS (lv_sub hl [1, 2, 3, 0] rfl)
  exact loop_7 _ 0 f g _ _ _ (Nat.lt_succ_self _) (by omega) (fun q _ => rfl) (fun q h => absurd h (Nat.not_lt_zero q)) fr h0 h1 hg hS (lv_sub hl [1, 2, 4, 0] rfl)
set_option maxRecDepth 100000 in
set_option maxHeartbeats 4000000 in
theorem c_Ro_become (l : Launch) (D : va_G) (cI cR cJ : ClassId) (g : Nat → Option va_E) (sz : Nat) (r la n cap o lo mo capo : Nat) (f fo : Nat → Int32) (h0 : g r = some (.inr (5, [.ref la, .int (nI n)]))) (h1 : g la = some (.inl (cI, cap, .inl f))) (h2 : g o = some (.inr (5, [.ref lo, .int (nI mo)]))) (h3 : g lo = some (.inl (cI, capo, .inl fo))) (hor : o ≠ r) (hol : lo ≠ la) (hj : mo ≤ capo) (hn : mo ≤ cap) (hcap : cap < 4000) (hco : capo < 4000) : hMv l yRo_become cRo_become 2 (hRm 2 45 0 0) D (hT cI cR cJ) g sz [.ref r, .ref o] (fun g1 => hfr g g1 [r, la] ∧ g1 r = some (.inr (5, [.ref la, .int (nI mo)])) ∧ ∃ f1, g1 la = some (.inl (cI, cap, .inl f1)) ∧ ∀ q, q < mo → f1 q = fo q) := by
  refine hMv_of (by decide +kernel) (Nat.le_of_ble_eq_true rfl) ?_
  intro pX eX RX sX mX argsX belowX methX cX QX AX hR S0 hnm hsz hg hK hS hA0 hend ls hl
  have hl : lv_has ls 2 [(0, .ref r), (1, .ref o)] := hl
  have fr : hfr g g [r, la] := hfr.rf
  refine lv_aload_n S0.1 S0.2.1 dRo_become_0 rfl (lv_at hl 0 rfl) ?_
  refine lv_iconst (v := nI 0) S0.1 S0.2.1 dRo_become_1 (by decide) ?_
  refine hw_put S0 hK hg hS h0 rfl inRo tyRo tokRo nmRo 1 (by decide) lf_Ro_15 rfl rfl rfl rfl (Nat.le_of_ble_eq_true rfl) dRo_become_2 (fun H locs hg hS => ?_)
  obtain ⟨g_1, eg_1⟩ : ∃ z, z = hs g r (.inr (5, [.ref la, .int (nI 0)])) := ⟨_, rfl⟩
  have hg : hw D hC AX g_1 H := by rw [eg_1]; exact hg
  have f1_0 : g_1 la = some (.inl (cI, cap, .inl f)) := by rw [eg_1, hs_n _ _ (h_ne h1 h0 (fun h => by cases h))]; exact h1
  have f1_1 : g_1 o = some (.inr (5, [.ref lo, .int (nI mo)])) := by rw [eg_1, hs_n _ _ hor]; exact h2
  have f1_2 : g_1 lo = some (.inl (cI, capo, .inl fo)) := by rw [eg_1, hs_n _ _ (h_ne h3 h0 (fun h => by cases h))]; exact h3
  have f1_3 : g_1 r = some (.inr (5, [.ref la, .int (nI 0)])) := by rw [eg_1]; exact hs_s _ _ _
  have fr := fr.put eg_1 (by simp)
  refine lv_aload_n S0.1 S0.2.1 dRo_become_5 rfl (lv_at hl 0 rfl) ?_
  refine lv_aload_n S0.1 S0.2.1 dRo_become_6 rfl (lv_at hl 1 rfl) ?_
  refine lv_iconst (v := nI 0) S0.1 S0.2.1 dRo_become_7 (by decide) ?_
  refine lv_aload_n S0.1 S0.2.1 dRo_become_8 rfl (lv_at hl 1 rfl) ?_
  refine hw_get S0 hK hg f1_1 rfl inRo 1 (by decide) lf_Ro_15 rfl rfl dRo_become_9 ?_
  refine hw_Vv (As := [.ref o, .int (nI 0), .int (nI mo)]) (rest := []) S0 hK hg hS hA0 f1_3 rfl (c_Ro_addPart l D cI cR cJ g_1 _ r la 0 cap o lo mo capo 0 mo f fo f1_3 f1_0 f1_1 f1_2 hor hol (by omega) hj (by omega) hcap hco (Nat.le_refl _) (by omega)) kRo_addPart lm_Ro_29 (hR.call rfl) rfl hl.1 rfl (Nat.le_of_ble_eq_true rfl) dRo_become_12 (hR.new (by decide) (by decide)) (fun g_2 H locs hp_12 hg hS => ?_)
  obtain ⟨fr1, a0, f1, a1, a2, a3⟩ := hp_12
  have fr := fr.call fr1 (by simp)
  simp only [Nat.zero_add, Nat.sub_zero] at a0 a3
  exact hend _ _ _ _ _ _ _ (by decide) (by decide) (⟨fr, a0, f1, a1, a3⟩) hg hS dRo_become_15
