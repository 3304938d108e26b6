/-! THE REFERENCE, on: its face -/
def mSz (i : Nat) : Nat := match i with
  | 0 => 6
  | 1 => 360
  | 2 => 60
  | 3 => 60
  | 4 => 3721
  | 5 => 60
  | 6 => 60
  | 7 => 60
  | 8 => 250
  | 9 => 250
  | 10 => 60
  | 11 => 60
  | 12 => 60
  | 13 => 400
  | 14 => 400
  | 15 => 30
  | 16 => 1800
  | 17 => 1800
  | _ => 0
abbrev mS (mm : Nat) (q : Nat → Nat) : List Nat := [mm, q 0, q 1, q 2, q 3, q 4, q 5, q 6, q 7, q 8, q 9, q 10, q 11, q 12, q 13, q 14, q 15, q 16, q 17]
def rpVm (f : Nat → Int32) (vs : List (List Nat)) : Prop := ∀ v k, v < vs.length → k < (vs.getD v []).length → f (60 * v + k) = nI ((vs.getD v []).getD k 0)
def lastL (f : Nat → Int32) (vs : List (List Nat)) (nw : List Int32) : Prop := 0 < vs.length → ∀ k, k < nw.length → f (60 * (vs.length - 1) + k) = nw.getD k 0
/-- the reference holds the state S, and t was thrown by its latest call -/
def repM (cI : ClassId) (g : Nat → Option va_E) (mm : Nat) (q : Nat → Nat) (t : Nat) (S : ST) : Prop := qinj q ∧ stok S ∧ ∃ (v3 v4 v14 v16 v17 v23 : Int32) (F : Nat → Nat → Int32), g mm = some (mmC q (nI t) v3 v4 (nI S.2.1.length) (nI S.2.2.1.length) v14 v16 v17 (nI S.2.2.2.1.length) v23 (nI S.2.2.2.2.1.length)) ∧ (∀ i, i < 18 → g (q i) = some (.inl (cI, mSz i, .inl (F i)))) ∧ rpR (F 0) (F 1) S.1 ∧ rpN (F 6) (S.2.1.map Prod.fst) ∧ rpN (F 7) (S.2.1.map Prod.snd) ∧ rpN (F 8) (fl4 S.2.2.1) ∧ rpN (F 13) (fl3 S.2.2.2.1) ∧ rpS (F 15) S.2.2.2.2.1 ∧ rpVm (F 17) S.2.2.2.2.1 ∧ lastL (F 16) S.2.2.2.2.1 S.2.2.2.2.2
theorem rpR_put {fs fl : Nat → Int32} {rw_ : Nat → List Int32} {k : Nat} (h : rpR fs fl rw_) (hk : k < 6) (hl : (rw_ k).length < 60) (v : Int32) : rpR (upd fs k (nI ((rw_ k).length + 1))) (upd fl (60 * k + (rw_ k).length) v) (setR rw_ k (rw_ k ++ [v])) := by
  intro r hr
  obtain ⟨t1, t2, t3⟩ := h r hr
  by_cases e : r = k
  · subst e
    rw [setR_s, pk_us, List.length_append, List.length_singleton]
    refine ⟨rfl, by omega, fun x hx => ?_⟩
    by_cases e2 : x = (rw_ r).length
    · subst e2; rw [pk_us]; simp
    · rw [pk_un (by omega), t3 x (by omega)]
      simp only [List.getD_eq_getElem?_getD]
      rw [List.getElem?_append_left (by omega)]
  · rw [setR_n _ _ e, pk_un e]
    exact ⟨t1, t2, fun x hx => by rw [pk_un (by omega)]; exact t3 x hx⟩
theorem rpR_clear {fs fl : Nat → Int32} {rw_ : Nat → List Int32} {k : Nat} (h : rpR fs fl rw_) : rpR (upd fs k (nI 0)) fl (setR rw_ k []) := by
  intro r hr
  obtain ⟨t1, t2, t3⟩ := h r hr
  by_cases e : r = k
  · subst e; rw [setR_s, pk_us]; exact ⟨rfl, Nat.zero_le _, fun x hx => absurd hx (Nat.not_lt_zero x)⟩
  · rw [setR_n _ _ e, pk_un e]; exact ⟨t1, t2, t3⟩
theorem stok_setR {S : ST} {k : Nat} {xs : List Int32} (h : stok S) (hx : xs.length ≤ 60) : stok (setR S.1 k xs, S.2) := ⟨fun r hr => by by_cases e : r = k; rw [e]; show (setR S.1 k xs k).length ≤ 60; rw [setR_s]; exact hx; show (setR S.1 k xs r).length ≤ 60; rw [setR_n _ _ e]; exact h.1 r hr, h.2⟩
theorem rpN_get {f : Nat → Int32} {xs : List Nat} {k : Nat} (h : rpN f xs) (hk : k < xs.length) : f k = nI (xs.getD k 0) := h k hk
theorem map_getD {ps : List (Nat × Nat)} {pr : Nat × Nat → Nat} {k : Nat} (hk : k < ps.length) : (ps.map pr).getD k 0 = pr (ps.getD k (0, 0)) := by
  simp [List.getD_eq_getElem?_getD, hk]
set_option maxRecDepth 100000 in
set_option maxHeartbeats 4000000 in
theorem c_MM_put (l : Launch) (D : va_G) (cI cR cJ : ClassId) (g : Nat → Option va_E) (sz : Nat) (mm : Nat) (q : Nat → Nat) (t : Nat) (S : ST) (r v : Int32) (HM : repM cI g mm q t S) : hMi l yMM_put cMM_put 4 .int (hRm 1 24 0 0) D (hT cI cR cJ) g sz [.ref mm, .int r, .int v] (fun o g1 => hfr g g1 (mS mm q) ∧ repM cI g1 mm q (o_put r v S).1 (o_put r v S).2.2 ∧ ((o_put r v S).1 = 0 → o = (o_put r v S).2.1)) := by
  refine hMi_of (by decide +kernel) (Nat.le_of_ble_eq_true rfl) ?_
  intro pX eX RX sX mX argsX belowX methX cX QX AX hR S0 hnm hsz hg hK hS hA0 hend ls hl
  have hl : lv_has ls 4 [(0, .ref mm), (1, .int r), (2, .int v)] := hl
  obtain ⟨hq, hok, v3, v4, v14, v16, v17, v23, F, h0, hF, hR_, hA_, hB_, hH_, hC_, hZ_, hV_, hL_⟩ := HM
  have hsizes : g (q 0) = some (.inl (cI, 6, .inl (F 0))) := hF 0 (by decide)
  have hlines : g (q 1) = some (.inl (cI, 360, .inl (F 1))) := hF 1 (by decide)
  have fr : hfr g g [mm, q 0, q 1] := hfr.rf
  refine lv_iload_n S0.1 S0.2.1 dMM_put_0 rfl (lv_at hl 1 rfl) ?_
  refine hw_Si (As := [.int r]) (rest := []) S0 hK hg hS hA0 (c_MM_isRow l D cI cR cJ g _ r) kMM_isRow lm_MM_68 (hR.call rfl) rfl hl.1 rfl (Nat.le_of_ble_eq_true rfl) dMM_put_1 (hR.new (by decide) (by decide)) (fun r_1 g_1 H locs hp_1 hg hS => ?_)
  rw [hp_1.1] at hg
  replace hp_1 := hp_1.2
  rcases hp_1 with hp_1 | hp_1
  · skip
    obtain ⟨ho, k, hk_k, rfl⟩ := hp_1
    subst ho
    have e_k : ix (nI k) 6 = some k := ix_some hk_k (by decide)
    refine lv_istore_n (lv' := [(3, .int (nI 1)), (0, .ref mm), (1, .int (nI k)), (2, .int v)]) S0.1 S0.2.1 dMM_put_4 rfl hl (by decide) rfl (fun ls hl => ?_)
    refine lv_aload_n S0.1 S0.2.1 dMM_put_5 rfl (lv_at hl 1 rfl) ?_
    refine lv_iload_n S0.1 S0.2.1 dMM_put_6 rfl (lv_at hl 0 rfl) ?_
    refine lv_if_ne (tgt := 14) S0.1 S0.2.1 dMM_put_7 (by decide) (fun c_7 => ?_) (fun c_7 => ?_)
    · skip
      rw [← nI_0] at c_7
      have c_7 : ¬ (1 = 0) := fun h => c_7 ((nI_eq (by omega) (by omega)).mpr h)
      refine lv_iconst (v := nI 0) S0.1 S0.2.1 dMM_put_14 (by decide) ?_
      obtain ⟨t1, t2, t3⟩ := hR_ k hk_k
      refine lv_iload_n S0.1 S0.2.1 dMM_put_15 rfl (lv_at hl 0 rfl) ?_
      refine lv_if_eq (tgt := 42) S0.1 S0.2.1 dMM_put_16 (by decide) (fun c_16 => ?_) (fun c_16 => ?_)
      · skip
        rw [← nI_0] at c_16
        have c_16 : 1 = 0 := (nI_eq (by omega) (by omega)).mp c_16
        exact absurd c_16 (by decide)
      · skip
        rw [← nI_0] at c_16
        have c_16 : ¬ (1 = 0) := fun h => c_16 ((nI_eq (by omega) (by omega)).mpr h)
        refine lv_aload_n S0.1 S0.2.1 dMM_put_19 rfl (lv_at hl 1 rfl) ?_
        refine hw_get S0 hK hg h0 rfl inMM 1 (by decide) lf_MM_7 rfl rfl dMM_put_20 ?_
        refine lv_iload_n S0.1 S0.2.1 dMM_put_23 rfl (lv_at hl 0 rfl) ?_
        refine lv_if_eq (tgt := 31) S0.1 S0.2.1 dMM_put_24 (by decide) (fun c_24 => ?_) (fun c_24 => ?_)
        · skip
          rw [← nI_0] at c_24
          have c_24 : 1 = 0 := (nI_eq (by omega) (by omega)).mp c_24
          exact absurd c_24 (by decide)
        · skip
          rw [← nI_0] at c_24
          have c_24 : ¬ (1 = 0) := fun h => c_24 ((nI_eq (by omega) (by omega)).mpr h)
          refine lv_iload_n S0.1 S0.2.1 dMM_put_27 rfl (lv_at hl 2 rfl) ?_
          refine lv_goto (tgt := 32) S0.1 S0.2.1 dMM_put_28 (by decide) ?_
          refine hw_iald S0 hK hg hsizes 0 rfl (by omega) (by omega) dMM_put_32 ?_
          refine hw_top (nI ((S.1 k).length)) t1 ?_
          refine lv_bipush (v := nI 60) S0.1 S0.2.1 dMM_put_33 (by decide) ?_
          refine lv_icmp_ne (tgt := 42) S0.1 S0.2.1 dMM_put_35 (by decide) (fun c_35 => ?_) (fun c_35 => ?_)
          · skip
            have c_35 : ¬ (((S.1 k).length) = 60) := fun h => c_35 ((nI_eq (by omega) (by omega)).mpr h)
            refine lv_iconst (v := nI 0) S0.1 S0.2.1 dMM_put_42 (by decide) ?_
            refine hw_Vi (As := [.int (nI 0), .int (nI 0)]) (rest := []) S0 hK hg hS hA0 h0 rfl (c_MM_refuse l D cI cR cJ g _ mm q hq (nI t) v3 v4 (nI S.2.1.length) (nI S.2.2.1.length) v14 v16 v17 (nI S.2.2.2.1.length) v23 (nI S.2.2.2.2.1.length) 0 0 (by decide) (by decide) h0) kMM_refuse lm_MM_72 (hR.call rfl) rfl hl.1 rfl (Nat.le_of_ble_eq_true rfl) dMM_put_43 (hR.new (by decide) (by decide)) (fun r_43 g_2 H locs hp_43 hg hS => ?_)
            obtain ⟨frr, rm_, hp_43⟩ := hp_43
            have rm_ : g_2 mm = some (mmC q (nI 0) v3 v4 (nI S.2.1.length) (nI S.2.2.1.length) v14 v16 v17 (nI S.2.2.2.1.length) v23 (nI S.2.2.2.2.1.length)) := rm_
            have k2_0 := frr.at (h_nm (h_ne hsizes h0 (fun h => by cases h)) h_n0) hsizes
            have k2_1 := frr.at (h_nm (h_ne hlines h0 (fun h => by cases h)) h_n0) hlines
            have fr := fr.call frr (by simp)
            rcases hp_43 with ⟨ho, hr_⟩ | ⟨ho, hr_⟩
            · skip
              exact absurd hr_ (by decide)
            · skip
              subst ho
              refine lv_if_eq (tgt := 51) S0.1 S0.2.1 dMM_put_46 (by decide) (fun c_46 => ?_) (fun c_46 => ?_)
              · skip
                rw [← nI_0] at c_46
                have c_46 : 0 = 0 := (nI_eq (by omega) (by omega)).mp c_46
                refine lv_aload_n S0.1 S0.2.1 dMM_put_51 rfl (lv_at hl 1 rfl) ?_
                refine hw_get S0 hK hg rm_ rfl inMM 2 (by decide) lf_MM_13 rfl rfl dMM_put_52 ?_
                refine lv_bipush (v := nI 60) S0.1 S0.2.1 dMM_put_55 (by decide) ?_
                refine lv_iload_n S0.1 S0.2.1 dMM_put_57 rfl (lv_at hl 2 rfl) ?_
                refine lv_imul S0.1 S0.2.1 dMM_put_58 ?_
                refine hw_top (nI (60 * k)) (pk_mul _ _) ?_
                refine lv_aload_n S0.1 S0.2.1 dMM_put_59 rfl (lv_at hl 1 rfl) ?_
                refine hw_get S0 hK hg rm_ rfl inMM 1 (by decide) lf_MM_7 rfl rfl dMM_put_60 ?_
                refine lv_iload_n S0.1 S0.2.1 dMM_put_63 rfl (lv_at hl 2 rfl) ?_
                refine hw_iald S0 hK hg k2_0 0 rfl (by omega) (by omega) dMM_put_64 ?_
                refine hw_top (nI ((S.1 k).length)) t1 ?_
                refine lv_iadd S0.1 S0.2.1 dMM_put_65 ?_
                refine hw_top (nI ((60 * k) + ((S.1 k).length))) (nI_add _ _) ?_
                refine lv_iload_n S0.1 S0.2.1 dMM_put_66 rfl (lv_at hl 3 rfl) ?_
                refine hw_iast S0 hK hg hS k2_1 0 rfl (by omega) (by omega) dMM_put_67 (fun H locs hg hS => ?_)
                obtain ⟨g_3, eg_3⟩ : ∃ z, z = hs g_2 (q 1) (.inl (cI, 360, .inl (upd (F 1) ((60 * k) + ((S.1 k).length)) v))) := ⟨_, rfl⟩
                have hg : hw D hC AX g_3 H := by rw [eg_3]; exact hg
                have f3_0 : g_3 (q 0) = some (.inl (cI, 6, .inl (F 0))) := by rw [eg_3, hs_n _ _ (qne hq (by decide) (by decide) (by decide))]; exact k2_0
                have f3_1 : g_3 mm = some (mmC q (nI 0) v3 v4 (nI S.2.1.length) (nI S.2.2.1.length) v14 v16 v17 (nI S.2.2.2.1.length) v23 (nI S.2.2.2.2.1.length)) := by rw [eg_3, hs_n _ _ (h_ne rm_ k2_1 (fun h => by cases h))]; exact rm_
                have f3_2 : g_3 (q 1) = some (.inl (cI, 360, .inl (upd (F 1) ((60 * k) + ((S.1 k).length)) v))) := by rw [eg_3]; exact hs_s _ _ _
                have fr := fr.put eg_3 (by simp)
                refine lv_aload_n S0.1 S0.2.1 dMM_put_68 rfl (lv_at hl 1 rfl) ?_
                refine hw_get S0 hK hg f3_1 rfl inMM 1 (by decide) lf_MM_7 rfl rfl dMM_put_69 ?_
                refine lv_iload_n S0.1 S0.2.1 dMM_put_72 rfl (lv_at hl 2 rfl) ?_
                refine lv_dup2_11 S0.1 S0.2.1 dMM_put_73 rfl rfl ?_
                refine hw_iald S0 hK hg f3_0 0 rfl (by omega) (by omega) dMM_put_74 ?_
                refine hw_top (nI ((S.1 k).length)) t1 ?_
                refine lv_iconst (v := nI 1) S0.1 S0.2.1 dMM_put_75 (by decide) ?_
                refine lv_iadd S0.1 S0.2.1 dMM_put_76 ?_
                refine hw_top (nI (((S.1 k).length) + 1)) (nI_add _ _) ?_
                refine hw_iast S0 hK hg hS f3_0 0 rfl (by omega) (by omega) dMM_put_77 (fun H locs hg hS => ?_)
                obtain ⟨g_4, eg_4⟩ : ∃ z, z = hs g_3 (q 0) (.inl (cI, 6, .inl (upd (F 0) k (nI (((S.1 k).length) + 1))))) := ⟨_, rfl⟩
                have hg : hw D hC AX g_4 H := by rw [eg_4]; exact hg
                have f4_0 : g_4 mm = some (mmC q (nI 0) v3 v4 (nI S.2.1.length) (nI S.2.2.1.length) v14 v16 v17 (nI S.2.2.2.1.length) v23 (nI S.2.2.2.2.1.length)) := by rw [eg_4, hs_n _ _ (h_ne f3_1 f3_0 (fun h => by cases h))]; exact f3_1
                have f4_1 : g_4 (q 1) = some (.inl (cI, 360, .inl (upd (F 1) ((60 * k) + ((S.1 k).length)) v))) := by rw [eg_4, hs_n _ _ (qne hq (by decide) (by decide) (by decide))]; exact f3_2
                have f4_2 : g_4 (q 0) = some (.inl (cI, 6, .inl (upd (F 0) k (nI (((S.1 k).length) + 1))))) := by rw [eg_4]; exact hs_s _ _ _
                have fr := fr.put eg_4 (by simp)
                refine lv_aload_n S0.1 S0.2.1 dMM_put_78 rfl (lv_at hl 1 rfl) ?_
                refine hw_get S0 hK hg f4_0 rfl inMM 1 (by decide) lf_MM_7 rfl rfl dMM_put_79 ?_
                refine lv_iload_n S0.1 S0.2.1 dMM_put_82 rfl (lv_at hl 2 rfl) ?_
                refine hw_iald S0 hK hg f4_2 0 rfl (by omega) (by omega) dMM_put_83 ?_
                have hF2 : ∀ i, i < 18 → g_4 (q i) = some (.inl (cI, mSz i, .inl ((fun i => match i with | 0 => upd (F 0) k (nI (((S.1 k).length) + 1)) | 1 => upd (F 1) ((60 * k) + ((S.1 k).length)) v | i => F i) i))) := by
                  intro i hi
                  match i, hi with
                  | 0, _ => exact f4_2
                  | 1, _ => exact f4_1
                  | 2, _ => exact fr.at (h_nm (h_ne (hF 2 (by decide)) h0 (fun h => by cases h)) (h_nm (qne hq (by decide) (by decide) (by decide)) (h_nm (qne hq (by decide) (by decide) (by decide)) h_n0))) (hF 2 (by decide))
                  | 3, _ => exact fr.at (h_nm (h_ne (hF 3 (by decide)) h0 (fun h => by cases h)) (h_nm (qne hq (by decide) (by decide) (by decide)) (h_nm (qne hq (by decide) (by decide) (by decide)) h_n0))) (hF 3 (by decide))
                  | 4, _ => exact fr.at (h_nm (h_ne (hF 4 (by decide)) h0 (fun h => by cases h)) (h_nm (qne hq (by decide) (by decide) (by decide)) (h_nm (qne hq (by decide) (by decide) (by decide)) h_n0))) (hF 4 (by decide))
                  | 5, _ => exact fr.at (h_nm (h_ne (hF 5 (by decide)) h0 (fun h => by cases h)) (h_nm (qne hq (by decide) (by decide) (by decide)) (h_nm (qne hq (by decide) (by decide) (by decide)) h_n0))) (hF 5 (by decide))
                  | 6, _ => exact fr.at (h_nm (h_ne (hF 6 (by decide)) h0 (fun h => by cases h)) (h_nm (qne hq (by decide) (by decide) (by decide)) (h_nm (qne hq (by decide) (by decide) (by decide)) h_n0))) (hF 6 (by decide))
                  | 7, _ => exact fr.at (h_nm (h_ne (hF 7 (by decide)) h0 (fun h => by cases h)) (h_nm (qne hq (by decide) (by decide) (by decide)) (h_nm (qne hq (by decide) (by decide) (by decide)) h_n0))) (hF 7 (by decide))
                  | 8, _ => exact fr.at (h_nm (h_ne (hF 8 (by decide)) h0 (fun h => by cases h)) (h_nm (qne hq (by decide) (by decide) (by decide)) (h_nm (qne hq (by decide) (by decide) (by decide)) h_n0))) (hF 8 (by decide))
                  | 9, _ => exact fr.at (h_nm (h_ne (hF 9 (by decide)) h0 (fun h => by cases h)) (h_nm (qne hq (by decide) (by decide) (by decide)) (h_nm (qne hq (by decide) (by decide) (by decide)) h_n0))) (hF 9 (by decide))
                  | 10, _ => exact fr.at (h_nm (h_ne (hF 10 (by decide)) h0 (fun h => by cases h)) (h_nm (qne hq (by decide) (by decide) (by decide)) (h_nm (qne hq (by decide) (by decide) (by decide)) h_n0))) (hF 10 (by decide))
                  | 11, _ => exact fr.at (h_nm (h_ne (hF 11 (by decide)) h0 (fun h => by cases h)) (h_nm (qne hq (by decide) (by decide) (by decide)) (h_nm (qne hq (by decide) (by decide) (by decide)) h_n0))) (hF 11 (by decide))
                  | 12, _ => exact fr.at (h_nm (h_ne (hF 12 (by decide)) h0 (fun h => by cases h)) (h_nm (qne hq (by decide) (by decide) (by decide)) (h_nm (qne hq (by decide) (by decide) (by decide)) h_n0))) (hF 12 (by decide))
                  | 13, _ => exact fr.at (h_nm (h_ne (hF 13 (by decide)) h0 (fun h => by cases h)) (h_nm (qne hq (by decide) (by decide) (by decide)) (h_nm (qne hq (by decide) (by decide) (by decide)) h_n0))) (hF 13 (by decide))
                  | 14, _ => exact fr.at (h_nm (h_ne (hF 14 (by decide)) h0 (fun h => by cases h)) (h_nm (qne hq (by decide) (by decide) (by decide)) (h_nm (qne hq (by decide) (by decide) (by decide)) h_n0))) (hF 14 (by decide))
                  | 15, _ => exact fr.at (h_nm (h_ne (hF 15 (by decide)) h0 (fun h => by cases h)) (h_nm (qne hq (by decide) (by decide) (by decide)) (h_nm (qne hq (by decide) (by decide) (by decide)) h_n0))) (hF 15 (by decide))
                  | 16, _ => exact fr.at (h_nm (h_ne (hF 16 (by decide)) h0 (fun h => by cases h)) (h_nm (qne hq (by decide) (by decide) (by decide)) (h_nm (qne hq (by decide) (by decide) (by decide)) h_n0))) (hF 16 (by decide))
                  | 17, _ => exact fr.at (h_nm (h_ne (hF 17 (by decide)) h0 (fun h => by cases h)) (h_nm (qne hq (by decide) (by decide) (by decide)) (h_nm (qne hq (by decide) (by decide) (by decide)) h_n0))) (hF 17 (by decide))
                  | i + 18, h => omega
                have hrep : repM cI g_4 mm q (o_put (nI k) v S).1 (o_put (nI k) v S).2.2 := by rw [show o_put (nI k) v S = (0, nI ((S.1 k).length + 1), (setR S.1 k (S.1 k ++ [v]), S.2)) by simp only [o_put, e_k]; exact if_pos (by omega)]; exact ⟨hq, stok_setR hok (by rw [List.length_append]; show _ + 1 ≤ 60; omega), v3, v4, v14, v16, v17, v23, (fun i => match i with | 0 => upd (F 0) k (nI (((S.1 k).length) + 1)) | 1 => upd (F 1) ((60 * k) + ((S.1 k).length)) v | i => F i), f4_0, hF2, rpR_put hR_ hk_k (by omega) v, hA_, hB_, hH_, hC_, hZ_, hV_, hL_⟩
                have fr9 : hfr g g_4 (mS mm q) := fr.mono (by simp)
                exact hend _ _ _ _ _ _ _ _ (by decide) (by decide) rfl (⟨fr9, hrep, fun h9 => by rw [show o_put (nI k) v S = (0, nI ((S.1 k).length + 1), (setR S.1 k (S.1 k ++ [v]), S.2)) by simp only [o_put, e_k]; exact if_pos (by omega)] at h9 ⊢; first | rfl | exact pk_us | exact pk_us _ _ _⟩) hg hS dMM_put_84
              · skip
                rw [← nI_0] at c_46
                have c_46 : ¬ (0 = 0) := fun h => c_46 ((nI_eq (by omega) (by omega)).mpr h)
                exact absurd c_46 (by decide)
          · skip
            have c_35 : ((S.1 k).length) = 60 := (nI_eq (by omega) (by omega)).mp c_35
            refine lv_iconst (v := nI 1) S0.1 S0.2.1 dMM_put_38 (by decide) ?_
            refine lv_goto (tgt := 43) S0.1 S0.2.1 dMM_put_39 (by decide) ?_
            refine hw_Vi (As := [.int (nI 0), .int (nI 1)]) (rest := []) S0 hK hg hS hA0 h0 rfl (c_MM_refuse l D cI cR cJ g _ mm q hq (nI t) v3 v4 (nI S.2.1.length) (nI S.2.2.1.length) v14 v16 v17 (nI S.2.2.2.1.length) v23 (nI S.2.2.2.2.1.length) 0 1 (by decide) (by decide) h0) kMM_refuse lm_MM_72 (hR.call rfl) rfl hl.1 rfl (Nat.le_of_ble_eq_true rfl) dMM_put_43 (hR.new (by decide) (by decide)) (fun r_43 g_5 H locs hp_43 hg hS => ?_)
            obtain ⟨frr, rm_, hp_43⟩ := hp_43
            have rm_ : g_5 mm = some (mmC q (nI 2) v3 v4 (nI S.2.1.length) (nI S.2.2.1.length) v14 v16 v17 (nI S.2.2.2.1.length) v23 (nI S.2.2.2.2.1.length)) := rm_
            have k5_0 := frr.at (h_nm (h_ne hsizes h0 (fun h => by cases h)) h_n0) hsizes
            have k5_1 := frr.at (h_nm (h_ne hlines h0 (fun h => by cases h)) h_n0) hlines
            have fr := fr.call frr (by simp)
            rcases hp_43 with ⟨ho, hr_⟩ | ⟨ho, hr_⟩
            · skip
              subst ho
              refine lv_if_eq (tgt := 51) S0.1 S0.2.1 dMM_put_46 (by decide) (fun c_46 => ?_) (fun c_46 => ?_)
              · skip
                rw [← nI_0] at c_46
                have c_46 : 1 = 0 := (nI_eq (by omega) (by omega)).mp c_46
                exact absurd c_46 (by decide)
              · skip
                rw [← nI_0] at c_46
                have c_46 : ¬ (1 = 0) := fun h => c_46 ((nI_eq (by omega) (by omega)).mpr h)
                refine lv_iconst (v := nI 0) S0.1 S0.2.1 dMM_put_49 (by decide) ?_
                have hF2 : ∀ i, i < 18 → g_5 (q i) = some (.inl (cI, mSz i, .inl ((fun i => match i with | 0 => F 0 | 1 => F 1 | i => F i) i))) := by
                  intro i hi
                  match i, hi with
                  | 0, _ => exact k5_0
                  | 1, _ => exact k5_1
                  | 2, _ => exact fr.at (h_nm (h_ne (hF 2 (by decide)) h0 (fun h => by cases h)) (h_nm (qne hq (by decide) (by decide) (by decide)) (h_nm (qne hq (by decide) (by decide) (by decide)) h_n0))) (hF 2 (by decide))
                  | 3, _ => exact fr.at (h_nm (h_ne (hF 3 (by decide)) h0 (fun h => by cases h)) (h_nm (qne hq (by decide) (by decide) (by decide)) (h_nm (qne hq (by decide) (by decide) (by decide)) h_n0))) (hF 3 (by decide))
                  | 4, _ => exact fr.at (h_nm (h_ne (hF 4 (by decide)) h0 (fun h => by cases h)) (h_nm (qne hq (by decide) (by decide) (by decide)) (h_nm (qne hq (by decide) (by decide) (by decide)) h_n0))) (hF 4 (by decide))
                  | 5, _ => exact fr.at (h_nm (h_ne (hF 5 (by decide)) h0 (fun h => by cases h)) (h_nm (qne hq (by decide) (by decide) (by decide)) (h_nm (qne hq (by decide) (by decide) (by decide)) h_n0))) (hF 5 (by decide))
                  | 6, _ => exact fr.at (h_nm (h_ne (hF 6 (by decide)) h0 (fun h => by cases h)) (h_nm (qne hq (by decide) (by decide) (by decide)) (h_nm (qne hq (by decide) (by decide) (by decide)) h_n0))) (hF 6 (by decide))
                  | 7, _ => exact fr.at (h_nm (h_ne (hF 7 (by decide)) h0 (fun h => by cases h)) (h_nm (qne hq (by decide) (by decide) (by decide)) (h_nm (qne hq (by decide) (by decide) (by decide)) h_n0))) (hF 7 (by decide))
                  | 8, _ => exact fr.at (h_nm (h_ne (hF 8 (by decide)) h0 (fun h => by cases h)) (h_nm (qne hq (by decide) (by decide) (by decide)) (h_nm (qne hq (by decide) (by decide) (by decide)) h_n0))) (hF 8 (by decide))
                  | 9, _ => exact fr.at (h_nm (h_ne (hF 9 (by decide)) h0 (fun h => by cases h)) (h_nm (qne hq (by decide) (by decide) (by decide)) (h_nm (qne hq (by decide) (by decide) (by decide)) h_n0))) (hF 9 (by decide))
                  | 10, _ => exact fr.at (h_nm (h_ne (hF 10 (by decide)) h0 (fun h => by cases h)) (h_nm (qne hq (by decide) (by decide) (by decide)) (h_nm (qne hq (by decide) (by decide) (by decide)) h_n0))) (hF 10 (by decide))
                  | 11, _ => exact fr.at (h_nm (h_ne (hF 11 (by decide)) h0 (fun h => by cases h)) (h_nm (qne hq (by decide) (by decide) (by decide)) (h_nm (qne hq (by decide) (by decide) (by decide)) h_n0))) (hF 11 (by decide))
                  | 12, _ => exact fr.at (h_nm (h_ne (hF 12 (by decide)) h0 (fun h => by cases h)) (h_nm (qne hq (by decide) (by decide) (by decide)) (h_nm (qne hq (by decide) (by decide) (by decide)) h_n0))) (hF 12 (by decide))
                  | 13, _ => exact fr.at (h_nm (h_ne (hF 13 (by decide)) h0 (fun h => by cases h)) (h_nm (qne hq (by decide) (by decide) (by decide)) (h_nm (qne hq (by decide) (by decide) (by decide)) h_n0))) (hF 13 (by decide))
                  | 14, _ => exact fr.at (h_nm (h_ne (hF 14 (by decide)) h0 (fun h => by cases h)) (h_nm (qne hq (by decide) (by decide) (by decide)) (h_nm (qne hq (by decide) (by decide) (by decide)) h_n0))) (hF 14 (by decide))
                  | 15, _ => exact fr.at (h_nm (h_ne (hF 15 (by decide)) h0 (fun h => by cases h)) (h_nm (qne hq (by decide) (by decide) (by decide)) (h_nm (qne hq (by decide) (by decide) (by decide)) h_n0))) (hF 15 (by decide))
                  | 16, _ => exact fr.at (h_nm (h_ne (hF 16 (by decide)) h0 (fun h => by cases h)) (h_nm (qne hq (by decide) (by decide) (by decide)) (h_nm (qne hq (by decide) (by decide) (by decide)) h_n0))) (hF 16 (by decide))
                  | 17, _ => exact fr.at (h_nm (h_ne (hF 17 (by decide)) h0 (fun h => by cases h)) (h_nm (qne hq (by decide) (by decide) (by decide)) (h_nm (qne hq (by decide) (by decide) (by decide)) h_n0))) (hF 17 (by decide))
                  | i + 18, h => omega
                have hrep : repM cI g_5 mm q (o_put (nI k) v S).1 (o_put (nI k) v S).2.2 := by rw [show o_put (nI k) v S = (2, 0, S) by simp only [o_put, e_k]; exact if_neg (by omega)]; exact ⟨hq, hok, v3, v4, v14, v16, v17, v23, (fun i => match i with | 0 => F 0 | 1 => F 1 | i => F i), rm_, hF2, hR_, hA_, hB_, hH_, hC_, hZ_, hV_, hL_⟩
                have fr9 : hfr g g_5 (mS mm q) := fr.mono (by simp)
                exact hend _ _ _ _ _ _ _ _ (by decide) (by decide) rfl (⟨fr9, hrep, fun h9 => by rw [show o_put (nI k) v S = (2, 0, S) by simp only [o_put, e_k]; exact if_neg (by omega)] at h9 ⊢; cases h9⟩) hg hS dMM_put_50
            · skip
              exact absurd hr_ (by decide)
    · skip
      rw [← nI_0] at c_7
      have c_7 : 1 = 0 := (nI_eq (by omega) (by omega)).mp c_7
      exact absurd c_7 (by decide)
  · skip
    obtain ⟨ho, hn_k⟩ := hp_1
    subst ho
    have e_k : ix r 6 = none := ix_none hn_k
    refine lv_istore_n (lv' := [(3, .int (nI 0)), (0, .ref mm), (1, .int r), (2, .int v)]) S0.1 S0.2.1 dMM_put_4 rfl hl (by decide) rfl (fun ls hl => ?_)
    refine lv_aload_n S0.1 S0.2.1 dMM_put_5 rfl (lv_at hl 1 rfl) ?_
    refine lv_iload_n S0.1 S0.2.1 dMM_put_6 rfl (lv_at hl 0 rfl) ?_
    refine lv_if_ne (tgt := 14) S0.1 S0.2.1 dMM_put_7 (by decide) (fun c_7 => ?_) (fun c_7 => ?_)
    · skip
      rw [← nI_0] at c_7
      have c_7 : ¬ (0 = 0) := fun h => c_7 ((nI_eq (by omega) (by omega)).mpr h)
      exact absurd c_7 (by decide)
    · skip
      rw [← nI_0] at c_7
      have c_7 : 0 = 0 := (nI_eq (by omega) (by omega)).mp c_7
      refine lv_iconst (v := nI 1) S0.1 S0.2.1 dMM_put_10 (by decide) ?_
      refine lv_goto (tgt := 15) S0.1 S0.2.1 dMM_put_11 (by decide) ?_
      refine lv_iload_n S0.1 S0.2.1 dMM_put_15 rfl (lv_at hl 0 rfl) ?_
      refine lv_if_eq (tgt := 42) S0.1 S0.2.1 dMM_put_16 (by decide) (fun c_16 => ?_) (fun c_16 => ?_)
      · skip
        rw [← nI_0] at c_16
        have c_16 : 0 = 0 := (nI_eq (by omega) (by omega)).mp c_16
        refine lv_iconst (v := nI 0) S0.1 S0.2.1 dMM_put_42 (by decide) ?_
        refine hw_Vi (As := [.int (nI 1), .int (nI 0)]) (rest := []) S0 hK hg hS hA0 h0 rfl (c_MM_refuse l D cI cR cJ g _ mm q hq (nI t) v3 v4 (nI S.2.1.length) (nI S.2.2.1.length) v14 v16 v17 (nI S.2.2.2.1.length) v23 (nI S.2.2.2.2.1.length) 1 0 (by decide) (by decide) h0) kMM_refuse lm_MM_72 (hR.call rfl) rfl hl.1 rfl (Nat.le_of_ble_eq_true rfl) dMM_put_43 (hR.new (by decide) (by decide)) (fun r_43 g_6 H locs hp_43 hg hS => ?_)
        obtain ⟨frr, rm_, hp_43⟩ := hp_43
        have rm_ : g_6 mm = some (mmC q (nI 1) v3 v4 (nI S.2.1.length) (nI S.2.2.1.length) v14 v16 v17 (nI S.2.2.2.1.length) v23 (nI S.2.2.2.2.1.length)) := rm_
        have k6_0 := frr.at (h_nm (h_ne hsizes h0 (fun h => by cases h)) h_n0) hsizes
        have k6_1 := frr.at (h_nm (h_ne hlines h0 (fun h => by cases h)) h_n0) hlines
        have fr := fr.call frr (by simp)
        rcases hp_43 with ⟨ho, hr_⟩ | ⟨ho, hr_⟩
        · skip
          subst ho
          refine lv_if_eq (tgt := 51) S0.1 S0.2.1 dMM_put_46 (by decide) (fun c_46 => ?_) (fun c_46 => ?_)
          · skip
            rw [← nI_0] at c_46
            have c_46 : 1 = 0 := (nI_eq (by omega) (by omega)).mp c_46
            exact absurd c_46 (by decide)
          · skip
            rw [← nI_0] at c_46
            have c_46 : ¬ (1 = 0) := fun h => c_46 ((nI_eq (by omega) (by omega)).mpr h)
            refine lv_iconst (v := nI 0) S0.1 S0.2.1 dMM_put_49 (by decide) ?_
            have hF2 : ∀ i, i < 18 → g_6 (q i) = some (.inl (cI, mSz i, .inl ((fun i => match i with | 0 => F 0 | 1 => F 1 | i => F i) i))) := by
              intro i hi
              match i, hi with
              | 0, _ => exact k6_0
              | 1, _ => exact k6_1
              | 2, _ => exact fr.at (h_nm (h_ne (hF 2 (by decide)) h0 (fun h => by cases h)) (h_nm (qne hq (by decide) (by decide) (by decide)) (h_nm (qne hq (by decide) (by decide) (by decide)) h_n0))) (hF 2 (by decide))
              | 3, _ => exact fr.at (h_nm (h_ne (hF 3 (by decide)) h0 (fun h => by cases h)) (h_nm (qne hq (by decide) (by decide) (by decide)) (h_nm (qne hq (by decide) (by decide) (by decide)) h_n0))) (hF 3 (by decide))
              | 4, _ => exact fr.at (h_nm (h_ne (hF 4 (by decide)) h0 (fun h => by cases h)) (h_nm (qne hq (by decide) (by decide) (by decide)) (h_nm (qne hq (by decide) (by decide) (by decide)) h_n0))) (hF 4 (by decide))
              | 5, _ => exact fr.at (h_nm (h_ne (hF 5 (by decide)) h0 (fun h => by cases h)) (h_nm (qne hq (by decide) (by decide) (by decide)) (h_nm (qne hq (by decide) (by decide) (by decide)) h_n0))) (hF 5 (by decide))
              | 6, _ => exact fr.at (h_nm (h_ne (hF 6 (by decide)) h0 (fun h => by cases h)) (h_nm (qne hq (by decide) (by decide) (by decide)) (h_nm (qne hq (by decide) (by decide) (by decide)) h_n0))) (hF 6 (by decide))
              | 7, _ => exact fr.at (h_nm (h_ne (hF 7 (by decide)) h0 (fun h => by cases h)) (h_nm (qne hq (by decide) (by decide) (by decide)) (h_nm (qne hq (by decide) (by decide) (by decide)) h_n0))) (hF 7 (by decide))
              | 8, _ => exact fr.at (h_nm (h_ne (hF 8 (by decide)) h0 (fun h => by cases h)) (h_nm (qne hq (by decide) (by decide) (by decide)) (h_nm (qne hq (by decide) (by decide) (by decide)) h_n0))) (hF 8 (by decide))
              | 9, _ => exact fr.at (h_nm (h_ne (hF 9 (by decide)) h0 (fun h => by cases h)) (h_nm (qne hq (by decide) (by decide) (by decide)) (h_nm (qne hq (by decide) (by decide) (by decide)) h_n0))) (hF 9 (by decide))
              | 10, _ => exact fr.at (h_nm (h_ne (hF 10 (by decide)) h0 (fun h => by cases h)) (h_nm (qne hq (by decide) (by decide) (by decide)) (h_nm (qne hq (by decide) (by decide) (by decide)) h_n0))) (hF 10 (by decide))
              | 11, _ => exact fr.at (h_nm (h_ne (hF 11 (by decide)) h0 (fun h => by cases h)) (h_nm (qne hq (by decide) (by decide) (by decide)) (h_nm (qne hq (by decide) (by decide) (by decide)) h_n0))) (hF 11 (by decide))
              | 12, _ => exact fr.at (h_nm (h_ne (hF 12 (by decide)) h0 (fun h => by cases h)) (h_nm (qne hq (by decide) (by decide) (by decide)) (h_nm (qne hq (by decide) (by decide) (by decide)) h_n0))) (hF 12 (by decide))
              | 13, _ => exact fr.at (h_nm (h_ne (hF 13 (by decide)) h0 (fun h => by cases h)) (h_nm (qne hq (by decide) (by decide) (by decide)) (h_nm (qne hq (by decide) (by decide) (by decide)) h_n0))) (hF 13 (by decide))
              | 14, _ => exact fr.at (h_nm (h_ne (hF 14 (by decide)) h0 (fun h => by cases h)) (h_nm (qne hq (by decide) (by decide) (by decide)) (h_nm (qne hq (by decide) (by decide) (by decide)) h_n0))) (hF 14 (by decide))
              | 15, _ => exact fr.at (h_nm (h_ne (hF 15 (by decide)) h0 (fun h => by cases h)) (h_nm (qne hq (by decide) (by decide) (by decide)) (h_nm (qne hq (by decide) (by decide) (by decide)) h_n0))) (hF 15 (by decide))
              | 16, _ => exact fr.at (h_nm (h_ne (hF 16 (by decide)) h0 (fun h => by cases h)) (h_nm (qne hq (by decide) (by decide) (by decide)) (h_nm (qne hq (by decide) (by decide) (by decide)) h_n0))) (hF 16 (by decide))
              | 17, _ => exact fr.at (h_nm (h_ne (hF 17 (by decide)) h0 (fun h => by cases h)) (h_nm (qne hq (by decide) (by decide) (by decide)) (h_nm (qne hq (by decide) (by decide) (by decide)) h_n0))) (hF 17 (by decide))
              | i + 18, h => omega
            have hrep : repM cI g_6 mm q (o_put r v S).1 (o_put r v S).2.2 := by rw [show o_put r v S = (1, 0, S) by simp only [o_put, e_k]]; exact ⟨hq, hok, v3, v4, v14, v16, v17, v23, (fun i => match i with | 0 => F 0 | 1 => F 1 | i => F i), rm_, hF2, hR_, hA_, hB_, hH_, hC_, hZ_, hV_, hL_⟩
            have fr9 : hfr g g_6 (mS mm q) := fr.mono (by simp)
            exact hend _ _ _ _ _ _ _ _ (by decide) (by decide) rfl (⟨fr9, hrep, fun h9 => by rw [show o_put r v S = (1, 0, S) by simp only [o_put, e_k]] at h9 ⊢; cases h9⟩) hg hS dMM_put_50
        · skip
          exact absurd hr_ (by decide)
      · skip
        rw [← nI_0] at c_16
        have c_16 : ¬ (0 = 0) := fun h => c_16 ((nI_eq (by omega) (by omega)).mpr h)
        exact absurd c_16 (by decide)
set_option maxRecDepth 100000 in
set_option maxHeartbeats 4000000 in
theorem c_MM_clear (l : Launch) (D : va_G) (cI cR cJ : ClassId) (g : Nat → Option va_E) (sz : Nat) (mm : Nat) (q : Nat → Nat) (t : Nat) (S : ST) (r : Int32) (HM : repM cI g mm q t S) : hMv l yMM_clear cMM_clear 2 (hRm 1 24 0 0) D (hT cI cR cJ) g sz [.ref mm, .int r] (fun g1 => hfr g g1 (mS mm q) ∧ repM cI g1 mm q (o_clear r S).1 (o_clear r S).2.2) := by
  refine hMv_of (by decide +kernel) (Nat.le_of_ble_eq_true rfl) ?_
  intro pX eX RX sX mX argsX belowX methX cX QX AX hR S0 hnm hsz hg hK hS hA0 hend ls hl
  have hl : lv_has ls 2 [(0, .ref mm), (1, .int r)] := hl
  obtain ⟨hq, hok, v3, v4, v14, v16, v17, v23, F, h0, hF, hR_, hA_, hB_, hH_, hC_, hZ_, hV_, hL_⟩ := HM
  have hsizes : g (q 0) = some (.inl (cI, 6, .inl (F 0))) := hF 0 (by decide)
  have fr : hfr g g [mm, q 0] := hfr.rf
  refine lv_aload_n S0.1 S0.2.1 dMM_clear_0 rfl (lv_at hl 0 rfl) ?_
  refine lv_iload_n S0.1 S0.2.1 dMM_clear_1 rfl (lv_at hl 1 rfl) ?_
  refine hw_Si (As := [.int r]) (rest := [.ref mm]) S0 hK hg hS hA0 (c_MM_isRow l D cI cR cJ g _ r) kMM_isRow lm_MM_68 (hR.call rfl) rfl hl.1 rfl (Nat.le_of_ble_eq_true rfl) dMM_clear_2 (hR.new (by decide) (by decide)) (fun r_2 g_1 H locs hp_2 hg hS => ?_)
  rw [hp_2.1] at hg
  replace hp_2 := hp_2.2
  rcases hp_2 with hp_2 | hp_2
  · skip
    obtain ⟨ho, k, hk_k, rfl⟩ := hp_2
    subst ho
    have e_k : ix (nI k) 6 = some k := ix_some hk_k (by decide)
    refine lv_if_ne (tgt := 12) S0.1 S0.2.1 dMM_clear_5 (by decide) (fun c_5 => ?_) (fun c_5 => ?_)
    · skip
      rw [← nI_0] at c_5
      have c_5 : ¬ (1 = 0) := fun h => c_5 ((nI_eq (by omega) (by omega)).mpr h)
      refine lv_iconst (v := nI 0) S0.1 S0.2.1 dMM_clear_12 (by decide) ?_
      refine lv_iconst (v := nI 0) S0.1 S0.2.1 dMM_clear_13 (by decide) ?_
      refine hw_Vi (As := [.int (nI 0), .int (nI 0)]) (rest := []) S0 hK hg hS hA0 h0 rfl (c_MM_refuse l D cI cR cJ g _ mm q hq (nI t) v3 v4 (nI S.2.1.length) (nI S.2.2.1.length) v14 v16 v17 (nI S.2.2.2.1.length) v23 (nI S.2.2.2.2.1.length) 0 0 (by decide) (by decide) h0) kMM_refuse lm_MM_72 (hR.call rfl) rfl hl.1 rfl (Nat.le_of_ble_eq_true rfl) dMM_clear_14 (hR.new (by decide) (by decide)) (fun r_14 g_2 H locs hp_14 hg hS => ?_)
      obtain ⟨frr, rm_, hp_14⟩ := hp_14
      have rm_ : g_2 mm = some (mmC q (nI 0) v3 v4 (nI S.2.1.length) (nI S.2.2.1.length) v14 v16 v17 (nI S.2.2.2.1.length) v23 (nI S.2.2.2.2.1.length)) := rm_
      have k2_0 := frr.at (h_nm (h_ne hsizes h0 (fun h => by cases h)) h_n0) hsizes
      have fr := fr.call frr (by simp)
      rcases hp_14 with ⟨ho, hr_⟩ | ⟨ho, hr_⟩
      · skip
        exact absurd hr_ (by decide)
      · skip
        subst ho
        refine lv_if_ne (tgt := 27) S0.1 S0.2.1 dMM_clear_17 (by decide) (fun c_17 => ?_) (fun c_17 => ?_)
        · skip
          rw [← nI_0] at c_17
          have c_17 : ¬ (0 = 0) := fun h => c_17 ((nI_eq (by omega) (by omega)).mpr h)
          exact absurd c_17 (by decide)
        · skip
          rw [← nI_0] at c_17
          have c_17 : 0 = 0 := (nI_eq (by omega) (by omega)).mp c_17
          refine lv_aload_n S0.1 S0.2.1 dMM_clear_20 rfl (lv_at hl 0 rfl) ?_
          refine hw_get S0 hK hg rm_ rfl inMM 1 (by decide) lf_MM_7 rfl rfl dMM_clear_21 ?_
          refine lv_iload_n S0.1 S0.2.1 dMM_clear_24 rfl (lv_at hl 1 rfl) ?_
          refine lv_iconst (v := nI 0) S0.1 S0.2.1 dMM_clear_25 (by decide) ?_
          refine hw_iast S0 hK hg hS k2_0 0 rfl (by omega) (by omega) dMM_clear_26 (fun H locs hg hS => ?_)
          obtain ⟨g_3, eg_3⟩ : ∃ z, z = hs g_2 (q 0) (.inl (cI, 6, .inl (upd (F 0) k (nI 0)))) := ⟨_, rfl⟩
          have hg : hw D hC AX g_3 H := by rw [eg_3]; exact hg
          have f3_0 : g_3 mm = some (mmC q (nI 0) v3 v4 (nI S.2.1.length) (nI S.2.2.1.length) v14 v16 v17 (nI S.2.2.2.1.length) v23 (nI S.2.2.2.2.1.length)) := by rw [eg_3, hs_n _ _ (h_ne rm_ k2_0 (fun h => by cases h))]; exact rm_
          have f3_1 : g_3 (q 0) = some (.inl (cI, 6, .inl (upd (F 0) k (nI 0)))) := by rw [eg_3]; exact hs_s _ _ _
          have fr := fr.put eg_3 (by simp)
          have hF2 : ∀ i, i < 18 → g_3 (q i) = some (.inl (cI, mSz i, .inl ((fun i => match i with | 0 => upd (F 0) k (nI 0) | i => F i) i))) := by
            intro i hi
            match i, hi with
            | 0, _ => exact f3_1
            | 1, _ => exact fr.at (h_nm (h_ne (hF 1 (by decide)) h0 (fun h => by cases h)) (h_nm (qne hq (by decide) (by decide) (by decide)) h_n0)) (hF 1 (by decide))
            | 2, _ => exact fr.at (h_nm (h_ne (hF 2 (by decide)) h0 (fun h => by cases h)) (h_nm (qne hq (by decide) (by decide) (by decide)) h_n0)) (hF 2 (by decide))
            | 3, _ => exact fr.at (h_nm (h_ne (hF 3 (by decide)) h0 (fun h => by cases h)) (h_nm (qne hq (by decide) (by decide) (by decide)) h_n0)) (hF 3 (by decide))
            | 4, _ => exact fr.at (h_nm (h_ne (hF 4 (by decide)) h0 (fun h => by cases h)) (h_nm (qne hq (by decide) (by decide) (by decide)) h_n0)) (hF 4 (by decide))
            | 5, _ => exact fr.at (h_nm (h_ne (hF 5 (by decide)) h0 (fun h => by cases h)) (h_nm (qne hq (by decide) (by decide) (by decide)) h_n0)) (hF 5 (by decide))
            | 6, _ => exact fr.at (h_nm (h_ne (hF 6 (by decide)) h0 (fun h => by cases h)) (h_nm (qne hq (by decide) (by decide) (by decide)) h_n0)) (hF 6 (by decide))
            | 7, _ => exact fr.at (h_nm (h_ne (hF 7 (by decide)) h0 (fun h => by cases h)) (h_nm (qne hq (by decide) (by decide) (by decide)) h_n0)) (hF 7 (by decide))
            | 8, _ => exact fr.at (h_nm (h_ne (hF 8 (by decide)) h0 (fun h => by cases h)) (h_nm (qne hq (by decide) (by decide) (by decide)) h_n0)) (hF 8 (by decide))
            | 9, _ => exact fr.at (h_nm (h_ne (hF 9 (by decide)) h0 (fun h => by cases h)) (h_nm (qne hq (by decide) (by decide) (by decide)) h_n0)) (hF 9 (by decide))
            | 10, _ => exact fr.at (h_nm (h_ne (hF 10 (by decide)) h0 (fun h => by cases h)) (h_nm (qne hq (by decide) (by decide) (by decide)) h_n0)) (hF 10 (by decide))
            | 11, _ => exact fr.at (h_nm (h_ne (hF 11 (by decide)) h0 (fun h => by cases h)) (h_nm (qne hq (by decide) (by decide) (by decide)) h_n0)) (hF 11 (by decide))
            | 12, _ => exact fr.at (h_nm (h_ne (hF 12 (by decide)) h0 (fun h => by cases h)) (h_nm (qne hq (by decide) (by decide) (by decide)) h_n0)) (hF 12 (by decide))
            | 13, _ => exact fr.at (h_nm (h_ne (hF 13 (by decide)) h0 (fun h => by cases h)) (h_nm (qne hq (by decide) (by decide) (by decide)) h_n0)) (hF 13 (by decide))
            | 14, _ => exact fr.at (h_nm (h_ne (hF 14 (by decide)) h0 (fun h => by cases h)) (h_nm (qne hq (by decide) (by decide) (by decide)) h_n0)) (hF 14 (by decide))
            | 15, _ => exact fr.at (h_nm (h_ne (hF 15 (by decide)) h0 (fun h => by cases h)) (h_nm (qne hq (by decide) (by decide) (by decide)) h_n0)) (hF 15 (by decide))
            | 16, _ => exact fr.at (h_nm (h_ne (hF 16 (by decide)) h0 (fun h => by cases h)) (h_nm (qne hq (by decide) (by decide) (by decide)) h_n0)) (hF 16 (by decide))
            | 17, _ => exact fr.at (h_nm (h_ne (hF 17 (by decide)) h0 (fun h => by cases h)) (h_nm (qne hq (by decide) (by decide) (by decide)) h_n0)) (hF 17 (by decide))
            | i + 18, h => omega
          have hrep : repM cI g_3 mm q (o_clear (nI k) S).1 (o_clear (nI k) S).2.2 := by rw [show o_clear (nI k) S = (0, 0, (setR S.1 k [], S.2)) by simp only [o_clear, e_k]]; exact ⟨hq, stok_setR hok (Nat.zero_le _), v3, v4, v14, v16, v17, v23, (fun i => match i with | 0 => upd (F 0) k (nI 0) | i => F i), f3_0, hF2, rpR_clear hR_, hA_, hB_, hH_, hC_, hZ_, hV_, hL_⟩
          have fr9 : hfr g g_3 (mS mm q) := fr.mono (by simp)
          exact hend _ _ _ _ _ _ _ (by decide) (by decide) (⟨fr9, hrep⟩) hg hS dMM_clear_27
    · skip
      rw [← nI_0] at c_5
      have c_5 : 1 = 0 := (nI_eq (by omega) (by omega)).mp c_5
      exact absurd c_5 (by decide)
  · skip
    obtain ⟨ho, hn_k⟩ := hp_2
    subst ho
    have e_k : ix r 6 = none := ix_none hn_k
    refine lv_if_ne (tgt := 12) S0.1 S0.2.1 dMM_clear_5 (by decide) (fun c_5 => ?_) (fun c_5 => ?_)
    · skip
      rw [← nI_0] at c_5
      have c_5 : ¬ (0 = 0) := fun h => c_5 ((nI_eq (by omega) (by omega)).mpr h)
      exact absurd c_5 (by decide)
    · skip
      rw [← nI_0] at c_5
      have c_5 : 0 = 0 := (nI_eq (by omega) (by omega)).mp c_5
      refine lv_iconst (v := nI 1) S0.1 S0.2.1 dMM_clear_8 (by decide) ?_
      refine lv_goto (tgt := 13) S0.1 S0.2.1 dMM_clear_9 (by decide) ?_
      refine lv_iconst (v := nI 0) S0.1 S0.2.1 dMM_clear_13 (by decide) ?_
      refine hw_Vi (As := [.int (nI 1), .int (nI 0)]) (rest := []) S0 hK hg hS hA0 h0 rfl (c_MM_refuse l D cI cR cJ g _ mm q hq (nI t) v3 v4 (nI S.2.1.length) (nI S.2.2.1.length) v14 v16 v17 (nI S.2.2.2.1.length) v23 (nI S.2.2.2.2.1.length) 1 0 (by decide) (by decide) h0) kMM_refuse lm_MM_72 (hR.call rfl) rfl hl.1 rfl (Nat.le_of_ble_eq_true rfl) dMM_clear_14 (hR.new (by decide) (by decide)) (fun r_14 g_4 H locs hp_14 hg hS => ?_)
      obtain ⟨frr, rm_, hp_14⟩ := hp_14
      have rm_ : g_4 mm = some (mmC q (nI 1) v3 v4 (nI S.2.1.length) (nI S.2.2.1.length) v14 v16 v17 (nI S.2.2.2.1.length) v23 (nI S.2.2.2.2.1.length)) := rm_
      have k4_0 := frr.at (h_nm (h_ne hsizes h0 (fun h => by cases h)) h_n0) hsizes
      have fr := fr.call frr (by simp)
      rcases hp_14 with ⟨ho, hr_⟩ | ⟨ho, hr_⟩
      · skip
        subst ho
        refine lv_if_ne (tgt := 27) S0.1 S0.2.1 dMM_clear_17 (by decide) (fun c_17 => ?_) (fun c_17 => ?_)
        · skip
          rw [← nI_0] at c_17
          have c_17 : ¬ (1 = 0) := fun h => c_17 ((nI_eq (by omega) (by omega)).mpr h)
          have hF2 : ∀ i, i < 18 → g_4 (q i) = some (.inl (cI, mSz i, .inl ((fun i => match i with | 0 => F 0 | i => F i) i))) := by
            intro i hi
            match i, hi with
            | 0, _ => exact k4_0
            | 1, _ => exact fr.at (h_nm (h_ne (hF 1 (by decide)) h0 (fun h => by cases h)) (h_nm (qne hq (by decide) (by decide) (by decide)) h_n0)) (hF 1 (by decide))
            | 2, _ => exact fr.at (h_nm (h_ne (hF 2 (by decide)) h0 (fun h => by cases h)) (h_nm (qne hq (by decide) (by decide) (by decide)) h_n0)) (hF 2 (by decide))
            | 3, _ => exact fr.at (h_nm (h_ne (hF 3 (by decide)) h0 (fun h => by cases h)) (h_nm (qne hq (by decide) (by decide) (by decide)) h_n0)) (hF 3 (by decide))
            | 4, _ => exact fr.at (h_nm (h_ne (hF 4 (by decide)) h0 (fun h => by cases h)) (h_nm (qne hq (by decide) (by decide) (by decide)) h_n0)) (hF 4 (by decide))
            | 5, _ => exact fr.at (h_nm (h_ne (hF 5 (by decide)) h0 (fun h => by cases h)) (h_nm (qne hq (by decide) (by decide) (by decide)) h_n0)) (hF 5 (by decide))
            | 6, _ => exact fr.at (h_nm (h_ne (hF 6 (by decide)) h0 (fun h => by cases h)) (h_nm (qne hq (by decide) (by decide) (by decide)) h_n0)) (hF 6 (by decide))
            | 7, _ => exact fr.at (h_nm (h_ne (hF 7 (by decide)) h0 (fun h => by cases h)) (h_nm (qne hq (by decide) (by decide) (by decide)) h_n0)) (hF 7 (by decide))
            | 8, _ => exact fr.at (h_nm (h_ne (hF 8 (by decide)) h0 (fun h => by cases h)) (h_nm (qne hq (by decide) (by decide) (by decide)) h_n0)) (hF 8 (by decide))
            | 9, _ => exact fr.at (h_nm (h_ne (hF 9 (by decide)) h0 (fun h => by cases h)) (h_nm (qne hq (by decide) (by decide) (by decide)) h_n0)) (hF 9 (by decide))
            | 10, _ => exact fr.at (h_nm (h_ne (hF 10 (by decide)) h0 (fun h => by cases h)) (h_nm (qne hq (by decide) (by decide) (by decide)) h_n0)) (hF 10 (by decide))
            | 11, _ => exact fr.at (h_nm (h_ne (hF 11 (by decide)) h0 (fun h => by cases h)) (h_nm (qne hq (by decide) (by decide) (by decide)) h_n0)) (hF 11 (by decide))
            | 12, _ => exact fr.at (h_nm (h_ne (hF 12 (by decide)) h0 (fun h => by cases h)) (h_nm (qne hq (by decide) (by decide) (by decide)) h_n0)) (hF 12 (by decide))
            | 13, _ => exact fr.at (h_nm (h_ne (hF 13 (by decide)) h0 (fun h => by cases h)) (h_nm (qne hq (by decide) (by decide) (by decide)) h_n0)) (hF 13 (by decide))
            | 14, _ => exact fr.at (h_nm (h_ne (hF 14 (by decide)) h0 (fun h => by cases h)) (h_nm (qne hq (by decide) (by decide) (by decide)) h_n0)) (hF 14 (by decide))
            | 15, _ => exact fr.at (h_nm (h_ne (hF 15 (by decide)) h0 (fun h => by cases h)) (h_nm (qne hq (by decide) (by decide) (by decide)) h_n0)) (hF 15 (by decide))
            | 16, _ => exact fr.at (h_nm (h_ne (hF 16 (by decide)) h0 (fun h => by cases h)) (h_nm (qne hq (by decide) (by decide) (by decide)) h_n0)) (hF 16 (by decide))
            | 17, _ => exact fr.at (h_nm (h_ne (hF 17 (by decide)) h0 (fun h => by cases h)) (h_nm (qne hq (by decide) (by decide) (by decide)) h_n0)) (hF 17 (by decide))
            | i + 18, h => omega
          have hrep : repM cI g_4 mm q (o_clear r S).1 (o_clear r S).2.2 := by rw [show o_clear r S = (1, 0, S) by simp only [o_clear, e_k]]; exact ⟨hq, hok, v3, v4, v14, v16, v17, v23, (fun i => match i with | 0 => F 0 | i => F i), rm_, hF2, hR_, hA_, hB_, hH_, hC_, hZ_, hV_, hL_⟩
          have fr9 : hfr g g_4 (mS mm q) := fr.mono (by simp)
          exact hend _ _ _ _ _ _ _ (by decide) (by decide) (⟨fr9, hrep⟩) hg hS dMM_clear_27
        · skip
          rw [← nI_0] at c_17
          have c_17 : 1 = 0 := (nI_eq (by omega) (by omega)).mp c_17
          exact absurd c_17 (by decide)
      · skip
        exact absurd hr_ (by decide)
set_option maxRecDepth 100000 in
set_option maxHeartbeats 4000000 in
theorem c_MM_size (l : Launch) (D : va_G) (cI cR cJ : ClassId) (g : Nat → Option va_E) (sz : Nat) (mm : Nat) (q : Nat → Nat) (t : Nat) (S : ST) (r : Int32) (HM : repM cI g mm q t S) : hMi l yMM_size cMM_size 2 .int (hRm 1 24 0 0) D (hT cI cR cJ) g sz [.ref mm, .int r] (fun o g1 => hfr g g1 (mS mm q) ∧ repM cI g1 mm q (o_size r S).1 (o_size r S).2.2 ∧ ((o_size r S).1 = 0 → o = (o_size r S).2.1)) := by
  refine hMi_of (by decide +kernel) (Nat.le_of_ble_eq_true rfl) ?_
  intro pX eX RX sX mX argsX belowX methX cX QX AX hR S0 hnm hsz hg hK hS hA0 hend ls hl
  have hl : lv_has ls 2 [(0, .ref mm), (1, .int r)] := hl
  obtain ⟨hq, hok, v3, v4, v14, v16, v17, v23, F, h0, hF, hR_, hA_, hB_, hH_, hC_, hZ_, hV_, hL_⟩ := HM
  have hsizes : g (q 0) = some (.inl (cI, 6, .inl (F 0))) := hF 0 (by decide)
  have fr : hfr g g [mm] := hfr.rf
  refine lv_aload_n S0.1 S0.2.1 dMM_size_0 rfl (lv_at hl 0 rfl) ?_
  refine lv_iload_n S0.1 S0.2.1 dMM_size_1 rfl (lv_at hl 1 rfl) ?_
  refine hw_Si (As := [.int r]) (rest := [.ref mm]) S0 hK hg hS hA0 (c_MM_isRow l D cI cR cJ g _ r) kMM_isRow lm_MM_68 (hR.call rfl) rfl hl.1 rfl (Nat.le_of_ble_eq_true rfl) dMM_size_2 (hR.new (by decide) (by decide)) (fun r_2 g_1 H locs hp_2 hg hS => ?_)
  rw [hp_2.1] at hg
  replace hp_2 := hp_2.2
  rcases hp_2 with hp_2 | hp_2
  · skip
    obtain ⟨ho, k, hk_k, rfl⟩ := hp_2
    subst ho
    have e_k : ix (nI k) 6 = some k := ix_some hk_k (by decide)
    refine lv_if_ne (tgt := 12) S0.1 S0.2.1 dMM_size_5 (by decide) (fun c_5 => ?_) (fun c_5 => ?_)
    · skip
      rw [← nI_0] at c_5
      have c_5 : ¬ (1 = 0) := fun h => c_5 ((nI_eq (by omega) (by omega)).mpr h)
      refine lv_iconst (v := nI 0) S0.1 S0.2.1 dMM_size_12 (by decide) ?_
      refine lv_iconst (v := nI 0) S0.1 S0.2.1 dMM_size_13 (by decide) ?_
      refine hw_Vi (As := [.int (nI 0), .int (nI 0)]) (rest := []) S0 hK hg hS hA0 h0 rfl (c_MM_refuse l D cI cR cJ g _ mm q hq (nI t) v3 v4 (nI S.2.1.length) (nI S.2.2.1.length) v14 v16 v17 (nI S.2.2.2.1.length) v23 (nI S.2.2.2.2.1.length) 0 0 (by decide) (by decide) h0) kMM_refuse lm_MM_72 (hR.call rfl) rfl hl.1 rfl (Nat.le_of_ble_eq_true rfl) dMM_size_14 (hR.new (by decide) (by decide)) (fun r_14 g_2 H locs hp_14 hg hS => ?_)
      obtain ⟨frr, rm_, hp_14⟩ := hp_14
      have rm_ : g_2 mm = some (mmC q (nI 0) v3 v4 (nI S.2.1.length) (nI S.2.2.1.length) v14 v16 v17 (nI S.2.2.2.1.length) v23 (nI S.2.2.2.2.1.length)) := rm_
      have k2_0 := frr.at (h_nm (h_ne hsizes h0 (fun h => by cases h)) h_n0) hsizes
      have fr := fr.call frr (by simp)
      rcases hp_14 with ⟨ho, hr_⟩ | ⟨ho, hr_⟩
      · skip
        exact absurd hr_ (by decide)
      · skip
        subst ho
        refine lv_if_eq (tgt := 24) S0.1 S0.2.1 dMM_size_17 (by decide) (fun c_17 => ?_) (fun c_17 => ?_)
        · skip
          rw [← nI_0] at c_17
          have c_17 : 0 = 0 := (nI_eq (by omega) (by omega)).mp c_17
          obtain ⟨t1, t2, t3⟩ := hR_ k hk_k
          refine lv_aload_n S0.1 S0.2.1 dMM_size_24 rfl (lv_at hl 0 rfl) ?_
          refine hw_get S0 hK hg rm_ rfl inMM 1 (by decide) lf_MM_7 rfl rfl dMM_size_25 ?_
          refine lv_iload_n S0.1 S0.2.1 dMM_size_28 rfl (lv_at hl 1 rfl) ?_
          refine hw_iald S0 hK hg k2_0 0 rfl (by omega) (by omega) dMM_size_29 ?_
          refine hw_top (nI ((S.1 k).length)) t1 ?_
          have hF2 : ∀ i, i < 18 → g_2 (q i) = some (.inl (cI, mSz i, .inl (F i))) := by
            intro i hi
            match i, hi with
            | 0, _ => exact fr.at (h_nm (h_ne (hF 0 (by decide)) h0 (fun h => by cases h)) h_n0) (hF 0 (by decide))
            | 1, _ => exact fr.at (h_nm (h_ne (hF 1 (by decide)) h0 (fun h => by cases h)) h_n0) (hF 1 (by decide))
            | 2, _ => exact fr.at (h_nm (h_ne (hF 2 (by decide)) h0 (fun h => by cases h)) h_n0) (hF 2 (by decide))
            | 3, _ => exact fr.at (h_nm (h_ne (hF 3 (by decide)) h0 (fun h => by cases h)) h_n0) (hF 3 (by decide))
            | 4, _ => exact fr.at (h_nm (h_ne (hF 4 (by decide)) h0 (fun h => by cases h)) h_n0) (hF 4 (by decide))
            | 5, _ => exact fr.at (h_nm (h_ne (hF 5 (by decide)) h0 (fun h => by cases h)) h_n0) (hF 5 (by decide))
            | 6, _ => exact fr.at (h_nm (h_ne (hF 6 (by decide)) h0 (fun h => by cases h)) h_n0) (hF 6 (by decide))
            | 7, _ => exact fr.at (h_nm (h_ne (hF 7 (by decide)) h0 (fun h => by cases h)) h_n0) (hF 7 (by decide))
            | 8, _ => exact fr.at (h_nm (h_ne (hF 8 (by decide)) h0 (fun h => by cases h)) h_n0) (hF 8 (by decide))
            | 9, _ => exact fr.at (h_nm (h_ne (hF 9 (by decide)) h0 (fun h => by cases h)) h_n0) (hF 9 (by decide))
            | 10, _ => exact fr.at (h_nm (h_ne (hF 10 (by decide)) h0 (fun h => by cases h)) h_n0) (hF 10 (by decide))
            | 11, _ => exact fr.at (h_nm (h_ne (hF 11 (by decide)) h0 (fun h => by cases h)) h_n0) (hF 11 (by decide))
            | 12, _ => exact fr.at (h_nm (h_ne (hF 12 (by decide)) h0 (fun h => by cases h)) h_n0) (hF 12 (by decide))
            | 13, _ => exact fr.at (h_nm (h_ne (hF 13 (by decide)) h0 (fun h => by cases h)) h_n0) (hF 13 (by decide))
            | 14, _ => exact fr.at (h_nm (h_ne (hF 14 (by decide)) h0 (fun h => by cases h)) h_n0) (hF 14 (by decide))
            | 15, _ => exact fr.at (h_nm (h_ne (hF 15 (by decide)) h0 (fun h => by cases h)) h_n0) (hF 15 (by decide))
            | 16, _ => exact fr.at (h_nm (h_ne (hF 16 (by decide)) h0 (fun h => by cases h)) h_n0) (hF 16 (by decide))
            | 17, _ => exact fr.at (h_nm (h_ne (hF 17 (by decide)) h0 (fun h => by cases h)) h_n0) (hF 17 (by decide))
            | i + 18, h => omega
          have hrep : repM cI g_2 mm q (o_size (nI k) S).1 (o_size (nI k) S).2.2 := by rw [show o_size (nI k) S = (0, nI (S.1 k).length, S) by simp only [o_size, e_k]]; exact ⟨hq, hok, v3, v4, v14, v16, v17, v23, F, rm_, hF2, hR_, hA_, hB_, hH_, hC_, hZ_, hV_, hL_⟩
          have fr9 : hfr g g_2 (mS mm q) := fr.mono (by simp)
          exact hend _ _ _ _ _ _ _ _ (by decide) (by decide) rfl (⟨fr9, hrep, fun h9 => by rw [show o_size (nI k) S = (0, nI (S.1 k).length, S) by simp only [o_size, e_k]] at h9 ⊢⟩) hg hS dMM_size_30
        · skip
          rw [← nI_0] at c_17
          have c_17 : ¬ (0 = 0) := fun h => c_17 ((nI_eq (by omega) (by omega)).mpr h)
          exact absurd c_17 (by decide)
    · skip
      rw [← nI_0] at c_5
      have c_5 : 1 = 0 := (nI_eq (by omega) (by omega)).mp c_5
      exact absurd c_5 (by decide)
  · skip
    obtain ⟨ho, hn_k⟩ := hp_2
    subst ho
    have e_k : ix r 6 = none := ix_none hn_k
    refine lv_if_ne (tgt := 12) S0.1 S0.2.1 dMM_size_5 (by decide) (fun c_5 => ?_) (fun c_5 => ?_)
    · skip
      rw [← nI_0] at c_5
      have c_5 : ¬ (0 = 0) := fun h => c_5 ((nI_eq (by omega) (by omega)).mpr h)
      exact absurd c_5 (by decide)
    · skip
      rw [← nI_0] at c_5
      have c_5 : 0 = 0 := (nI_eq (by omega) (by omega)).mp c_5
      refine lv_iconst (v := nI 1) S0.1 S0.2.1 dMM_size_8 (by decide) ?_
      refine lv_goto (tgt := 13) S0.1 S0.2.1 dMM_size_9 (by decide) ?_
      refine lv_iconst (v := nI 0) S0.1 S0.2.1 dMM_size_13 (by decide) ?_
      refine hw_Vi (As := [.int (nI 1), .int (nI 0)]) (rest := []) S0 hK hg hS hA0 h0 rfl (c_MM_refuse l D cI cR cJ g _ mm q hq (nI t) v3 v4 (nI S.2.1.length) (nI S.2.2.1.length) v14 v16 v17 (nI S.2.2.2.1.length) v23 (nI S.2.2.2.2.1.length) 1 0 (by decide) (by decide) h0) kMM_refuse lm_MM_72 (hR.call rfl) rfl hl.1 rfl (Nat.le_of_ble_eq_true rfl) dMM_size_14 (hR.new (by decide) (by decide)) (fun r_14 g_3 H locs hp_14 hg hS => ?_)
      obtain ⟨frr, rm_, hp_14⟩ := hp_14
      have rm_ : g_3 mm = some (mmC q (nI 1) v3 v4 (nI S.2.1.length) (nI S.2.2.1.length) v14 v16 v17 (nI S.2.2.2.1.length) v23 (nI S.2.2.2.2.1.length)) := rm_
      have k3_0 := frr.at (h_nm (h_ne hsizes h0 (fun h => by cases h)) h_n0) hsizes
      have fr := fr.call frr (by simp)
      rcases hp_14 with ⟨ho, hr_⟩ | ⟨ho, hr_⟩
      · skip
        subst ho
        refine lv_if_eq (tgt := 24) S0.1 S0.2.1 dMM_size_17 (by decide) (fun c_17 => ?_) (fun c_17 => ?_)
        · skip
          rw [← nI_0] at c_17
          have c_17 : 1 = 0 := (nI_eq (by omega) (by omega)).mp c_17
          exact absurd c_17 (by decide)
        · skip
          rw [← nI_0] at c_17
          have c_17 : ¬ (1 = 0) := fun h => c_17 ((nI_eq (by omega) (by omega)).mpr h)
          refine lv_iconst (v := nI 0) S0.1 S0.2.1 dMM_size_20 (by decide) ?_
          refine lv_goto (tgt := 30) S0.1 S0.2.1 dMM_size_21 (by decide) ?_
          have hF2 : ∀ i, i < 18 → g_3 (q i) = some (.inl (cI, mSz i, .inl (F i))) := by
            intro i hi
            match i, hi with
            | 0, _ => exact fr.at (h_nm (h_ne (hF 0 (by decide)) h0 (fun h => by cases h)) h_n0) (hF 0 (by decide))
            | 1, _ => exact fr.at (h_nm (h_ne (hF 1 (by decide)) h0 (fun h => by cases h)) h_n0) (hF 1 (by decide))
            | 2, _ => exact fr.at (h_nm (h_ne (hF 2 (by decide)) h0 (fun h => by cases h)) h_n0) (hF 2 (by decide))
            | 3, _ => exact fr.at (h_nm (h_ne (hF 3 (by decide)) h0 (fun h => by cases h)) h_n0) (hF 3 (by decide))
            | 4, _ => exact fr.at (h_nm (h_ne (hF 4 (by decide)) h0 (fun h => by cases h)) h_n0) (hF 4 (by decide))
            | 5, _ => exact fr.at (h_nm (h_ne (hF 5 (by decide)) h0 (fun h => by cases h)) h_n0) (hF 5 (by decide))
            | 6, _ => exact fr.at (h_nm (h_ne (hF 6 (by decide)) h0 (fun h => by cases h)) h_n0) (hF 6 (by decide))
            | 7, _ => exact fr.at (h_nm (h_ne (hF 7 (by decide)) h0 (fun h => by cases h)) h_n0) (hF 7 (by decide))
            | 8, _ => exact fr.at (h_nm (h_ne (hF 8 (by decide)) h0 (fun h => by cases h)) h_n0) (hF 8 (by decide))
            | 9, _ => exact fr.at (h_nm (h_ne (hF 9 (by decide)) h0 (fun h => by cases h)) h_n0) (hF 9 (by decide))
            | 10, _ => exact fr.at (h_nm (h_ne (hF 10 (by decide)) h0 (fun h => by cases h)) h_n0) (hF 10 (by decide))
            | 11, _ => exact fr.at (h_nm (h_ne (hF 11 (by decide)) h0 (fun h => by cases h)) h_n0) (hF 11 (by decide))
            | 12, _ => exact fr.at (h_nm (h_ne (hF 12 (by decide)) h0 (fun h => by cases h)) h_n0) (hF 12 (by decide))
            | 13, _ => exact fr.at (h_nm (h_ne (hF 13 (by decide)) h0 (fun h => by cases h)) h_n0) (hF 13 (by decide))
            | 14, _ => exact fr.at (h_nm (h_ne (hF 14 (by decide)) h0 (fun h => by cases h)) h_n0) (hF 14 (by decide))
            | 15, _ => exact fr.at (h_nm (h_ne (hF 15 (by decide)) h0 (fun h => by cases h)) h_n0) (hF 15 (by decide))
            | 16, _ => exact fr.at (h_nm (h_ne (hF 16 (by decide)) h0 (fun h => by cases h)) h_n0) (hF 16 (by decide))
            | 17, _ => exact fr.at (h_nm (h_ne (hF 17 (by decide)) h0 (fun h => by cases h)) h_n0) (hF 17 (by decide))
            | i + 18, h => omega
          have hrep : repM cI g_3 mm q (o_size r S).1 (o_size r S).2.2 := by rw [show o_size r S = (1, 0, S) by simp only [o_size, e_k]]; exact ⟨hq, hok, v3, v4, v14, v16, v17, v23, F, rm_, hF2, hR_, hA_, hB_, hH_, hC_, hZ_, hV_, hL_⟩
          have fr9 : hfr g g_3 (mS mm q) := fr.mono (by simp)
          exact hend _ _ _ _ _ _ _ _ (by decide) (by decide) rfl (⟨fr9, hrep, fun h9 => by rw [show o_size r S = (1, 0, S) by simp only [o_size, e_k]] at h9 ⊢; cases h9⟩) hg hS dMM_size_30
      · skip
        exact absurd hr_ (by decide)
set_option maxRecDepth 100000 in
set_option maxHeartbeats 4000000 in
theorem c_MM_get (l : Launch) (D : va_G) (cI cR cJ : ClassId) (g : Nat → Option va_E) (sz : Nat) (mm : Nat) (q : Nat → Nat) (t : Nat) (S : ST) (r j : Int32) (HM : repM cI g mm q t S) : hMi l yMM_get cMM_get 4 .int (hRm 1 24 0 0) D (hT cI cR cJ) g sz [.ref mm, .int r, .int j] (fun o g1 => hfr g g1 (mS mm q) ∧ repM cI g1 mm q (o_get r j S).1 (o_get r j S).2.2 ∧ ((o_get r j S).1 = 0 → o = (o_get r j S).2.1)) := by
  refine hMi_of (by decide +kernel) (Nat.le_of_ble_eq_true rfl) ?_
  intro pX eX RX sX mX argsX belowX methX cX QX AX hR S0 hnm hsz hg hK hS hA0 hend ls hl
  have hl : lv_has ls 4 [(0, .ref mm), (1, .int r), (2, .int j)] := hl
  obtain ⟨hq, hok, v3, v4, v14, v16, v17, v23, F, h0, hF, hR_, hA_, hB_, hH_, hC_, hZ_, hV_, hL_⟩ := HM
  have hsizes : g (q 0) = some (.inl (cI, 6, .inl (F 0))) := hF 0 (by decide)
  have hlines : g (q 1) = some (.inl (cI, 360, .inl (F 1))) := hF 1 (by decide)
  have fr : hfr g g [mm] := hfr.rf
  refine lv_iload_n S0.1 S0.2.1 dMM_get_0 rfl (lv_at hl 1 rfl) ?_
  refine hw_Si (As := [.int r]) (rest := []) S0 hK hg hS hA0 (c_MM_isRow l D cI cR cJ g _ r) kMM_isRow lm_MM_68 (hR.call rfl) rfl hl.1 rfl (Nat.le_of_ble_eq_true rfl) dMM_get_1 (hR.new (by decide) (by decide)) (fun r_1 g_1 H locs hp_1 hg hS => ?_)
  rw [hp_1.1] at hg
  replace hp_1 := hp_1.2
  rcases hp_1 with hp_1 | hp_1
  · skip
    obtain ⟨ho, k, hk_k, rfl⟩ := hp_1
    subst ho
    have e_k : ix (nI k) 6 = some k := ix_some hk_k (by decide)
    refine lv_istore_n (lv' := [(3, .int (nI 1)), (0, .ref mm), (1, .int (nI k)), (2, .int j)]) S0.1 S0.2.1 dMM_get_4 rfl hl (by decide) rfl (fun ls hl => ?_)
    refine lv_aload_n S0.1 S0.2.1 dMM_get_5 rfl (lv_at hl 1 rfl) ?_
    refine lv_iload_n S0.1 S0.2.1 dMM_get_6 rfl (lv_at hl 0 rfl) ?_
    refine lv_if_ne (tgt := 14) S0.1 S0.2.1 dMM_get_7 (by decide) (fun c_7 => ?_) (fun c_7 => ?_)
    · skip
      rw [← nI_0] at c_7
      have c_7 : ¬ (1 = 0) := fun h => c_7 ((nI_eq (by omega) (by omega)).mpr h)
      refine lv_iconst (v := nI 0) S0.1 S0.2.1 dMM_get_14 (by decide) ?_
      obtain ⟨t1, t2, t3⟩ := hR_ k hk_k
      refine lv_iload_n S0.1 S0.2.1 dMM_get_15 rfl (lv_at hl 0 rfl) ?_
      refine lv_if_eq (tgt := 45) S0.1 S0.2.1 dMM_get_16 (by decide) (fun c_16 => ?_) (fun c_16 => ?_)
      · skip
        rw [← nI_0] at c_16
        have c_16 : 1 = 0 := (nI_eq (by omega) (by omega)).mp c_16
        exact absurd c_16 (by decide)
      · skip
        rw [← nI_0] at c_16
        have c_16 : ¬ (1 = 0) := fun h => c_16 ((nI_eq (by omega) (by omega)).mpr h)
        refine lv_iload_n S0.1 S0.2.1 dMM_get_19 rfl (lv_at hl 3 rfl) ?_
        refine lv_if_lt (tgt := 41) S0.1 S0.2.1 dMM_get_20 (by decide) (fun c_20 => ?_) (fun c_20 => ?_)
        · skip
          have e_j : ix j (S.1 k).length = none := ix_neg c_20
          refine lv_iconst (v := nI 1) S0.1 S0.2.1 dMM_get_41 (by decide) ?_
          refine lv_goto (tgt := 46) S0.1 S0.2.1 dMM_get_42 (by decide) ?_
          refine hw_Vi (As := [.int (nI 0), .int (nI 1)]) (rest := []) S0 hK hg hS hA0 h0 rfl (c_MM_refuse l D cI cR cJ g _ mm q hq (nI t) v3 v4 (nI S.2.1.length) (nI S.2.2.1.length) v14 v16 v17 (nI S.2.2.2.1.length) v23 (nI S.2.2.2.2.1.length) 0 1 (by decide) (by decide) h0) kMM_refuse lm_MM_72 (hR.call rfl) rfl hl.1 rfl (Nat.le_of_ble_eq_true rfl) dMM_get_46 (hR.new (by decide) (by decide)) (fun r_46 g_2 H locs hp_46 hg hS => ?_)
          obtain ⟨frr, rm_, hp_46⟩ := hp_46
          have rm_ : g_2 mm = some (mmC q (nI 2) v3 v4 (nI S.2.1.length) (nI S.2.2.1.length) v14 v16 v17 (nI S.2.2.2.1.length) v23 (nI S.2.2.2.2.1.length)) := rm_
          have k2_0 := frr.at (h_nm (h_ne hsizes h0 (fun h => by cases h)) h_n0) hsizes
          have k2_1 := frr.at (h_nm (h_ne hlines h0 (fun h => by cases h)) h_n0) hlines
          have fr := fr.call frr (by simp)
          rcases hp_46 with ⟨ho, hr_⟩ | ⟨ho, hr_⟩
          · skip
            subst ho
            refine lv_if_eq (tgt := 54) S0.1 S0.2.1 dMM_get_49 (by decide) (fun c_49 => ?_) (fun c_49 => ?_)
            · skip
              rw [← nI_0] at c_49
              have c_49 : 1 = 0 := (nI_eq (by omega) (by omega)).mp c_49
              exact absurd c_49 (by decide)
            · skip
              rw [← nI_0] at c_49
              have c_49 : ¬ (1 = 0) := fun h => c_49 ((nI_eq (by omega) (by omega)).mpr h)
              refine lv_iconst (v := nI 0) S0.1 S0.2.1 dMM_get_52 (by decide) ?_
              have hF2 : ∀ i, i < 18 → g_2 (q i) = some (.inl (cI, mSz i, .inl (F i))) := by
                intro i hi
                match i, hi with
                | 0, _ => exact fr.at (h_nm (h_ne (hF 0 (by decide)) h0 (fun h => by cases h)) h_n0) (hF 0 (by decide))
                | 1, _ => exact fr.at (h_nm (h_ne (hF 1 (by decide)) h0 (fun h => by cases h)) h_n0) (hF 1 (by decide))
                | 2, _ => exact fr.at (h_nm (h_ne (hF 2 (by decide)) h0 (fun h => by cases h)) h_n0) (hF 2 (by decide))
                | 3, _ => exact fr.at (h_nm (h_ne (hF 3 (by decide)) h0 (fun h => by cases h)) h_n0) (hF 3 (by decide))
                | 4, _ => exact fr.at (h_nm (h_ne (hF 4 (by decide)) h0 (fun h => by cases h)) h_n0) (hF 4 (by decide))
                | 5, _ => exact fr.at (h_nm (h_ne (hF 5 (by decide)) h0 (fun h => by cases h)) h_n0) (hF 5 (by decide))
                | 6, _ => exact fr.at (h_nm (h_ne (hF 6 (by decide)) h0 (fun h => by cases h)) h_n0) (hF 6 (by decide))
                | 7, _ => exact fr.at (h_nm (h_ne (hF 7 (by decide)) h0 (fun h => by cases h)) h_n0) (hF 7 (by decide))
                | 8, _ => exact fr.at (h_nm (h_ne (hF 8 (by decide)) h0 (fun h => by cases h)) h_n0) (hF 8 (by decide))
                | 9, _ => exact fr.at (h_nm (h_ne (hF 9 (by decide)) h0 (fun h => by cases h)) h_n0) (hF 9 (by decide))
                | 10, _ => exact fr.at (h_nm (h_ne (hF 10 (by decide)) h0 (fun h => by cases h)) h_n0) (hF 10 (by decide))
                | 11, _ => exact fr.at (h_nm (h_ne (hF 11 (by decide)) h0 (fun h => by cases h)) h_n0) (hF 11 (by decide))
                | 12, _ => exact fr.at (h_nm (h_ne (hF 12 (by decide)) h0 (fun h => by cases h)) h_n0) (hF 12 (by decide))
                | 13, _ => exact fr.at (h_nm (h_ne (hF 13 (by decide)) h0 (fun h => by cases h)) h_n0) (hF 13 (by decide))
                | 14, _ => exact fr.at (h_nm (h_ne (hF 14 (by decide)) h0 (fun h => by cases h)) h_n0) (hF 14 (by decide))
                | 15, _ => exact fr.at (h_nm (h_ne (hF 15 (by decide)) h0 (fun h => by cases h)) h_n0) (hF 15 (by decide))
                | 16, _ => exact fr.at (h_nm (h_ne (hF 16 (by decide)) h0 (fun h => by cases h)) h_n0) (hF 16 (by decide))
                | 17, _ => exact fr.at (h_nm (h_ne (hF 17 (by decide)) h0 (fun h => by cases h)) h_n0) (hF 17 (by decide))
                | i + 18, h => omega
              have hrep : repM cI g_2 mm q (o_get (nI k) j S).1 (o_get (nI k) j S).2.2 := by rw [show o_get (nI k) j S = (2, 0, S) by simp only [o_get, e_k, e_j]]; exact ⟨hq, hok, v3, v4, v14, v16, v17, v23, F, rm_, hF2, hR_, hA_, hB_, hH_, hC_, hZ_, hV_, hL_⟩
              have fr9 : hfr g g_2 (mS mm q) := fr.mono (by simp)
              exact hend _ _ _ _ _ _ _ _ (by decide) (by decide) rfl (⟨fr9, hrep, fun h9 => by rw [show o_get (nI k) j S = (2, 0, S) by simp only [o_get, e_k, e_j]] at h9 ⊢; cases h9⟩) hg hS dMM_get_53
          · skip
            exact absurd hr_ (by decide)
        · skip
          obtain ⟨x, hx, rfl⟩ := nI_of c_20
          refine lv_iload_n S0.1 S0.2.1 dMM_get_23 rfl (lv_at hl 3 rfl) ?_
          refine lv_aload_n S0.1 S0.2.1 dMM_get_24 rfl (lv_at hl 1 rfl) ?_
          refine hw_get S0 hK hg h0 rfl inMM 1 (by decide) lf_MM_7 rfl rfl dMM_get_25 ?_
          refine lv_iload_n S0.1 S0.2.1 dMM_get_28 rfl (lv_at hl 0 rfl) ?_
          refine lv_if_eq (tgt := 36) S0.1 S0.2.1 dMM_get_29 (by decide) (fun c_29 => ?_) (fun c_29 => ?_)
          · skip
            rw [← nI_0] at c_29
            have c_29 : 1 = 0 := (nI_eq (by omega) (by omega)).mp c_29
            exact absurd c_29 (by decide)
          · skip
            rw [← nI_0] at c_29
            have c_29 : ¬ (1 = 0) := fun h => c_29 ((nI_eq (by omega) (by omega)).mpr h)
            refine lv_iload_n S0.1 S0.2.1 dMM_get_32 rfl (lv_at hl 2 rfl) ?_
            refine lv_goto (tgt := 37) S0.1 S0.2.1 dMM_get_33 (by decide) ?_
            refine hw_iald S0 hK hg hsizes 0 rfl (by omega) (by omega) dMM_get_37 ?_
            refine hw_top (nI ((S.1 k).length)) t1 ?_
            refine lv_icmp_lt (tgt := 45) S0.1 S0.2.1 dMM_get_38 (by decide) (fun c_38 => ?_) (fun c_38 => ?_)
            · skip
              have c_38 : x < ((S.1 k).length) := (nI_ltI (by omega) (by omega)).mp c_38
              have e_j : ix (nI x) (S.1 k).length = some x := ix_some c_38 (by omega)
              refine lv_iconst (v := nI 0) S0.1 S0.2.1 dMM_get_45 (by decide) ?_
              refine hw_Vi (As := [.int (nI 0), .int (nI 0)]) (rest := []) S0 hK hg hS hA0 h0 rfl (c_MM_refuse l D cI cR cJ g _ mm q hq (nI t) v3 v4 (nI S.2.1.length) (nI S.2.2.1.length) v14 v16 v17 (nI S.2.2.2.1.length) v23 (nI S.2.2.2.2.1.length) 0 0 (by decide) (by decide) h0) kMM_refuse lm_MM_72 (hR.call rfl) rfl hl.1 rfl (Nat.le_of_ble_eq_true rfl) dMM_get_46 (hR.new (by decide) (by decide)) (fun r_46 g_3 H locs hp_46 hg hS => ?_)
              obtain ⟨frr, rm_, hp_46⟩ := hp_46
              have rm_ : g_3 mm = some (mmC q (nI 0) v3 v4 (nI S.2.1.length) (nI S.2.2.1.length) v14 v16 v17 (nI S.2.2.2.1.length) v23 (nI S.2.2.2.2.1.length)) := rm_
              have k3_0 := frr.at (h_nm (h_ne hsizes h0 (fun h => by cases h)) h_n0) hsizes
              have k3_1 := frr.at (h_nm (h_ne hlines h0 (fun h => by cases h)) h_n0) hlines
              have fr := fr.call frr (by simp)
              rcases hp_46 with ⟨ho, hr_⟩ | ⟨ho, hr_⟩
              · skip
                exact absurd hr_ (by decide)
              · skip
                subst ho
                refine lv_if_eq (tgt := 54) S0.1 S0.2.1 dMM_get_49 (by decide) (fun c_49 => ?_) (fun c_49 => ?_)
                · skip
                  rw [← nI_0] at c_49
                  have c_49 : 0 = 0 := (nI_eq (by omega) (by omega)).mp c_49
                  refine lv_aload_n S0.1 S0.2.1 dMM_get_54 rfl (lv_at hl 1 rfl) ?_
                  refine hw_get S0 hK hg rm_ rfl inMM 2 (by decide) lf_MM_13 rfl rfl dMM_get_55 ?_
                  refine lv_bipush (v := nI 60) S0.1 S0.2.1 dMM_get_58 (by decide) ?_
                  refine lv_iload_n S0.1 S0.2.1 dMM_get_60 rfl (lv_at hl 2 rfl) ?_
                  refine lv_imul S0.1 S0.2.1 dMM_get_61 ?_
                  refine hw_top (nI (60 * k)) (pk_mul _ _) ?_
                  refine lv_iload_n S0.1 S0.2.1 dMM_get_62 rfl (lv_at hl 3 rfl) ?_
                  refine lv_iadd S0.1 S0.2.1 dMM_get_63 ?_
                  refine hw_top (nI ((60 * k) + x)) (nI_add _ _) ?_
                  refine hw_iald S0 hK hg k3_1 0 rfl (by omega) (by omega) dMM_get_64 ?_
                  have hF2 : ∀ i, i < 18 → g_3 (q i) = some (.inl (cI, mSz i, .inl (F i))) := by
                    intro i hi
                    match i, hi with
                    | 0, _ => exact fr.at (h_nm (h_ne (hF 0 (by decide)) h0 (fun h => by cases h)) h_n0) (hF 0 (by decide))
                    | 1, _ => exact fr.at (h_nm (h_ne (hF 1 (by decide)) h0 (fun h => by cases h)) h_n0) (hF 1 (by decide))
                    | 2, _ => exact fr.at (h_nm (h_ne (hF 2 (by decide)) h0 (fun h => by cases h)) h_n0) (hF 2 (by decide))
                    | 3, _ => exact fr.at (h_nm (h_ne (hF 3 (by decide)) h0 (fun h => by cases h)) h_n0) (hF 3 (by decide))
                    | 4, _ => exact fr.at (h_nm (h_ne (hF 4 (by decide)) h0 (fun h => by cases h)) h_n0) (hF 4 (by decide))
                    | 5, _ => exact fr.at (h_nm (h_ne (hF 5 (by decide)) h0 (fun h => by cases h)) h_n0) (hF 5 (by decide))
                    | 6, _ => exact fr.at (h_nm (h_ne (hF 6 (by decide)) h0 (fun h => by cases h)) h_n0) (hF 6 (by decide))
                    | 7, _ => exact fr.at (h_nm (h_ne (hF 7 (by decide)) h0 (fun h => by cases h)) h_n0) (hF 7 (by decide))
                    | 8, _ => exact fr.at (h_nm (h_ne (hF 8 (by decide)) h0 (fun h => by cases h)) h_n0) (hF 8 (by decide))
                    | 9, _ => exact fr.at (h_nm (h_ne (hF 9 (by decide)) h0 (fun h => by cases h)) h_n0) (hF 9 (by decide))
                    | 10, _ => exact fr.at (h_nm (h_ne (hF 10 (by decide)) h0 (fun h => by cases h)) h_n0) (hF 10 (by decide))
                    | 11, _ => exact fr.at (h_nm (h_ne (hF 11 (by decide)) h0 (fun h => by cases h)) h_n0) (hF 11 (by decide))
                    | 12, _ => exact fr.at (h_nm (h_ne (hF 12 (by decide)) h0 (fun h => by cases h)) h_n0) (hF 12 (by decide))
                    | 13, _ => exact fr.at (h_nm (h_ne (hF 13 (by decide)) h0 (fun h => by cases h)) h_n0) (hF 13 (by decide))
                    | 14, _ => exact fr.at (h_nm (h_ne (hF 14 (by decide)) h0 (fun h => by cases h)) h_n0) (hF 14 (by decide))
                    | 15, _ => exact fr.at (h_nm (h_ne (hF 15 (by decide)) h0 (fun h => by cases h)) h_n0) (hF 15 (by decide))
                    | 16, _ => exact fr.at (h_nm (h_ne (hF 16 (by decide)) h0 (fun h => by cases h)) h_n0) (hF 16 (by decide))
                    | 17, _ => exact fr.at (h_nm (h_ne (hF 17 (by decide)) h0 (fun h => by cases h)) h_n0) (hF 17 (by decide))
                    | i + 18, h => omega
                  have hrep : repM cI g_3 mm q (o_get (nI k) (nI x) S).1 (o_get (nI k) (nI x) S).2.2 := by rw [show o_get (nI k) (nI x) S = (0, (S.1 k).getD x 0, S) by simp only [o_get, e_k, e_j]]; exact ⟨hq, hok, v3, v4, v14, v16, v17, v23, F, rm_, hF2, hR_, hA_, hB_, hH_, hC_, hZ_, hV_, hL_⟩
                  have fr9 : hfr g g_3 (mS mm q) := fr.mono (by simp)
                  exact hend _ _ _ _ _ _ _ _ (by decide) (by decide) rfl (⟨fr9, hrep, fun h9 => by rw [show o_get (nI k) (nI x) S = (0, (S.1 k).getD x 0, S) by simp only [o_get, e_k, e_j]] at h9 ⊢; exact t3 x c_38⟩) hg hS dMM_get_65
                · skip
                  rw [← nI_0] at c_49
                  have c_49 : ¬ (0 = 0) := fun h => c_49 ((nI_eq (by omega) (by omega)).mpr h)
                  exact absurd c_49 (by decide)
            · skip
              have c_38 : ¬ (x < ((S.1 k).length)) := fun h => c_38 ((nI_ltI (by omega) (by omega)).mpr h)
              have e_j : ix (nI x) (S.1 k).length = none := ix_ge (by omega) hx
              refine lv_iconst (v := nI 1) S0.1 S0.2.1 dMM_get_41 (by decide) ?_
              refine lv_goto (tgt := 46) S0.1 S0.2.1 dMM_get_42 (by decide) ?_
              refine hw_Vi (As := [.int (nI 0), .int (nI 1)]) (rest := []) S0 hK hg hS hA0 h0 rfl (c_MM_refuse l D cI cR cJ g _ mm q hq (nI t) v3 v4 (nI S.2.1.length) (nI S.2.2.1.length) v14 v16 v17 (nI S.2.2.2.1.length) v23 (nI S.2.2.2.2.1.length) 0 1 (by decide) (by decide) h0) kMM_refuse lm_MM_72 (hR.call rfl) rfl hl.1 rfl (Nat.le_of_ble_eq_true rfl) dMM_get_46 (hR.new (by decide) (by decide)) (fun r_46 g_4 H locs hp_46 hg hS => ?_)
              obtain ⟨frr, rm_, hp_46⟩ := hp_46
              have rm_ : g_4 mm = some (mmC q (nI 2) v3 v4 (nI S.2.1.length) (nI S.2.2.1.length) v14 v16 v17 (nI S.2.2.2.1.length) v23 (nI S.2.2.2.2.1.length)) := rm_
              have k4_0 := frr.at (h_nm (h_ne hsizes h0 (fun h => by cases h)) h_n0) hsizes
              have k4_1 := frr.at (h_nm (h_ne hlines h0 (fun h => by cases h)) h_n0) hlines
              have fr := fr.call frr (by simp)
              rcases hp_46 with ⟨ho, hr_⟩ | ⟨ho, hr_⟩
              · skip
                subst ho
                refine lv_if_eq (tgt := 54) S0.1 S0.2.1 dMM_get_49 (by decide) (fun c_49 => ?_) (fun c_49 => ?_)
                · skip
                  rw [← nI_0] at c_49
                  have c_49 : 1 = 0 := (nI_eq (by omega) (by omega)).mp c_49
                  exact absurd c_49 (by decide)
                · skip
                  rw [← nI_0] at c_49
                  have c_49 : ¬ (1 = 0) := fun h => c_49 ((nI_eq (by omega) (by omega)).mpr h)
                  refine lv_iconst (v := nI 0) S0.1 S0.2.1 dMM_get_52 (by decide) ?_
                  have hF2 : ∀ i, i < 18 → g_4 (q i) = some (.inl (cI, mSz i, .inl (F i))) := by
                    intro i hi
                    match i, hi with
                    | 0, _ => exact fr.at (h_nm (h_ne (hF 0 (by decide)) h0 (fun h => by cases h)) h_n0) (hF 0 (by decide))
                    | 1, _ => exact fr.at (h_nm (h_ne (hF 1 (by decide)) h0 (fun h => by cases h)) h_n0) (hF 1 (by decide))
                    | 2, _ => exact fr.at (h_nm (h_ne (hF 2 (by decide)) h0 (fun h => by cases h)) h_n0) (hF 2 (by decide))
                    | 3, _ => exact fr.at (h_nm (h_ne (hF 3 (by decide)) h0 (fun h => by cases h)) h_n0) (hF 3 (by decide))
                    | 4, _ => exact fr.at (h_nm (h_ne (hF 4 (by decide)) h0 (fun h => by cases h)) h_n0) (hF 4 (by decide))
                    | 5, _ => exact fr.at (h_nm (h_ne (hF 5 (by decide)) h0 (fun h => by cases h)) h_n0) (hF 5 (by decide))
                    | 6, _ => exact fr.at (h_nm (h_ne (hF 6 (by decide)) h0 (fun h => by cases h)) h_n0) (hF 6 (by decide))
                    | 7, _ => exact fr.at (h_nm (h_ne (hF 7 (by decide)) h0 (fun h => by cases h)) h_n0) (hF 7 (by decide))
                    | 8, _ => exact fr.at (h_nm (h_ne (hF 8 (by decide)) h0 (fun h => by cases h)) h_n0) (hF 8 (by decide))
                    | 9, _ => exact fr.at (h_nm (h_ne (hF 9 (by decide)) h0 (fun h => by cases h)) h_n0) (hF 9 (by decide))
                    | 10, _ => exact fr.at (h_nm (h_ne (hF 10 (by decide)) h0 (fun h => by cases h)) h_n0) (hF 10 (by decide))
                    | 11, _ => exact fr.at (h_nm (h_ne (hF 11 (by decide)) h0 (fun h => by cases h)) h_n0) (hF 11 (by decide))
                    | 12, _ => exact fr.at (h_nm (h_ne (hF 12 (by decide)) h0 (fun h => by cases h)) h_n0) (hF 12 (by decide))
                    | 13, _ => exact fr.at (h_nm (h_ne (hF 13 (by decide)) h0 (fun h => by cases h)) h_n0) (hF 13 (by decide))
                    | 14, _ => exact fr.at (h_nm (h_ne (hF 14 (by decide)) h0 (fun h => by cases h)) h_n0) (hF 14 (by decide))
                    | 15, _ => exact fr.at (h_nm (h_ne (hF 15 (by decide)) h0 (fun h => by cases h)) h_n0) (hF 15 (by decide))
                    | 16, _ => exact fr.at (h_nm (h_ne (hF 16 (by decide)) h0 (fun h => by cases h)) h_n0) (hF 16 (by decide))
                    | 17, _ => exact fr.at (h_nm (h_ne (hF 17 (by decide)) h0 (fun h => by cases h)) h_n0) (hF 17 (by decide))
                    | i + 18, h => omega
                  have hrep : repM cI g_4 mm q (o_get (nI k) (nI x) S).1 (o_get (nI k) (nI x) S).2.2 := by rw [show o_get (nI k) (nI x) S = (2, 0, S) by simp only [o_get, e_k, e_j]]; exact ⟨hq, hok, v3, v4, v14, v16, v17, v23, F, rm_, hF2, hR_, hA_, hB_, hH_, hC_, hZ_, hV_, hL_⟩
                  have fr9 : hfr g g_4 (mS mm q) := fr.mono (by simp)
                  exact hend _ _ _ _ _ _ _ _ (by decide) (by decide) rfl (⟨fr9, hrep, fun h9 => by rw [show o_get (nI k) (nI x) S = (2, 0, S) by simp only [o_get, e_k, e_j]] at h9 ⊢; cases h9⟩) hg hS dMM_get_53
              · skip
                exact absurd hr_ (by decide)
    · skip
      rw [← nI_0] at c_7
      have c_7 : 1 = 0 := (nI_eq (by omega) (by omega)).mp c_7
      exact absurd c_7 (by decide)
  · skip
    obtain ⟨ho, hn_k⟩ := hp_1
    subst ho
    have e_k : ix r 6 = none := ix_none hn_k
    refine lv_istore_n (lv' := [(3, .int (nI 0)), (0, .ref mm), (1, .int r), (2, .int j)]) S0.1 S0.2.1 dMM_get_4 rfl hl (by decide) rfl (fun ls hl => ?_)
    refine lv_aload_n S0.1 S0.2.1 dMM_get_5 rfl (lv_at hl 1 rfl) ?_
    refine lv_iload_n S0.1 S0.2.1 dMM_get_6 rfl (lv_at hl 0 rfl) ?_
    refine lv_if_ne (tgt := 14) S0.1 S0.2.1 dMM_get_7 (by decide) (fun c_7 => ?_) (fun c_7 => ?_)
    · skip
      rw [← nI_0] at c_7
      have c_7 : ¬ (0 = 0) := fun h => c_7 ((nI_eq (by omega) (by omega)).mpr h)
      exact absurd c_7 (by decide)
    · skip
      rw [← nI_0] at c_7
      have c_7 : 0 = 0 := (nI_eq (by omega) (by omega)).mp c_7
      refine lv_iconst (v := nI 1) S0.1 S0.2.1 dMM_get_10 (by decide) ?_
      refine lv_goto (tgt := 15) S0.1 S0.2.1 dMM_get_11 (by decide) ?_
      refine lv_iload_n S0.1 S0.2.1 dMM_get_15 rfl (lv_at hl 0 rfl) ?_
      refine lv_if_eq (tgt := 45) S0.1 S0.2.1 dMM_get_16 (by decide) (fun c_16 => ?_) (fun c_16 => ?_)
      · skip
        rw [← nI_0] at c_16
        have c_16 : 0 = 0 := (nI_eq (by omega) (by omega)).mp c_16
        refine lv_iconst (v := nI 0) S0.1 S0.2.1 dMM_get_45 (by decide) ?_
        refine hw_Vi (As := [.int (nI 1), .int (nI 0)]) (rest := []) S0 hK hg hS hA0 h0 rfl (c_MM_refuse l D cI cR cJ g _ mm q hq (nI t) v3 v4 (nI S.2.1.length) (nI S.2.2.1.length) v14 v16 v17 (nI S.2.2.2.1.length) v23 (nI S.2.2.2.2.1.length) 1 0 (by decide) (by decide) h0) kMM_refuse lm_MM_72 (hR.call rfl) rfl hl.1 rfl (Nat.le_of_ble_eq_true rfl) dMM_get_46 (hR.new (by decide) (by decide)) (fun r_46 g_5 H locs hp_46 hg hS => ?_)
        obtain ⟨frr, rm_, hp_46⟩ := hp_46
        have rm_ : g_5 mm = some (mmC q (nI 1) v3 v4 (nI S.2.1.length) (nI S.2.2.1.length) v14 v16 v17 (nI S.2.2.2.1.length) v23 (nI S.2.2.2.2.1.length)) := rm_
        have k5_0 := frr.at (h_nm (h_ne hsizes h0 (fun h => by cases h)) h_n0) hsizes
        have k5_1 := frr.at (h_nm (h_ne hlines h0 (fun h => by cases h)) h_n0) hlines
        have fr := fr.call frr (by simp)
        rcases hp_46 with ⟨ho, hr_⟩ | ⟨ho, hr_⟩
        · skip
          subst ho
          refine lv_if_eq (tgt := 54) S0.1 S0.2.1 dMM_get_49 (by decide) (fun c_49 => ?_) (fun c_49 => ?_)
          · skip
            rw [← nI_0] at c_49
            have c_49 : 1 = 0 := (nI_eq (by omega) (by omega)).mp c_49
            exact absurd c_49 (by decide)
          · skip
            rw [← nI_0] at c_49
            have c_49 : ¬ (1 = 0) := fun h => c_49 ((nI_eq (by omega) (by omega)).mpr h)
            refine lv_iconst (v := nI 0) S0.1 S0.2.1 dMM_get_52 (by decide) ?_
            have hF2 : ∀ i, i < 18 → g_5 (q i) = some (.inl (cI, mSz i, .inl (F i))) := by
              intro i hi
              match i, hi with
              | 0, _ => exact fr.at (h_nm (h_ne (hF 0 (by decide)) h0 (fun h => by cases h)) h_n0) (hF 0 (by decide))
              | 1, _ => exact fr.at (h_nm (h_ne (hF 1 (by decide)) h0 (fun h => by cases h)) h_n0) (hF 1 (by decide))
              | 2, _ => exact fr.at (h_nm (h_ne (hF 2 (by decide)) h0 (fun h => by cases h)) h_n0) (hF 2 (by decide))
              | 3, _ => exact fr.at (h_nm (h_ne (hF 3 (by decide)) h0 (fun h => by cases h)) h_n0) (hF 3 (by decide))
              | 4, _ => exact fr.at (h_nm (h_ne (hF 4 (by decide)) h0 (fun h => by cases h)) h_n0) (hF 4 (by decide))
              | 5, _ => exact fr.at (h_nm (h_ne (hF 5 (by decide)) h0 (fun h => by cases h)) h_n0) (hF 5 (by decide))
              | 6, _ => exact fr.at (h_nm (h_ne (hF 6 (by decide)) h0 (fun h => by cases h)) h_n0) (hF 6 (by decide))
              | 7, _ => exact fr.at (h_nm (h_ne (hF 7 (by decide)) h0 (fun h => by cases h)) h_n0) (hF 7 (by decide))
              | 8, _ => exact fr.at (h_nm (h_ne (hF 8 (by decide)) h0 (fun h => by cases h)) h_n0) (hF 8 (by decide))
              | 9, _ => exact fr.at (h_nm (h_ne (hF 9 (by decide)) h0 (fun h => by cases h)) h_n0) (hF 9 (by decide))
              | 10, _ => exact fr.at (h_nm (h_ne (hF 10 (by decide)) h0 (fun h => by cases h)) h_n0) (hF 10 (by decide))
              | 11, _ => exact fr.at (h_nm (h_ne (hF 11 (by decide)) h0 (fun h => by cases h)) h_n0) (hF 11 (by decide))
              | 12, _ => exact fr.at (h_nm (h_ne (hF 12 (by decide)) h0 (fun h => by cases h)) h_n0) (hF 12 (by decide))
              | 13, _ => exact fr.at (h_nm (h_ne (hF 13 (by decide)) h0 (fun h => by cases h)) h_n0) (hF 13 (by decide))
              | 14, _ => exact fr.at (h_nm (h_ne (hF 14 (by decide)) h0 (fun h => by cases h)) h_n0) (hF 14 (by decide))
              | 15, _ => exact fr.at (h_nm (h_ne (hF 15 (by decide)) h0 (fun h => by cases h)) h_n0) (hF 15 (by decide))
              | 16, _ => exact fr.at (h_nm (h_ne (hF 16 (by decide)) h0 (fun h => by cases h)) h_n0) (hF 16 (by decide))
              | 17, _ => exact fr.at (h_nm (h_ne (hF 17 (by decide)) h0 (fun h => by cases h)) h_n0) (hF 17 (by decide))
              | i + 18, h => omega
            have hrep : repM cI g_5 mm q (o_get r j S).1 (o_get r j S).2.2 := by rw [show o_get r j S = (1, 0, S) by simp only [o_get, e_k]]; exact ⟨hq, hok, v3, v4, v14, v16, v17, v23, F, rm_, hF2, hR_, hA_, hB_, hH_, hC_, hZ_, hV_, hL_⟩
            have fr9 : hfr g g_5 (mS mm q) := fr.mono (by simp)
            exact hend _ _ _ _ _ _ _ _ (by decide) (by decide) rfl (⟨fr9, hrep, fun h9 => by rw [show o_get r j S = (1, 0, S) by simp only [o_get, e_k]] at h9 ⊢; cases h9⟩) hg hS dMM_get_53
        · skip
          exact absurd hr_ (by decide)
      · skip
        rw [← nI_0] at c_16
        have c_16 : ¬ (0 = 0) := fun h => c_16 ((nI_eq (by omega) (by omega)).mpr h)
        exact absurd c_16 (by decide)
set_option maxRecDepth 100000 in
set_option maxHeartbeats 4000000 in
theorem c_MM_pair (l : Launch) (D : va_G) (cI cR cJ : ClassId) (g : Nat → Option va_E) (sz : Nat) (mm : Nat) (q : Nat → Nat) (t : Nat) (S : ST) (k w : Int32) (HM : repM cI g mm q t S) : hMi l yMM_pair cMM_pair 3 .int (hRm 1 24 0 0) D (hT cI cR cJ) g sz [.ref mm, .int k, .int w] (fun o g1 => hfr g g1 (mS mm q) ∧ repM cI g1 mm q (o_pair k w S).1 (o_pair k w S).2.2 ∧ ((o_pair k w S).1 = 0 → o = (o_pair k w S).2.1)) := by
  refine hMi_of (by decide +kernel) (Nat.le_of_ble_eq_true rfl) ?_
  intro pX eX RX sX mX argsX belowX methX cX QX AX hR S0 hnm hsz hg hK hS hA0 hend ls hl
  have hl : lv_has ls 3 [(0, .ref mm), (1, .int k), (2, .int w)] := hl
  obtain ⟨hq, hok, v3, v4, v14, v16, v17, v23, F, h0, hF, hR_, hA_, hB_, hH_, hC_, hZ_, hV_, hL_⟩ := HM
  have hpairA : g (q 6) = some (.inl (cI, 60, .inl (F 6))) := hF 6 (by decide)
  have hpairB : g (q 7) = some (.inl (cI, 60, .inl (F 7))) := hF 7 (by decide)
  have fr : hfr g g [mm] := hfr.rf
  have hk60 : S.2.1.length ≤ 60 := by obtain ⟨o1, o2, o3, o4, o5⟩ := hok; omega
  refine lv_aload_n S0.1 S0.2.1 dMM_pair_0 rfl (lv_at hl 0 rfl) ?_
  refine lv_iload_n S0.1 S0.2.1 dMM_pair_1 rfl (lv_at hl 1 rfl) ?_
  refine lv_if_lt (tgt := 22) S0.1 S0.2.1 dMM_pair_2 (by decide) (fun c_2 => ?_) (fun c_2 => ?_)
  · skip
    have e_1 : ix k S.2.1.length = none := ix_neg c_2
    refine lv_iconst (v := nI 1) S0.1 S0.2.1 dMM_pair_22 (by decide) ?_
    refine lv_goto (tgt := 27) S0.1 S0.2.1 dMM_pair_23 (by decide) ?_
    refine lv_iconst (v := nI 0) S0.1 S0.2.1 dMM_pair_27 (by decide) ?_
    refine hw_Vi (As := [.int (nI 1), .int (nI 0)]) (rest := []) S0 hK hg hS hA0 h0 rfl (c_MM_refuse l D cI cR cJ g _ mm q hq (nI t) v3 v4 (nI S.2.1.length) (nI S.2.2.1.length) v14 v16 v17 (nI S.2.2.2.1.length) v23 (nI S.2.2.2.2.1.length) 1 0 (by decide) (by decide) h0) kMM_refuse lm_MM_72 (hR.call rfl) rfl hl.1 rfl (Nat.le_of_ble_eq_true rfl) dMM_pair_28 (hR.new (by decide) (by decide)) (fun r_28 g_1 H locs hp_28 hg hS => ?_)
    obtain ⟨frr, rm_, hp_28⟩ := hp_28
    have rm_ : g_1 mm = some (mmC q (nI 1) v3 v4 (nI S.2.1.length) (nI S.2.2.1.length) v14 v16 v17 (nI S.2.2.2.1.length) v23 (nI S.2.2.2.2.1.length)) := rm_
    have k1_0 := frr.at (h_nm (h_ne hpairA h0 (fun h => by cases h)) h_n0) hpairA
    have k1_1 := frr.at (h_nm (h_ne hpairB h0 (fun h => by cases h)) h_n0) hpairB
    have fr := fr.call frr (by simp)
    rcases hp_28 with ⟨ho, hr_⟩ | ⟨ho, hr_⟩
    · skip
      subst ho
      refine lv_if_eq (tgt := 36) S0.1 S0.2.1 dMM_pair_31 (by decide) (fun c_31 => ?_) (fun c_31 => ?_)
      · skip
        rw [← nI_0] at c_31
        have c_31 : 1 = 0 := (nI_eq (by omega) (by omega)).mp c_31
        exact absurd c_31 (by decide)
      · skip
        rw [← nI_0] at c_31
        have c_31 : ¬ (1 = 0) := fun h => c_31 ((nI_eq (by omega) (by omega)).mpr h)
        refine lv_iconst (v := nI 0) S0.1 S0.2.1 dMM_pair_34 (by decide) ?_
        have eop : o_pair k w S = (1, 0, S) := by unfold o_pair; first | (rw [e_1]; done) | (rw [e_1, e_2]; done) | (rw [e_2]; cases ix _ _ <;> rfl)
        have hF2 : ∀ i, i < 18 → g_1 (q i) = some (.inl (cI, mSz i, .inl (F i))) := by
          intro i hi
          match i, hi with
          | 0, _ => exact fr.at (h_nm (h_ne (hF 0 (by decide)) h0 (fun h => by cases h)) h_n0) (hF 0 (by decide))
          | 1, _ => exact fr.at (h_nm (h_ne (hF 1 (by decide)) h0 (fun h => by cases h)) h_n0) (hF 1 (by decide))
          | 2, _ => exact fr.at (h_nm (h_ne (hF 2 (by decide)) h0 (fun h => by cases h)) h_n0) (hF 2 (by decide))
          | 3, _ => exact fr.at (h_nm (h_ne (hF 3 (by decide)) h0 (fun h => by cases h)) h_n0) (hF 3 (by decide))
          | 4, _ => exact fr.at (h_nm (h_ne (hF 4 (by decide)) h0 (fun h => by cases h)) h_n0) (hF 4 (by decide))
          | 5, _ => exact fr.at (h_nm (h_ne (hF 5 (by decide)) h0 (fun h => by cases h)) h_n0) (hF 5 (by decide))
          | 6, _ => exact fr.at (h_nm (h_ne (hF 6 (by decide)) h0 (fun h => by cases h)) h_n0) (hF 6 (by decide))
          | 7, _ => exact fr.at (h_nm (h_ne (hF 7 (by decide)) h0 (fun h => by cases h)) h_n0) (hF 7 (by decide))
          | 8, _ => exact fr.at (h_nm (h_ne (hF 8 (by decide)) h0 (fun h => by cases h)) h_n0) (hF 8 (by decide))
          | 9, _ => exact fr.at (h_nm (h_ne (hF 9 (by decide)) h0 (fun h => by cases h)) h_n0) (hF 9 (by decide))
          | 10, _ => exact fr.at (h_nm (h_ne (hF 10 (by decide)) h0 (fun h => by cases h)) h_n0) (hF 10 (by decide))
          | 11, _ => exact fr.at (h_nm (h_ne (hF 11 (by decide)) h0 (fun h => by cases h)) h_n0) (hF 11 (by decide))
          | 12, _ => exact fr.at (h_nm (h_ne (hF 12 (by decide)) h0 (fun h => by cases h)) h_n0) (hF 12 (by decide))
          | 13, _ => exact fr.at (h_nm (h_ne (hF 13 (by decide)) h0 (fun h => by cases h)) h_n0) (hF 13 (by decide))
          | 14, _ => exact fr.at (h_nm (h_ne (hF 14 (by decide)) h0 (fun h => by cases h)) h_n0) (hF 14 (by decide))
          | 15, _ => exact fr.at (h_nm (h_ne (hF 15 (by decide)) h0 (fun h => by cases h)) h_n0) (hF 15 (by decide))
          | 16, _ => exact fr.at (h_nm (h_ne (hF 16 (by decide)) h0 (fun h => by cases h)) h_n0) (hF 16 (by decide))
          | 17, _ => exact fr.at (h_nm (h_ne (hF 17 (by decide)) h0 (fun h => by cases h)) h_n0) (hF 17 (by decide))
          | i + 18, h => omega
        have hrep : repM cI g_1 mm q (o_pair k w S).1 (o_pair k w S).2.2 := by rw [eop]; exact ⟨hq, hok, v3, v4, v14, v16, v17, v23, F, rm_, hF2, hR_, hA_, hB_, hH_, hC_, hZ_, hV_, hL_⟩
        have fr9 : hfr g g_1 (mS mm q) := fr.mono (by simp)
        exact hend _ _ _ _ _ _ _ _ (by decide) (by decide) rfl (⟨fr9, hrep, fun h9 => by rw [eop] at h9 ⊢; cases h9⟩) hg hS dMM_pair_35
    · skip
      exact absurd hr_ (by decide)
  · skip
    obtain ⟨i, hi, rfl⟩ := nI_of c_2
    refine lv_iload_n S0.1 S0.2.1 dMM_pair_5 rfl (lv_at hl 1 rfl) ?_
    refine lv_aload_n S0.1 S0.2.1 dMM_pair_6 rfl (lv_at hl 0 rfl) ?_
    refine hw_get S0 hK hg h0 rfl inMM 9 (by decide) lf_MM_96 rfl rfl dMM_pair_7 ?_
    refine lv_icmp_ge (tgt := 22) S0.1 S0.2.1 dMM_pair_10 (by decide) (fun c_10 => ?_) (fun c_10 => ?_)
    · skip
      have c_10 : S.2.1.length ≤ i := (nI_leI (by omega) (by omega)).mp c_10
      have e_1 : ix (nI i) S.2.1.length = none := ix_ge c_10 hi
      refine lv_iconst (v := nI 1) S0.1 S0.2.1 dMM_pair_22 (by decide) ?_
      refine lv_goto (tgt := 27) S0.1 S0.2.1 dMM_pair_23 (by decide) ?_
      refine lv_iconst (v := nI 0) S0.1 S0.2.1 dMM_pair_27 (by decide) ?_
      refine hw_Vi (As := [.int (nI 1), .int (nI 0)]) (rest := []) S0 hK hg hS hA0 h0 rfl (c_MM_refuse l D cI cR cJ g _ mm q hq (nI t) v3 v4 (nI S.2.1.length) (nI S.2.2.1.length) v14 v16 v17 (nI S.2.2.2.1.length) v23 (nI S.2.2.2.2.1.length) 1 0 (by decide) (by decide) h0) kMM_refuse lm_MM_72 (hR.call rfl) rfl hl.1 rfl (Nat.le_of_ble_eq_true rfl) dMM_pair_28 (hR.new (by decide) (by decide)) (fun r_28 g_2 H locs hp_28 hg hS => ?_)
      obtain ⟨frr, rm_, hp_28⟩ := hp_28
      have rm_ : g_2 mm = some (mmC q (nI 1) v3 v4 (nI S.2.1.length) (nI S.2.2.1.length) v14 v16 v17 (nI S.2.2.2.1.length) v23 (nI S.2.2.2.2.1.length)) := rm_
      have k2_0 := frr.at (h_nm (h_ne hpairA h0 (fun h => by cases h)) h_n0) hpairA
      have k2_1 := frr.at (h_nm (h_ne hpairB h0 (fun h => by cases h)) h_n0) hpairB
      have fr := fr.call frr (by simp)
      rcases hp_28 with ⟨ho, hr_⟩ | ⟨ho, hr_⟩
      · skip
        subst ho
        refine lv_if_eq (tgt := 36) S0.1 S0.2.1 dMM_pair_31 (by decide) (fun c_31 => ?_) (fun c_31 => ?_)
        · skip
          rw [← nI_0] at c_31
          have c_31 : 1 = 0 := (nI_eq (by omega) (by omega)).mp c_31
          exact absurd c_31 (by decide)
        · skip
          rw [← nI_0] at c_31
          have c_31 : ¬ (1 = 0) := fun h => c_31 ((nI_eq (by omega) (by omega)).mpr h)
          refine lv_iconst (v := nI 0) S0.1 S0.2.1 dMM_pair_34 (by decide) ?_
          have eop : o_pair (nI i) w S = (1, 0, S) := by unfold o_pair; first | (rw [e_1]; done) | (rw [e_1, e_2]; done) | (rw [e_2]; cases ix _ _ <;> rfl)
          have hF2 : ∀ i, i < 18 → g_2 (q i) = some (.inl (cI, mSz i, .inl (F i))) := by
            intro i hi
            match i, hi with
            | 0, _ => exact fr.at (h_nm (h_ne (hF 0 (by decide)) h0 (fun h => by cases h)) h_n0) (hF 0 (by decide))
            | 1, _ => exact fr.at (h_nm (h_ne (hF 1 (by decide)) h0 (fun h => by cases h)) h_n0) (hF 1 (by decide))
            | 2, _ => exact fr.at (h_nm (h_ne (hF 2 (by decide)) h0 (fun h => by cases h)) h_n0) (hF 2 (by decide))
            | 3, _ => exact fr.at (h_nm (h_ne (hF 3 (by decide)) h0 (fun h => by cases h)) h_n0) (hF 3 (by decide))
            | 4, _ => exact fr.at (h_nm (h_ne (hF 4 (by decide)) h0 (fun h => by cases h)) h_n0) (hF 4 (by decide))
            | 5, _ => exact fr.at (h_nm (h_ne (hF 5 (by decide)) h0 (fun h => by cases h)) h_n0) (hF 5 (by decide))
            | 6, _ => exact fr.at (h_nm (h_ne (hF 6 (by decide)) h0 (fun h => by cases h)) h_n0) (hF 6 (by decide))
            | 7, _ => exact fr.at (h_nm (h_ne (hF 7 (by decide)) h0 (fun h => by cases h)) h_n0) (hF 7 (by decide))
            | 8, _ => exact fr.at (h_nm (h_ne (hF 8 (by decide)) h0 (fun h => by cases h)) h_n0) (hF 8 (by decide))
            | 9, _ => exact fr.at (h_nm (h_ne (hF 9 (by decide)) h0 (fun h => by cases h)) h_n0) (hF 9 (by decide))
            | 10, _ => exact fr.at (h_nm (h_ne (hF 10 (by decide)) h0 (fun h => by cases h)) h_n0) (hF 10 (by decide))
            | 11, _ => exact fr.at (h_nm (h_ne (hF 11 (by decide)) h0 (fun h => by cases h)) h_n0) (hF 11 (by decide))
            | 12, _ => exact fr.at (h_nm (h_ne (hF 12 (by decide)) h0 (fun h => by cases h)) h_n0) (hF 12 (by decide))
            | 13, _ => exact fr.at (h_nm (h_ne (hF 13 (by decide)) h0 (fun h => by cases h)) h_n0) (hF 13 (by decide))
            | 14, _ => exact fr.at (h_nm (h_ne (hF 14 (by decide)) h0 (fun h => by cases h)) h_n0) (hF 14 (by decide))
            | 15, _ => exact fr.at (h_nm (h_ne (hF 15 (by decide)) h0 (fun h => by cases h)) h_n0) (hF 15 (by decide))
            | 16, _ => exact fr.at (h_nm (h_ne (hF 16 (by decide)) h0 (fun h => by cases h)) h_n0) (hF 16 (by decide))
            | 17, _ => exact fr.at (h_nm (h_ne (hF 17 (by decide)) h0 (fun h => by cases h)) h_n0) (hF 17 (by decide))
            | i + 18, h => omega
          have hrep : repM cI g_2 mm q (o_pair (nI i) w S).1 (o_pair (nI i) w S).2.2 := by rw [eop]; exact ⟨hq, hok, v3, v4, v14, v16, v17, v23, F, rm_, hF2, hR_, hA_, hB_, hH_, hC_, hZ_, hV_, hL_⟩
          have fr9 : hfr g g_2 (mS mm q) := fr.mono (by simp)
          exact hend _ _ _ _ _ _ _ _ (by decide) (by decide) rfl (⟨fr9, hrep, fun h9 => by rw [eop] at h9 ⊢; cases h9⟩) hg hS dMM_pair_35
      · skip
        exact absurd hr_ (by decide)
    · skip
      have c_10 : ¬ (S.2.1.length ≤ i) := fun h => c_10 ((nI_leI (by omega) (by omega)).mpr h)
      have e_1 : ix (nI i) S.2.1.length = some i := ix_some (by omega) (by omega)
      refine lv_iload_n S0.1 S0.2.1 dMM_pair_13 rfl (lv_at hl 2 rfl) ?_
      refine lv_if_lt (tgt := 22) S0.1 S0.2.1 dMM_pair_14 (by decide) (fun c_14 => ?_) (fun c_14 => ?_)
      · skip
        have e_2 : ix w 2 = none := ix_neg c_14
        refine lv_iconst (v := nI 1) S0.1 S0.2.1 dMM_pair_22 (by decide) ?_
        refine lv_goto (tgt := 27) S0.1 S0.2.1 dMM_pair_23 (by decide) ?_
        refine lv_iconst (v := nI 0) S0.1 S0.2.1 dMM_pair_27 (by decide) ?_
        refine hw_Vi (As := [.int (nI 1), .int (nI 0)]) (rest := []) S0 hK hg hS hA0 h0 rfl (c_MM_refuse l D cI cR cJ g _ mm q hq (nI t) v3 v4 (nI S.2.1.length) (nI S.2.2.1.length) v14 v16 v17 (nI S.2.2.2.1.length) v23 (nI S.2.2.2.2.1.length) 1 0 (by decide) (by decide) h0) kMM_refuse lm_MM_72 (hR.call rfl) rfl hl.1 rfl (Nat.le_of_ble_eq_true rfl) dMM_pair_28 (hR.new (by decide) (by decide)) (fun r_28 g_3 H locs hp_28 hg hS => ?_)
        obtain ⟨frr, rm_, hp_28⟩ := hp_28
        have rm_ : g_3 mm = some (mmC q (nI 1) v3 v4 (nI S.2.1.length) (nI S.2.2.1.length) v14 v16 v17 (nI S.2.2.2.1.length) v23 (nI S.2.2.2.2.1.length)) := rm_
        have k3_0 := frr.at (h_nm (h_ne hpairA h0 (fun h => by cases h)) h_n0) hpairA
        have k3_1 := frr.at (h_nm (h_ne hpairB h0 (fun h => by cases h)) h_n0) hpairB
        have fr := fr.call frr (by simp)
        rcases hp_28 with ⟨ho, hr_⟩ | ⟨ho, hr_⟩
        · skip
          subst ho
          refine lv_if_eq (tgt := 36) S0.1 S0.2.1 dMM_pair_31 (by decide) (fun c_31 => ?_) (fun c_31 => ?_)
          · skip
            rw [← nI_0] at c_31
            have c_31 : 1 = 0 := (nI_eq (by omega) (by omega)).mp c_31
            exact absurd c_31 (by decide)
          · skip
            rw [← nI_0] at c_31
            have c_31 : ¬ (1 = 0) := fun h => c_31 ((nI_eq (by omega) (by omega)).mpr h)
            refine lv_iconst (v := nI 0) S0.1 S0.2.1 dMM_pair_34 (by decide) ?_
            have eop : o_pair (nI i) w S = (1, 0, S) := by unfold o_pair; first | (rw [e_1]; done) | (rw [e_1, e_2]; done) | (rw [e_2]; cases ix _ _ <;> rfl)
            have hF2 : ∀ i, i < 18 → g_3 (q i) = some (.inl (cI, mSz i, .inl (F i))) := by
              intro i hi
              match i, hi with
              | 0, _ => exact fr.at (h_nm (h_ne (hF 0 (by decide)) h0 (fun h => by cases h)) h_n0) (hF 0 (by decide))
              | 1, _ => exact fr.at (h_nm (h_ne (hF 1 (by decide)) h0 (fun h => by cases h)) h_n0) (hF 1 (by decide))
              | 2, _ => exact fr.at (h_nm (h_ne (hF 2 (by decide)) h0 (fun h => by cases h)) h_n0) (hF 2 (by decide))
              | 3, _ => exact fr.at (h_nm (h_ne (hF 3 (by decide)) h0 (fun h => by cases h)) h_n0) (hF 3 (by decide))
              | 4, _ => exact fr.at (h_nm (h_ne (hF 4 (by decide)) h0 (fun h => by cases h)) h_n0) (hF 4 (by decide))
              | 5, _ => exact fr.at (h_nm (h_ne (hF 5 (by decide)) h0 (fun h => by cases h)) h_n0) (hF 5 (by decide))
              | 6, _ => exact fr.at (h_nm (h_ne (hF 6 (by decide)) h0 (fun h => by cases h)) h_n0) (hF 6 (by decide))
              | 7, _ => exact fr.at (h_nm (h_ne (hF 7 (by decide)) h0 (fun h => by cases h)) h_n0) (hF 7 (by decide))
              | 8, _ => exact fr.at (h_nm (h_ne (hF 8 (by decide)) h0 (fun h => by cases h)) h_n0) (hF 8 (by decide))
              | 9, _ => exact fr.at (h_nm (h_ne (hF 9 (by decide)) h0 (fun h => by cases h)) h_n0) (hF 9 (by decide))
              | 10, _ => exact fr.at (h_nm (h_ne (hF 10 (by decide)) h0 (fun h => by cases h)) h_n0) (hF 10 (by decide))
              | 11, _ => exact fr.at (h_nm (h_ne (hF 11 (by decide)) h0 (fun h => by cases h)) h_n0) (hF 11 (by decide))
              | 12, _ => exact fr.at (h_nm (h_ne (hF 12 (by decide)) h0 (fun h => by cases h)) h_n0) (hF 12 (by decide))
              | 13, _ => exact fr.at (h_nm (h_ne (hF 13 (by decide)) h0 (fun h => by cases h)) h_n0) (hF 13 (by decide))
              | 14, _ => exact fr.at (h_nm (h_ne (hF 14 (by decide)) h0 (fun h => by cases h)) h_n0) (hF 14 (by decide))
              | 15, _ => exact fr.at (h_nm (h_ne (hF 15 (by decide)) h0 (fun h => by cases h)) h_n0) (hF 15 (by decide))
              | 16, _ => exact fr.at (h_nm (h_ne (hF 16 (by decide)) h0 (fun h => by cases h)) h_n0) (hF 16 (by decide))
              | 17, _ => exact fr.at (h_nm (h_ne (hF 17 (by decide)) h0 (fun h => by cases h)) h_n0) (hF 17 (by decide))
              | i + 18, h => omega
            have hrep : repM cI g_3 mm q (o_pair (nI i) w S).1 (o_pair (nI i) w S).2.2 := by rw [eop]; exact ⟨hq, hok, v3, v4, v14, v16, v17, v23, F, rm_, hF2, hR_, hA_, hB_, hH_, hC_, hZ_, hV_, hL_⟩
            have fr9 : hfr g g_3 (mS mm q) := fr.mono (by simp)
            exact hend _ _ _ _ _ _ _ _ (by decide) (by decide) rfl (⟨fr9, hrep, fun h9 => by rw [eop] at h9 ⊢; cases h9⟩) hg hS dMM_pair_35
        · skip
          exact absurd hr_ (by decide)
      · skip
        obtain ⟨j, hj, rfl⟩ := nI_of c_14
        refine lv_iload_n S0.1 S0.2.1 dMM_pair_17 rfl (lv_at hl 2 rfl) ?_
        refine lv_iconst (v := nI 1) S0.1 S0.2.1 dMM_pair_18 (by decide) ?_
        refine lv_icmp_le (tgt := 26) S0.1 S0.2.1 dMM_pair_19 (by decide) (fun c_19 => ?_) (fun c_19 => ?_)
        · skip
          have c_19 : j ≤ 1 := (nI_leI (by omega) (by omega)).mp c_19
          have e_2 : ix (nI j) 2 = some j := ix_some (by omega) (by decide)
          refine lv_iconst (v := nI 0) S0.1 S0.2.1 dMM_pair_26 (by decide) ?_
          refine lv_iconst (v := nI 0) S0.1 S0.2.1 dMM_pair_27 (by decide) ?_
          refine hw_Vi (As := [.int (nI 0), .int (nI 0)]) (rest := []) S0 hK hg hS hA0 h0 rfl (c_MM_refuse l D cI cR cJ g _ mm q hq (nI t) v3 v4 (nI S.2.1.length) (nI S.2.2.1.length) v14 v16 v17 (nI S.2.2.2.1.length) v23 (nI S.2.2.2.2.1.length) 0 0 (by decide) (by decide) h0) kMM_refuse lm_MM_72 (hR.call rfl) rfl hl.1 rfl (Nat.le_of_ble_eq_true rfl) dMM_pair_28 (hR.new (by decide) (by decide)) (fun r_28 g_4 H locs hp_28 hg hS => ?_)
          obtain ⟨frr, rm_, hp_28⟩ := hp_28
          have rm_ : g_4 mm = some (mmC q (nI 0) v3 v4 (nI S.2.1.length) (nI S.2.2.1.length) v14 v16 v17 (nI S.2.2.2.1.length) v23 (nI S.2.2.2.2.1.length)) := rm_
          have k4_0 := frr.at (h_nm (h_ne hpairA h0 (fun h => by cases h)) h_n0) hpairA
          have k4_1 := frr.at (h_nm (h_ne hpairB h0 (fun h => by cases h)) h_n0) hpairB
          have fr := fr.call frr (by simp)
          rcases hp_28 with ⟨ho, hr_⟩ | ⟨ho, hr_⟩
          · skip
            exact absurd hr_ (by decide)
          · skip
            subst ho
            refine lv_if_eq (tgt := 36) S0.1 S0.2.1 dMM_pair_31 (by decide) (fun c_31 => ?_) (fun c_31 => ?_)
            · skip
              rw [← nI_0] at c_31
              have c_31 : 0 = 0 := (nI_eq (by omega) (by omega)).mp c_31
              refine lv_iload_n S0.1 S0.2.1 dMM_pair_36 rfl (lv_at hl 2 rfl) ?_
              refine lv_if_ne (tgt := 49) S0.1 S0.2.1 dMM_pair_37 (by decide) (fun c_37 => ?_) (fun c_37 => ?_)
              · skip
                rw [← nI_0] at c_37
                have c_37 : ¬ (j = 0) := fun h => c_37 ((nI_eq (by omega) (by omega)).mpr h)
                refine lv_aload_n S0.1 S0.2.1 dMM_pair_49 rfl (lv_at hl 0 rfl) ?_
                refine hw_get S0 hK hg rm_ rfl inMM 11 (by decide) lf_MM_31 rfl rfl dMM_pair_50 ?_
                refine lv_iload_n S0.1 S0.2.1 dMM_pair_53 rfl (lv_at hl 1 rfl) ?_
                refine hw_iald S0 hK hg k4_1 0 rfl (by omega) (by omega) dMM_pair_54 ?_
                have eop : o_pair (nI i) (nI j) S = (0, nI (if j = 0 then (S.2.1.getD i (0, 0)).1 else (S.2.1.getD i (0, 0)).2), S) := by unfold o_pair; rw [e_1, e_2]
                have hF2 : ∀ i, i < 18 → g_4 (q i) = some (.inl (cI, mSz i, .inl (F i))) := by
                  intro i hi
                  match i, hi with
                  | 0, _ => exact fr.at (h_nm (h_ne (hF 0 (by decide)) h0 (fun h => by cases h)) h_n0) (hF 0 (by decide))
                  | 1, _ => exact fr.at (h_nm (h_ne (hF 1 (by decide)) h0 (fun h => by cases h)) h_n0) (hF 1 (by decide))
                  | 2, _ => exact fr.at (h_nm (h_ne (hF 2 (by decide)) h0 (fun h => by cases h)) h_n0) (hF 2 (by decide))
                  | 3, _ => exact fr.at (h_nm (h_ne (hF 3 (by decide)) h0 (fun h => by cases h)) h_n0) (hF 3 (by decide))
                  | 4, _ => exact fr.at (h_nm (h_ne (hF 4 (by decide)) h0 (fun h => by cases h)) h_n0) (hF 4 (by decide))
                  | 5, _ => exact fr.at (h_nm (h_ne (hF 5 (by decide)) h0 (fun h => by cases h)) h_n0) (hF 5 (by decide))
                  | 6, _ => exact fr.at (h_nm (h_ne (hF 6 (by decide)) h0 (fun h => by cases h)) h_n0) (hF 6 (by decide))
                  | 7, _ => exact fr.at (h_nm (h_ne (hF 7 (by decide)) h0 (fun h => by cases h)) h_n0) (hF 7 (by decide))
                  | 8, _ => exact fr.at (h_nm (h_ne (hF 8 (by decide)) h0 (fun h => by cases h)) h_n0) (hF 8 (by decide))
                  | 9, _ => exact fr.at (h_nm (h_ne (hF 9 (by decide)) h0 (fun h => by cases h)) h_n0) (hF 9 (by decide))
                  | 10, _ => exact fr.at (h_nm (h_ne (hF 10 (by decide)) h0 (fun h => by cases h)) h_n0) (hF 10 (by decide))
                  | 11, _ => exact fr.at (h_nm (h_ne (hF 11 (by decide)) h0 (fun h => by cases h)) h_n0) (hF 11 (by decide))
                  | 12, _ => exact fr.at (h_nm (h_ne (hF 12 (by decide)) h0 (fun h => by cases h)) h_n0) (hF 12 (by decide))
                  | 13, _ => exact fr.at (h_nm (h_ne (hF 13 (by decide)) h0 (fun h => by cases h)) h_n0) (hF 13 (by decide))
                  | 14, _ => exact fr.at (h_nm (h_ne (hF 14 (by decide)) h0 (fun h => by cases h)) h_n0) (hF 14 (by decide))
                  | 15, _ => exact fr.at (h_nm (h_ne (hF 15 (by decide)) h0 (fun h => by cases h)) h_n0) (hF 15 (by decide))
                  | 16, _ => exact fr.at (h_nm (h_ne (hF 16 (by decide)) h0 (fun h => by cases h)) h_n0) (hF 16 (by decide))
                  | 17, _ => exact fr.at (h_nm (h_ne (hF 17 (by decide)) h0 (fun h => by cases h)) h_n0) (hF 17 (by decide))
                  | i + 18, h => omega
                have hrep : repM cI g_4 mm q (o_pair (nI i) (nI j) S).1 (o_pair (nI i) (nI j) S).2.2 := by rw [eop]; exact ⟨hq, hok, v3, v4, v14, v16, v17, v23, F, rm_, hF2, hR_, hA_, hB_, hH_, hC_, hZ_, hV_, hL_⟩
                have fr9 : hfr g g_4 (mS mm q) := fr.mono (by simp)
                exact hend _ _ _ _ _ _ _ _ (by decide) (by decide) rfl (⟨fr9, hrep, fun h9 => by rw [eop] at h9 ⊢; dsimp only; rw [if_neg c_37, hB_ i (by rw [List.length_map]; omega), map_getD (by omega)]⟩) hg hS dMM_pair_55
              · skip
                rw [← nI_0] at c_37
                have c_37 : j = 0 := (nI_eq (by omega) (by omega)).mp c_37
                refine lv_aload_n S0.1 S0.2.1 dMM_pair_40 rfl (lv_at hl 0 rfl) ?_
                refine hw_get S0 hK hg rm_ rfl inMM 10 (by decide) lf_MM_28 rfl rfl dMM_pair_41 ?_
                refine lv_iload_n S0.1 S0.2.1 dMM_pair_44 rfl (lv_at hl 1 rfl) ?_
                refine hw_iald S0 hK hg k4_0 0 rfl (by omega) (by omega) dMM_pair_45 ?_
                refine lv_goto (tgt := 55) S0.1 S0.2.1 dMM_pair_46 (by decide) ?_
                have eop : o_pair (nI i) (nI j) S = (0, nI (if j = 0 then (S.2.1.getD i (0, 0)).1 else (S.2.1.getD i (0, 0)).2), S) := by unfold o_pair; rw [e_1, e_2]
                have hF2 : ∀ i, i < 18 → g_4 (q i) = some (.inl (cI, mSz i, .inl (F i))) := by
                  intro i hi
                  match i, hi with
                  | 0, _ => exact fr.at (h_nm (h_ne (hF 0 (by decide)) h0 (fun h => by cases h)) h_n0) (hF 0 (by decide))
                  | 1, _ => exact fr.at (h_nm (h_ne (hF 1 (by decide)) h0 (fun h => by cases h)) h_n0) (hF 1 (by decide))
                  | 2, _ => exact fr.at (h_nm (h_ne (hF 2 (by decide)) h0 (fun h => by cases h)) h_n0) (hF 2 (by decide))
                  | 3, _ => exact fr.at (h_nm (h_ne (hF 3 (by decide)) h0 (fun h => by cases h)) h_n0) (hF 3 (by decide))
                  | 4, _ => exact fr.at (h_nm (h_ne (hF 4 (by decide)) h0 (fun h => by cases h)) h_n0) (hF 4 (by decide))
                  | 5, _ => exact fr.at (h_nm (h_ne (hF 5 (by decide)) h0 (fun h => by cases h)) h_n0) (hF 5 (by decide))
                  | 6, _ => exact fr.at (h_nm (h_ne (hF 6 (by decide)) h0 (fun h => by cases h)) h_n0) (hF 6 (by decide))
                  | 7, _ => exact fr.at (h_nm (h_ne (hF 7 (by decide)) h0 (fun h => by cases h)) h_n0) (hF 7 (by decide))
                  | 8, _ => exact fr.at (h_nm (h_ne (hF 8 (by decide)) h0 (fun h => by cases h)) h_n0) (hF 8 (by decide))
                  | 9, _ => exact fr.at (h_nm (h_ne (hF 9 (by decide)) h0 (fun h => by cases h)) h_n0) (hF 9 (by decide))
                  | 10, _ => exact fr.at (h_nm (h_ne (hF 10 (by decide)) h0 (fun h => by cases h)) h_n0) (hF 10 (by decide))
                  | 11, _ => exact fr.at (h_nm (h_ne (hF 11 (by decide)) h0 (fun h => by cases h)) h_n0) (hF 11 (by decide))
                  | 12, _ => exact fr.at (h_nm (h_ne (hF 12 (by decide)) h0 (fun h => by cases h)) h_n0) (hF 12 (by decide))
                  | 13, _ => exact fr.at (h_nm (h_ne (hF 13 (by decide)) h0 (fun h => by cases h)) h_n0) (hF 13 (by decide))
                  | 14, _ => exact fr.at (h_nm (h_ne (hF 14 (by decide)) h0 (fun h => by cases h)) h_n0) (hF 14 (by decide))
                  | 15, _ => exact fr.at (h_nm (h_ne (hF 15 (by decide)) h0 (fun h => by cases h)) h_n0) (hF 15 (by decide))
                  | 16, _ => exact fr.at (h_nm (h_ne (hF 16 (by decide)) h0 (fun h => by cases h)) h_n0) (hF 16 (by decide))
                  | 17, _ => exact fr.at (h_nm (h_ne (hF 17 (by decide)) h0 (fun h => by cases h)) h_n0) (hF 17 (by decide))
                  | i + 18, h => omega
                have hrep : repM cI g_4 mm q (o_pair (nI i) (nI j) S).1 (o_pair (nI i) (nI j) S).2.2 := by rw [eop]; exact ⟨hq, hok, v3, v4, v14, v16, v17, v23, F, rm_, hF2, hR_, hA_, hB_, hH_, hC_, hZ_, hV_, hL_⟩
                have fr9 : hfr g g_4 (mS mm q) := fr.mono (by simp)
                exact hend _ _ _ _ _ _ _ _ (by decide) (by decide) rfl (⟨fr9, hrep, fun h9 => by rw [eop] at h9 ⊢; dsimp only; rw [if_pos c_37, hA_ i (by rw [List.length_map]; omega), map_getD (by omega)]⟩) hg hS dMM_pair_55
            · skip
              rw [← nI_0] at c_31
              have c_31 : ¬ (0 = 0) := fun h => c_31 ((nI_eq (by omega) (by omega)).mpr h)
              exact absurd c_31 (by decide)
        · skip
          have c_19 : ¬ (j ≤ 1) := fun h => c_19 ((nI_leI (by omega) (by omega)).mpr h)
          have e_2 : ix (nI j) 2 = none := ix_ge (by omega) hj
          refine lv_iconst (v := nI 1) S0.1 S0.2.1 dMM_pair_22 (by decide) ?_
          refine lv_goto (tgt := 27) S0.1 S0.2.1 dMM_pair_23 (by decide) ?_
          refine lv_iconst (v := nI 0) S0.1 S0.2.1 dMM_pair_27 (by decide) ?_
          refine hw_Vi (As := [.int (nI 1), .int (nI 0)]) (rest := []) S0 hK hg hS hA0 h0 rfl (c_MM_refuse l D cI cR cJ g _ mm q hq (nI t) v3 v4 (nI S.2.1.length) (nI S.2.2.1.length) v14 v16 v17 (nI S.2.2.2.1.length) v23 (nI S.2.2.2.2.1.length) 1 0 (by decide) (by decide) h0) kMM_refuse lm_MM_72 (hR.call rfl) rfl hl.1 rfl (Nat.le_of_ble_eq_true rfl) dMM_pair_28 (hR.new (by decide) (by decide)) (fun r_28 g_5 H locs hp_28 hg hS => ?_)
          obtain ⟨frr, rm_, hp_28⟩ := hp_28
          have rm_ : g_5 mm = some (mmC q (nI 1) v3 v4 (nI S.2.1.length) (nI S.2.2.1.length) v14 v16 v17 (nI S.2.2.2.1.length) v23 (nI S.2.2.2.2.1.length)) := rm_
          have k5_0 := frr.at (h_nm (h_ne hpairA h0 (fun h => by cases h)) h_n0) hpairA
          have k5_1 := frr.at (h_nm (h_ne hpairB h0 (fun h => by cases h)) h_n0) hpairB
          have fr := fr.call frr (by simp)
          rcases hp_28 with ⟨ho, hr_⟩ | ⟨ho, hr_⟩
          · skip
            subst ho
            refine lv_if_eq (tgt := 36) S0.1 S0.2.1 dMM_pair_31 (by decide) (fun c_31 => ?_) (fun c_31 => ?_)
            · skip
              rw [← nI_0] at c_31
              have c_31 : 1 = 0 := (nI_eq (by omega) (by omega)).mp c_31
              exact absurd c_31 (by decide)
            · skip
              rw [← nI_0] at c_31
              have c_31 : ¬ (1 = 0) := fun h => c_31 ((nI_eq (by omega) (by omega)).mpr h)
              refine lv_iconst (v := nI 0) S0.1 S0.2.1 dMM_pair_34 (by decide) ?_
              have eop : o_pair (nI i) (nI j) S = (1, 0, S) := by unfold o_pair; first | (rw [e_1]; done) | (rw [e_1, e_2]; done) | (rw [e_2]; cases ix _ _ <;> rfl)
              have hF2 : ∀ i, i < 18 → g_5 (q i) = some (.inl (cI, mSz i, .inl (F i))) := by
                intro i hi
                match i, hi with
                | 0, _ => exact fr.at (h_nm (h_ne (hF 0 (by decide)) h0 (fun h => by cases h)) h_n0) (hF 0 (by decide))
                | 1, _ => exact fr.at (h_nm (h_ne (hF 1 (by decide)) h0 (fun h => by cases h)) h_n0) (hF 1 (by decide))
                | 2, _ => exact fr.at (h_nm (h_ne (hF 2 (by decide)) h0 (fun h => by cases h)) h_n0) (hF 2 (by decide))
                | 3, _ => exact fr.at (h_nm (h_ne (hF 3 (by decide)) h0 (fun h => by cases h)) h_n0) (hF 3 (by decide))
                | 4, _ => exact fr.at (h_nm (h_ne (hF 4 (by decide)) h0 (fun h => by cases h)) h_n0) (hF 4 (by decide))
                | 5, _ => exact fr.at (h_nm (h_ne (hF 5 (by decide)) h0 (fun h => by cases h)) h_n0) (hF 5 (by decide))
                | 6, _ => exact fr.at (h_nm (h_ne (hF 6 (by decide)) h0 (fun h => by cases h)) h_n0) (hF 6 (by decide))
                | 7, _ => exact fr.at (h_nm (h_ne (hF 7 (by decide)) h0 (fun h => by cases h)) h_n0) (hF 7 (by decide))
                | 8, _ => exact fr.at (h_nm (h_ne (hF 8 (by decide)) h0 (fun h => by cases h)) h_n0) (hF 8 (by decide))
                | 9, _ => exact fr.at (h_nm (h_ne (hF 9 (by decide)) h0 (fun h => by cases h)) h_n0) (hF 9 (by decide))
                | 10, _ => exact fr.at (h_nm (h_ne (hF 10 (by decide)) h0 (fun h => by cases h)) h_n0) (hF 10 (by decide))
                | 11, _ => exact fr.at (h_nm (h_ne (hF 11 (by decide)) h0 (fun h => by cases h)) h_n0) (hF 11 (by decide))
                | 12, _ => exact fr.at (h_nm (h_ne (hF 12 (by decide)) h0 (fun h => by cases h)) h_n0) (hF 12 (by decide))
                | 13, _ => exact fr.at (h_nm (h_ne (hF 13 (by decide)) h0 (fun h => by cases h)) h_n0) (hF 13 (by decide))
                | 14, _ => exact fr.at (h_nm (h_ne (hF 14 (by decide)) h0 (fun h => by cases h)) h_n0) (hF 14 (by decide))
                | 15, _ => exact fr.at (h_nm (h_ne (hF 15 (by decide)) h0 (fun h => by cases h)) h_n0) (hF 15 (by decide))
                | 16, _ => exact fr.at (h_nm (h_ne (hF 16 (by decide)) h0 (fun h => by cases h)) h_n0) (hF 16 (by decide))
                | 17, _ => exact fr.at (h_nm (h_ne (hF 17 (by decide)) h0 (fun h => by cases h)) h_n0) (hF 17 (by decide))
                | i + 18, h => omega
              have hrep : repM cI g_5 mm q (o_pair (nI i) (nI j) S).1 (o_pair (nI i) (nI j) S).2.2 := by rw [eop]; exact ⟨hq, hok, v3, v4, v14, v16, v17, v23, F, rm_, hF2, hR_, hA_, hB_, hH_, hC_, hZ_, hV_, hL_⟩
              have fr9 : hfr g g_5 (mS mm q) := fr.mono (by simp)
              exact hend _ _ _ _ _ _ _ _ (by decide) (by decide) rfl (⟨fr9, hrep, fun h9 => by rw [eop] at h9 ⊢; cases h9⟩) hg hS dMM_pair_35
          · skip
            exact absurd hr_ (by decide)
set_option maxRecDepth 100000 in
set_option maxHeartbeats 4000000 in
theorem c_MM_hunk (l : Launch) (D : va_G) (cI cR cJ : ClassId) (g : Nat → Option va_E) (sz : Nat) (mm : Nat) (q : Nat → Nat) (t : Nat) (S : ST) (k w : Int32) (HM : repM cI g mm q t S) : hMi l yMM_hunk cMM_hunk 3 .int (hRm 1 24 0 0) D (hT cI cR cJ) g sz [.ref mm, .int k, .int w] (fun o g1 => hfr g g1 (mS mm q) ∧ repM cI g1 mm q (o_hunk k w S).1 (o_hunk k w S).2.2 ∧ ((o_hunk k w S).1 = 0 → o = (o_hunk k w S).2.1)) := by
  refine hMi_of (by decide +kernel) (Nat.le_of_ble_eq_true rfl) ?_
  intro pX eX RX sX mX argsX belowX methX cX QX AX hR S0 hnm hsz hg hK hS hA0 hend ls hl
  have hl : lv_has ls 3 [(0, .ref mm), (1, .int k), (2, .int w)] := hl
  obtain ⟨hq, hok, v3, v4, v14, v16, v17, v23, F, h0, hF, hR_, hA_, hB_, hH_, hC_, hZ_, hV_, hL_⟩ := HM
  have hhunk : g (q 8) = some (.inl (cI, 250, .inl (F 8))) := hF 8 (by decide)
  have fr : hfr g g [mm] := hfr.rf
  have hk60 : S.2.2.1.length ≤ 61 := by obtain ⟨o1, o2, o3, o4, o5⟩ := hok; omega
  refine lv_aload_n S0.1 S0.2.1 dMM_hunk_0 rfl (lv_at hl 0 rfl) ?_
  refine lv_iload_n S0.1 S0.2.1 dMM_hunk_1 rfl (lv_at hl 1 rfl) ?_
  refine lv_if_lt (tgt := 22) S0.1 S0.2.1 dMM_hunk_2 (by decide) (fun c_2 => ?_) (fun c_2 => ?_)
  · skip
    have e_1 : ix k S.2.2.1.length = none := ix_neg c_2
    refine lv_iconst (v := nI 1) S0.1 S0.2.1 dMM_hunk_22 (by decide) ?_
    refine lv_goto (tgt := 27) S0.1 S0.2.1 dMM_hunk_23 (by decide) ?_
    refine lv_iconst (v := nI 0) S0.1 S0.2.1 dMM_hunk_27 (by decide) ?_
    refine hw_Vi (As := [.int (nI 1), .int (nI 0)]) (rest := []) S0 hK hg hS hA0 h0 rfl (c_MM_refuse l D cI cR cJ g _ mm q hq (nI t) v3 v4 (nI S.2.1.length) (nI S.2.2.1.length) v14 v16 v17 (nI S.2.2.2.1.length) v23 (nI S.2.2.2.2.1.length) 1 0 (by decide) (by decide) h0) kMM_refuse lm_MM_72 (hR.call rfl) rfl hl.1 rfl (Nat.le_of_ble_eq_true rfl) dMM_hunk_28 (hR.new (by decide) (by decide)) (fun r_28 g_1 H locs hp_28 hg hS => ?_)
    obtain ⟨frr, rm_, hp_28⟩ := hp_28
    have rm_ : g_1 mm = some (mmC q (nI 1) v3 v4 (nI S.2.1.length) (nI S.2.2.1.length) v14 v16 v17 (nI S.2.2.2.1.length) v23 (nI S.2.2.2.2.1.length)) := rm_
    have k1_0 := frr.at (h_nm (h_ne hhunk h0 (fun h => by cases h)) h_n0) hhunk
    have fr := fr.call frr (by simp)
    rcases hp_28 with ⟨ho, hr_⟩ | ⟨ho, hr_⟩
    · skip
      subst ho
      refine lv_if_eq (tgt := 36) S0.1 S0.2.1 dMM_hunk_31 (by decide) (fun c_31 => ?_) (fun c_31 => ?_)
      · skip
        rw [← nI_0] at c_31
        have c_31 : 1 = 0 := (nI_eq (by omega) (by omega)).mp c_31
        exact absurd c_31 (by decide)
      · skip
        rw [← nI_0] at c_31
        have c_31 : ¬ (1 = 0) := fun h => c_31 ((nI_eq (by omega) (by omega)).mpr h)
        refine lv_iconst (v := nI 0) S0.1 S0.2.1 dMM_hunk_34 (by decide) ?_
        have eop : o_hunk k w S = (1, 0, S) := by unfold o_hunk; first | (rw [e_1]; done) | (rw [e_1, e_2]; done) | (rw [e_2]; cases ix _ _ <;> rfl)
        have hF2 : ∀ i, i < 18 → g_1 (q i) = some (.inl (cI, mSz i, .inl (F i))) := by
          intro i hi
          match i, hi with
          | 0, _ => exact fr.at (h_nm (h_ne (hF 0 (by decide)) h0 (fun h => by cases h)) h_n0) (hF 0 (by decide))
          | 1, _ => exact fr.at (h_nm (h_ne (hF 1 (by decide)) h0 (fun h => by cases h)) h_n0) (hF 1 (by decide))
          | 2, _ => exact fr.at (h_nm (h_ne (hF 2 (by decide)) h0 (fun h => by cases h)) h_n0) (hF 2 (by decide))
          | 3, _ => exact fr.at (h_nm (h_ne (hF 3 (by decide)) h0 (fun h => by cases h)) h_n0) (hF 3 (by decide))
          | 4, _ => exact fr.at (h_nm (h_ne (hF 4 (by decide)) h0 (fun h => by cases h)) h_n0) (hF 4 (by decide))
          | 5, _ => exact fr.at (h_nm (h_ne (hF 5 (by decide)) h0 (fun h => by cases h)) h_n0) (hF 5 (by decide))
          | 6, _ => exact fr.at (h_nm (h_ne (hF 6 (by decide)) h0 (fun h => by cases h)) h_n0) (hF 6 (by decide))
          | 7, _ => exact fr.at (h_nm (h_ne (hF 7 (by decide)) h0 (fun h => by cases h)) h_n0) (hF 7 (by decide))
          | 8, _ => exact fr.at (h_nm (h_ne (hF 8 (by decide)) h0 (fun h => by cases h)) h_n0) (hF 8 (by decide))
          | 9, _ => exact fr.at (h_nm (h_ne (hF 9 (by decide)) h0 (fun h => by cases h)) h_n0) (hF 9 (by decide))
          | 10, _ => exact fr.at (h_nm (h_ne (hF 10 (by decide)) h0 (fun h => by cases h)) h_n0) (hF 10 (by decide))
          | 11, _ => exact fr.at (h_nm (h_ne (hF 11 (by decide)) h0 (fun h => by cases h)) h_n0) (hF 11 (by decide))
          | 12, _ => exact fr.at (h_nm (h_ne (hF 12 (by decide)) h0 (fun h => by cases h)) h_n0) (hF 12 (by decide))
          | 13, _ => exact fr.at (h_nm (h_ne (hF 13 (by decide)) h0 (fun h => by cases h)) h_n0) (hF 13 (by decide))
          | 14, _ => exact fr.at (h_nm (h_ne (hF 14 (by decide)) h0 (fun h => by cases h)) h_n0) (hF 14 (by decide))
          | 15, _ => exact fr.at (h_nm (h_ne (hF 15 (by decide)) h0 (fun h => by cases h)) h_n0) (hF 15 (by decide))
          | 16, _ => exact fr.at (h_nm (h_ne (hF 16 (by decide)) h0 (fun h => by cases h)) h_n0) (hF 16 (by decide))
          | 17, _ => exact fr.at (h_nm (h_ne (hF 17 (by decide)) h0 (fun h => by cases h)) h_n0) (hF 17 (by decide))
          | i + 18, h => omega
        have hrep : repM cI g_1 mm q (o_hunk k w S).1 (o_hunk k w S).2.2 := by rw [eop]; exact ⟨hq, hok, v3, v4, v14, v16, v17, v23, F, rm_, hF2, hR_, hA_, hB_, hH_, hC_, hZ_, hV_, hL_⟩
        have fr9 : hfr g g_1 (mS mm q) := fr.mono (by simp)
        exact hend _ _ _ _ _ _ _ _ (by decide) (by decide) rfl (⟨fr9, hrep, fun h9 => by rw [eop] at h9 ⊢; cases h9⟩) hg hS dMM_hunk_35
    · skip
      exact absurd hr_ (by decide)
  · skip
    obtain ⟨i, hi, rfl⟩ := nI_of c_2
    refine lv_iload_n S0.1 S0.2.1 dMM_hunk_5 rfl (lv_at hl 1 rfl) ?_
    refine lv_aload_n S0.1 S0.2.1 dMM_hunk_6 rfl (lv_at hl 0 rfl) ?_
    refine hw_get S0 hK hg h0 rfl inMM 12 (by decide) lf_MM_109 rfl rfl dMM_hunk_7 ?_
    refine lv_icmp_ge (tgt := 22) S0.1 S0.2.1 dMM_hunk_10 (by decide) (fun c_10 => ?_) (fun c_10 => ?_)
    · skip
      have c_10 : S.2.2.1.length ≤ i := (nI_leI (by omega) (by omega)).mp c_10
      have e_1 : ix (nI i) S.2.2.1.length = none := ix_ge c_10 hi
      refine lv_iconst (v := nI 1) S0.1 S0.2.1 dMM_hunk_22 (by decide) ?_
      refine lv_goto (tgt := 27) S0.1 S0.2.1 dMM_hunk_23 (by decide) ?_
      refine lv_iconst (v := nI 0) S0.1 S0.2.1 dMM_hunk_27 (by decide) ?_
      refine hw_Vi (As := [.int (nI 1), .int (nI 0)]) (rest := []) S0 hK hg hS hA0 h0 rfl (c_MM_refuse l D cI cR cJ g _ mm q hq (nI t) v3 v4 (nI S.2.1.length) (nI S.2.2.1.length) v14 v16 v17 (nI S.2.2.2.1.length) v23 (nI S.2.2.2.2.1.length) 1 0 (by decide) (by decide) h0) kMM_refuse lm_MM_72 (hR.call rfl) rfl hl.1 rfl (Nat.le_of_ble_eq_true rfl) dMM_hunk_28 (hR.new (by decide) (by decide)) (fun r_28 g_2 H locs hp_28 hg hS => ?_)
      obtain ⟨frr, rm_, hp_28⟩ := hp_28
      have rm_ : g_2 mm = some (mmC q (nI 1) v3 v4 (nI S.2.1.length) (nI S.2.2.1.length) v14 v16 v17 (nI S.2.2.2.1.length) v23 (nI S.2.2.2.2.1.length)) := rm_
      have k2_0 := frr.at (h_nm (h_ne hhunk h0 (fun h => by cases h)) h_n0) hhunk
      have fr := fr.call frr (by simp)
      rcases hp_28 with ⟨ho, hr_⟩ | ⟨ho, hr_⟩
      · skip
        subst ho
        refine lv_if_eq (tgt := 36) S0.1 S0.2.1 dMM_hunk_31 (by decide) (fun c_31 => ?_) (fun c_31 => ?_)
        · skip
          rw [← nI_0] at c_31
          have c_31 : 1 = 0 := (nI_eq (by omega) (by omega)).mp c_31
          exact absurd c_31 (by decide)
        · skip
          rw [← nI_0] at c_31
          have c_31 : ¬ (1 = 0) := fun h => c_31 ((nI_eq (by omega) (by omega)).mpr h)
          refine lv_iconst (v := nI 0) S0.1 S0.2.1 dMM_hunk_34 (by decide) ?_
          have eop : o_hunk (nI i) w S = (1, 0, S) := by unfold o_hunk; first | (rw [e_1]; done) | (rw [e_1, e_2]; done) | (rw [e_2]; cases ix _ _ <;> rfl)
          have hF2 : ∀ i, i < 18 → g_2 (q i) = some (.inl (cI, mSz i, .inl (F i))) := by
            intro i hi
            match i, hi with
            | 0, _ => exact fr.at (h_nm (h_ne (hF 0 (by decide)) h0 (fun h => by cases h)) h_n0) (hF 0 (by decide))
            | 1, _ => exact fr.at (h_nm (h_ne (hF 1 (by decide)) h0 (fun h => by cases h)) h_n0) (hF 1 (by decide))
            | 2, _ => exact fr.at (h_nm (h_ne (hF 2 (by decide)) h0 (fun h => by cases h)) h_n0) (hF 2 (by decide))
            | 3, _ => exact fr.at (h_nm (h_ne (hF 3 (by decide)) h0 (fun h => by cases h)) h_n0) (hF 3 (by decide))
            | 4, _ => exact fr.at (h_nm (h_ne (hF 4 (by decide)) h0 (fun h => by cases h)) h_n0) (hF 4 (by decide))
            | 5, _ => exact fr.at (h_nm (h_ne (hF 5 (by decide)) h0 (fun h => by cases h)) h_n0) (hF 5 (by decide))
            | 6, _ => exact fr.at (h_nm (h_ne (hF 6 (by decide)) h0 (fun h => by cases h)) h_n0) (hF 6 (by decide))
            | 7, _ => exact fr.at (h_nm (h_ne (hF 7 (by decide)) h0 (fun h => by cases h)) h_n0) (hF 7 (by decide))
            | 8, _ => exact fr.at (h_nm (h_ne (hF 8 (by decide)) h0 (fun h => by cases h)) h_n0) (hF 8 (by decide))
            | 9, _ => exact fr.at (h_nm (h_ne (hF 9 (by decide)) h0 (fun h => by cases h)) h_n0) (hF 9 (by decide))
            | 10, _ => exact fr.at (h_nm (h_ne (hF 10 (by decide)) h0 (fun h => by cases h)) h_n0) (hF 10 (by decide))
            | 11, _ => exact fr.at (h_nm (h_ne (hF 11 (by decide)) h0 (fun h => by cases h)) h_n0) (hF 11 (by decide))
            | 12, _ => exact fr.at (h_nm (h_ne (hF 12 (by decide)) h0 (fun h => by cases h)) h_n0) (hF 12 (by decide))
            | 13, _ => exact fr.at (h_nm (h_ne (hF 13 (by decide)) h0 (fun h => by cases h)) h_n0) (hF 13 (by decide))
            | 14, _ => exact fr.at (h_nm (h_ne (hF 14 (by decide)) h0 (fun h => by cases h)) h_n0) (hF 14 (by decide))
            | 15, _ => exact fr.at (h_nm (h_ne (hF 15 (by decide)) h0 (fun h => by cases h)) h_n0) (hF 15 (by decide))
            | 16, _ => exact fr.at (h_nm (h_ne (hF 16 (by decide)) h0 (fun h => by cases h)) h_n0) (hF 16 (by decide))
            | 17, _ => exact fr.at (h_nm (h_ne (hF 17 (by decide)) h0 (fun h => by cases h)) h_n0) (hF 17 (by decide))
            | i + 18, h => omega
          have hrep : repM cI g_2 mm q (o_hunk (nI i) w S).1 (o_hunk (nI i) w S).2.2 := by rw [eop]; exact ⟨hq, hok, v3, v4, v14, v16, v17, v23, F, rm_, hF2, hR_, hA_, hB_, hH_, hC_, hZ_, hV_, hL_⟩
          have fr9 : hfr g g_2 (mS mm q) := fr.mono (by simp)
          exact hend _ _ _ _ _ _ _ _ (by decide) (by decide) rfl (⟨fr9, hrep, fun h9 => by rw [eop] at h9 ⊢; cases h9⟩) hg hS dMM_hunk_35
      · skip
        exact absurd hr_ (by decide)
    · skip
      have c_10 : ¬ (S.2.2.1.length ≤ i) := fun h => c_10 ((nI_leI (by omega) (by omega)).mpr h)
      have e_1 : ix (nI i) S.2.2.1.length = some i := ix_some (by omega) (by omega)
      refine lv_iload_n S0.1 S0.2.1 dMM_hunk_13 rfl (lv_at hl 2 rfl) ?_
      refine lv_if_lt (tgt := 22) S0.1 S0.2.1 dMM_hunk_14 (by decide) (fun c_14 => ?_) (fun c_14 => ?_)
      · skip
        have e_2 : ix w 4 = none := ix_neg c_14
        refine lv_iconst (v := nI 1) S0.1 S0.2.1 dMM_hunk_22 (by decide) ?_
        refine lv_goto (tgt := 27) S0.1 S0.2.1 dMM_hunk_23 (by decide) ?_
        refine lv_iconst (v := nI 0) S0.1 S0.2.1 dMM_hunk_27 (by decide) ?_
        refine hw_Vi (As := [.int (nI 1), .int (nI 0)]) (rest := []) S0 hK hg hS hA0 h0 rfl (c_MM_refuse l D cI cR cJ g _ mm q hq (nI t) v3 v4 (nI S.2.1.length) (nI S.2.2.1.length) v14 v16 v17 (nI S.2.2.2.1.length) v23 (nI S.2.2.2.2.1.length) 1 0 (by decide) (by decide) h0) kMM_refuse lm_MM_72 (hR.call rfl) rfl hl.1 rfl (Nat.le_of_ble_eq_true rfl) dMM_hunk_28 (hR.new (by decide) (by decide)) (fun r_28 g_3 H locs hp_28 hg hS => ?_)
        obtain ⟨frr, rm_, hp_28⟩ := hp_28
        have rm_ : g_3 mm = some (mmC q (nI 1) v3 v4 (nI S.2.1.length) (nI S.2.2.1.length) v14 v16 v17 (nI S.2.2.2.1.length) v23 (nI S.2.2.2.2.1.length)) := rm_
        have k3_0 := frr.at (h_nm (h_ne hhunk h0 (fun h => by cases h)) h_n0) hhunk
        have fr := fr.call frr (by simp)
        rcases hp_28 with ⟨ho, hr_⟩ | ⟨ho, hr_⟩
        · skip
          subst ho
          refine lv_if_eq (tgt := 36) S0.1 S0.2.1 dMM_hunk_31 (by decide) (fun c_31 => ?_) (fun c_31 => ?_)
          · skip
            rw [← nI_0] at c_31
            have c_31 : 1 = 0 := (nI_eq (by omega) (by omega)).mp c_31
            exact absurd c_31 (by decide)
          · skip
            rw [← nI_0] at c_31
            have c_31 : ¬ (1 = 0) := fun h => c_31 ((nI_eq (by omega) (by omega)).mpr h)
            refine lv_iconst (v := nI 0) S0.1 S0.2.1 dMM_hunk_34 (by decide) ?_
            have eop : o_hunk (nI i) w S = (1, 0, S) := by unfold o_hunk; first | (rw [e_1]; done) | (rw [e_1, e_2]; done) | (rw [e_2]; cases ix _ _ <;> rfl)
            have hF2 : ∀ i, i < 18 → g_3 (q i) = some (.inl (cI, mSz i, .inl (F i))) := by
              intro i hi
              match i, hi with
              | 0, _ => exact fr.at (h_nm (h_ne (hF 0 (by decide)) h0 (fun h => by cases h)) h_n0) (hF 0 (by decide))
              | 1, _ => exact fr.at (h_nm (h_ne (hF 1 (by decide)) h0 (fun h => by cases h)) h_n0) (hF 1 (by decide))
              | 2, _ => exact fr.at (h_nm (h_ne (hF 2 (by decide)) h0 (fun h => by cases h)) h_n0) (hF 2 (by decide))
              | 3, _ => exact fr.at (h_nm (h_ne (hF 3 (by decide)) h0 (fun h => by cases h)) h_n0) (hF 3 (by decide))
              | 4, _ => exact fr.at (h_nm (h_ne (hF 4 (by decide)) h0 (fun h => by cases h)) h_n0) (hF 4 (by decide))
              | 5, _ => exact fr.at (h_nm (h_ne (hF 5 (by decide)) h0 (fun h => by cases h)) h_n0) (hF 5 (by decide))
              | 6, _ => exact fr.at (h_nm (h_ne (hF 6 (by decide)) h0 (fun h => by cases h)) h_n0) (hF 6 (by decide))
              | 7, _ => exact fr.at (h_nm (h_ne (hF 7 (by decide)) h0 (fun h => by cases h)) h_n0) (hF 7 (by decide))
              | 8, _ => exact fr.at (h_nm (h_ne (hF 8 (by decide)) h0 (fun h => by cases h)) h_n0) (hF 8 (by decide))
              | 9, _ => exact fr.at (h_nm (h_ne (hF 9 (by decide)) h0 (fun h => by cases h)) h_n0) (hF 9 (by decide))
              | 10, _ => exact fr.at (h_nm (h_ne (hF 10 (by decide)) h0 (fun h => by cases h)) h_n0) (hF 10 (by decide))
              | 11, _ => exact fr.at (h_nm (h_ne (hF 11 (by decide)) h0 (fun h => by cases h)) h_n0) (hF 11 (by decide))
              | 12, _ => exact fr.at (h_nm (h_ne (hF 12 (by decide)) h0 (fun h => by cases h)) h_n0) (hF 12 (by decide))
              | 13, _ => exact fr.at (h_nm (h_ne (hF 13 (by decide)) h0 (fun h => by cases h)) h_n0) (hF 13 (by decide))
              | 14, _ => exact fr.at (h_nm (h_ne (hF 14 (by decide)) h0 (fun h => by cases h)) h_n0) (hF 14 (by decide))
              | 15, _ => exact fr.at (h_nm (h_ne (hF 15 (by decide)) h0 (fun h => by cases h)) h_n0) (hF 15 (by decide))
              | 16, _ => exact fr.at (h_nm (h_ne (hF 16 (by decide)) h0 (fun h => by cases h)) h_n0) (hF 16 (by decide))
              | 17, _ => exact fr.at (h_nm (h_ne (hF 17 (by decide)) h0 (fun h => by cases h)) h_n0) (hF 17 (by decide))
              | i + 18, h => omega
            have hrep : repM cI g_3 mm q (o_hunk (nI i) w S).1 (o_hunk (nI i) w S).2.2 := by rw [eop]; exact ⟨hq, hok, v3, v4, v14, v16, v17, v23, F, rm_, hF2, hR_, hA_, hB_, hH_, hC_, hZ_, hV_, hL_⟩
            have fr9 : hfr g g_3 (mS mm q) := fr.mono (by simp)
            exact hend _ _ _ _ _ _ _ _ (by decide) (by decide) rfl (⟨fr9, hrep, fun h9 => by rw [eop] at h9 ⊢; cases h9⟩) hg hS dMM_hunk_35
        · skip
          exact absurd hr_ (by decide)
      · skip
        obtain ⟨j, hj, rfl⟩ := nI_of c_14
        refine lv_iload_n S0.1 S0.2.1 dMM_hunk_17 rfl (lv_at hl 2 rfl) ?_
        refine lv_iconst (v := nI 3) S0.1 S0.2.1 dMM_hunk_18 (by decide) ?_
        refine lv_icmp_le (tgt := 26) S0.1 S0.2.1 dMM_hunk_19 (by decide) (fun c_19 => ?_) (fun c_19 => ?_)
        · skip
          have c_19 : j ≤ 3 := (nI_leI (by omega) (by omega)).mp c_19
          have e_2 : ix (nI j) 4 = some j := ix_some (by omega) (by decide)
          refine lv_iconst (v := nI 0) S0.1 S0.2.1 dMM_hunk_26 (by decide) ?_
          refine lv_iconst (v := nI 0) S0.1 S0.2.1 dMM_hunk_27 (by decide) ?_
          refine hw_Vi (As := [.int (nI 0), .int (nI 0)]) (rest := []) S0 hK hg hS hA0 h0 rfl (c_MM_refuse l D cI cR cJ g _ mm q hq (nI t) v3 v4 (nI S.2.1.length) (nI S.2.2.1.length) v14 v16 v17 (nI S.2.2.2.1.length) v23 (nI S.2.2.2.2.1.length) 0 0 (by decide) (by decide) h0) kMM_refuse lm_MM_72 (hR.call rfl) rfl hl.1 rfl (Nat.le_of_ble_eq_true rfl) dMM_hunk_28 (hR.new (by decide) (by decide)) (fun r_28 g_4 H locs hp_28 hg hS => ?_)
          obtain ⟨frr, rm_, hp_28⟩ := hp_28
          have rm_ : g_4 mm = some (mmC q (nI 0) v3 v4 (nI S.2.1.length) (nI S.2.2.1.length) v14 v16 v17 (nI S.2.2.2.1.length) v23 (nI S.2.2.2.2.1.length)) := rm_
          have k4_0 := frr.at (h_nm (h_ne hhunk h0 (fun h => by cases h)) h_n0) hhunk
          have fr := fr.call frr (by simp)
          rcases hp_28 with ⟨ho, hr_⟩ | ⟨ho, hr_⟩
          · skip
            exact absurd hr_ (by decide)
          · skip
            subst ho
            refine lv_if_eq (tgt := 36) S0.1 S0.2.1 dMM_hunk_31 (by decide) (fun c_31 => ?_) (fun c_31 => ?_)
            · skip
              rw [← nI_0] at c_31
              have c_31 : 0 = 0 := (nI_eq (by omega) (by omega)).mp c_31
              refine lv_aload_n S0.1 S0.2.1 dMM_hunk_36 rfl (lv_at hl 0 rfl) ?_
              refine hw_get S0 hK hg rm_ rfl inMM 13 (by decide) lf_MM_34 rfl rfl dMM_hunk_37 ?_
              refine lv_iconst (v := nI 4) S0.1 S0.2.1 dMM_hunk_40 (by decide) ?_
              refine lv_iload_n S0.1 S0.2.1 dMM_hunk_41 rfl (lv_at hl 1 rfl) ?_
              refine lv_imul S0.1 S0.2.1 dMM_hunk_42 ?_
              refine hw_top (nI (4 * i)) (pk_mul _ _) ?_
              refine lv_iload_n S0.1 S0.2.1 dMM_hunk_43 rfl (lv_at hl 2 rfl) ?_
              refine lv_iadd S0.1 S0.2.1 dMM_hunk_44 ?_
              refine hw_top (nI ((4 * i) + j)) (nI_add _ _) ?_
              refine hw_iald S0 hK hg k4_0 0 rfl (by omega) (by omega) dMM_hunk_45 ?_
              have eop : o_hunk (nI i) (nI j) S = (0, nI ((fl4 S.2.2.1).getD (4 * i + j) 0), S) := by unfold o_hunk; rw [e_1, e_2]
              have hF2 : ∀ i, i < 18 → g_4 (q i) = some (.inl (cI, mSz i, .inl (F i))) := by
                intro i hi
                match i, hi with
                | 0, _ => exact fr.at (h_nm (h_ne (hF 0 (by decide)) h0 (fun h => by cases h)) h_n0) (hF 0 (by decide))
                | 1, _ => exact fr.at (h_nm (h_ne (hF 1 (by decide)) h0 (fun h => by cases h)) h_n0) (hF 1 (by decide))
                | 2, _ => exact fr.at (h_nm (h_ne (hF 2 (by decide)) h0 (fun h => by cases h)) h_n0) (hF 2 (by decide))
                | 3, _ => exact fr.at (h_nm (h_ne (hF 3 (by decide)) h0 (fun h => by cases h)) h_n0) (hF 3 (by decide))
                | 4, _ => exact fr.at (h_nm (h_ne (hF 4 (by decide)) h0 (fun h => by cases h)) h_n0) (hF 4 (by decide))
                | 5, _ => exact fr.at (h_nm (h_ne (hF 5 (by decide)) h0 (fun h => by cases h)) h_n0) (hF 5 (by decide))
                | 6, _ => exact fr.at (h_nm (h_ne (hF 6 (by decide)) h0 (fun h => by cases h)) h_n0) (hF 6 (by decide))
                | 7, _ => exact fr.at (h_nm (h_ne (hF 7 (by decide)) h0 (fun h => by cases h)) h_n0) (hF 7 (by decide))
                | 8, _ => exact fr.at (h_nm (h_ne (hF 8 (by decide)) h0 (fun h => by cases h)) h_n0) (hF 8 (by decide))
                | 9, _ => exact fr.at (h_nm (h_ne (hF 9 (by decide)) h0 (fun h => by cases h)) h_n0) (hF 9 (by decide))
                | 10, _ => exact fr.at (h_nm (h_ne (hF 10 (by decide)) h0 (fun h => by cases h)) h_n0) (hF 10 (by decide))
                | 11, _ => exact fr.at (h_nm (h_ne (hF 11 (by decide)) h0 (fun h => by cases h)) h_n0) (hF 11 (by decide))
                | 12, _ => exact fr.at (h_nm (h_ne (hF 12 (by decide)) h0 (fun h => by cases h)) h_n0) (hF 12 (by decide))
                | 13, _ => exact fr.at (h_nm (h_ne (hF 13 (by decide)) h0 (fun h => by cases h)) h_n0) (hF 13 (by decide))
                | 14, _ => exact fr.at (h_nm (h_ne (hF 14 (by decide)) h0 (fun h => by cases h)) h_n0) (hF 14 (by decide))
                | 15, _ => exact fr.at (h_nm (h_ne (hF 15 (by decide)) h0 (fun h => by cases h)) h_n0) (hF 15 (by decide))
                | 16, _ => exact fr.at (h_nm (h_ne (hF 16 (by decide)) h0 (fun h => by cases h)) h_n0) (hF 16 (by decide))
                | 17, _ => exact fr.at (h_nm (h_ne (hF 17 (by decide)) h0 (fun h => by cases h)) h_n0) (hF 17 (by decide))
                | i + 18, h => omega
              have hrep : repM cI g_4 mm q (o_hunk (nI i) (nI j) S).1 (o_hunk (nI i) (nI j) S).2.2 := by rw [eop]; exact ⟨hq, hok, v3, v4, v14, v16, v17, v23, F, rm_, hF2, hR_, hA_, hB_, hH_, hC_, hZ_, hV_, hL_⟩
              have fr9 : hfr g g_4 (mS mm q) := fr.mono (by simp)
              exact hend _ _ _ _ _ _ _ _ (by decide) (by decide) rfl (⟨fr9, hrep, fun h9 => by rw [eop] at h9 ⊢; exact hH_ _ (by rw [fl4_len]; omega)⟩) hg hS dMM_hunk_46
            · skip
              rw [← nI_0] at c_31
              have c_31 : ¬ (0 = 0) := fun h => c_31 ((nI_eq (by omega) (by omega)).mpr h)
              exact absurd c_31 (by decide)
        · skip
          have c_19 : ¬ (j ≤ 3) := fun h => c_19 ((nI_leI (by omega) (by omega)).mpr h)
          have e_2 : ix (nI j) 4 = none := ix_ge (by omega) hj
          refine lv_iconst (v := nI 1) S0.1 S0.2.1 dMM_hunk_22 (by decide) ?_
          refine lv_goto (tgt := 27) S0.1 S0.2.1 dMM_hunk_23 (by decide) ?_
          refine lv_iconst (v := nI 0) S0.1 S0.2.1 dMM_hunk_27 (by decide) ?_
          refine hw_Vi (As := [.int (nI 1), .int (nI 0)]) (rest := []) S0 hK hg hS hA0 h0 rfl (c_MM_refuse l D cI cR cJ g _ mm q hq (nI t) v3 v4 (nI S.2.1.length) (nI S.2.2.1.length) v14 v16 v17 (nI S.2.2.2.1.length) v23 (nI S.2.2.2.2.1.length) 1 0 (by decide) (by decide) h0) kMM_refuse lm_MM_72 (hR.call rfl) rfl hl.1 rfl (Nat.le_of_ble_eq_true rfl) dMM_hunk_28 (hR.new (by decide) (by decide)) (fun r_28 g_5 H locs hp_28 hg hS => ?_)
          obtain ⟨frr, rm_, hp_28⟩ := hp_28
          have rm_ : g_5 mm = some (mmC q (nI 1) v3 v4 (nI S.2.1.length) (nI S.2.2.1.length) v14 v16 v17 (nI S.2.2.2.1.length) v23 (nI S.2.2.2.2.1.length)) := rm_
          have k5_0 := frr.at (h_nm (h_ne hhunk h0 (fun h => by cases h)) h_n0) hhunk
          have fr := fr.call frr (by simp)
          rcases hp_28 with ⟨ho, hr_⟩ | ⟨ho, hr_⟩
          · skip
            subst ho
            refine lv_if_eq (tgt := 36) S0.1 S0.2.1 dMM_hunk_31 (by decide) (fun c_31 => ?_) (fun c_31 => ?_)
            · skip
              rw [← nI_0] at c_31
              have c_31 : 1 = 0 := (nI_eq (by omega) (by omega)).mp c_31
              exact absurd c_31 (by decide)
            · skip
              rw [← nI_0] at c_31
              have c_31 : ¬ (1 = 0) := fun h => c_31 ((nI_eq (by omega) (by omega)).mpr h)
              refine lv_iconst (v := nI 0) S0.1 S0.2.1 dMM_hunk_34 (by decide) ?_
              have eop : o_hunk (nI i) (nI j) S = (1, 0, S) := by unfold o_hunk; first | (rw [e_1]; done) | (rw [e_1, e_2]; done) | (rw [e_2]; cases ix _ _ <;> rfl)
              have hF2 : ∀ i, i < 18 → g_5 (q i) = some (.inl (cI, mSz i, .inl (F i))) := by
                intro i hi
                match i, hi with
                | 0, _ => exact fr.at (h_nm (h_ne (hF 0 (by decide)) h0 (fun h => by cases h)) h_n0) (hF 0 (by decide))
                | 1, _ => exact fr.at (h_nm (h_ne (hF 1 (by decide)) h0 (fun h => by cases h)) h_n0) (hF 1 (by decide))
                | 2, _ => exact fr.at (h_nm (h_ne (hF 2 (by decide)) h0 (fun h => by cases h)) h_n0) (hF 2 (by decide))
                | 3, _ => exact fr.at (h_nm (h_ne (hF 3 (by decide)) h0 (fun h => by cases h)) h_n0) (hF 3 (by decide))
                | 4, _ => exact fr.at (h_nm (h_ne (hF 4 (by decide)) h0 (fun h => by cases h)) h_n0) (hF 4 (by decide))
                | 5, _ => exact fr.at (h_nm (h_ne (hF 5 (by decide)) h0 (fun h => by cases h)) h_n0) (hF 5 (by decide))
                | 6, _ => exact fr.at (h_nm (h_ne (hF 6 (by decide)) h0 (fun h => by cases h)) h_n0) (hF 6 (by decide))
                | 7, _ => exact fr.at (h_nm (h_ne (hF 7 (by decide)) h0 (fun h => by cases h)) h_n0) (hF 7 (by decide))
                | 8, _ => exact fr.at (h_nm (h_ne (hF 8 (by decide)) h0 (fun h => by cases h)) h_n0) (hF 8 (by decide))
                | 9, _ => exact fr.at (h_nm (h_ne (hF 9 (by decide)) h0 (fun h => by cases h)) h_n0) (hF 9 (by decide))
                | 10, _ => exact fr.at (h_nm (h_ne (hF 10 (by decide)) h0 (fun h => by cases h)) h_n0) (hF 10 (by decide))
                | 11, _ => exact fr.at (h_nm (h_ne (hF 11 (by decide)) h0 (fun h => by cases h)) h_n0) (hF 11 (by decide))
                | 12, _ => exact fr.at (h_nm (h_ne (hF 12 (by decide)) h0 (fun h => by cases h)) h_n0) (hF 12 (by decide))
                | 13, _ => exact fr.at (h_nm (h_ne (hF 13 (by decide)) h0 (fun h => by cases h)) h_n0) (hF 13 (by decide))
                | 14, _ => exact fr.at (h_nm (h_ne (hF 14 (by decide)) h0 (fun h => by cases h)) h_n0) (hF 14 (by decide))
                | 15, _ => exact fr.at (h_nm (h_ne (hF 15 (by decide)) h0 (fun h => by cases h)) h_n0) (hF 15 (by decide))
                | 16, _ => exact fr.at (h_nm (h_ne (hF 16 (by decide)) h0 (fun h => by cases h)) h_n0) (hF 16 (by decide))
                | 17, _ => exact fr.at (h_nm (h_ne (hF 17 (by decide)) h0 (fun h => by cases h)) h_n0) (hF 17 (by decide))
                | i + 18, h => omega
              have hrep : repM cI g_5 mm q (o_hunk (nI i) (nI j) S).1 (o_hunk (nI i) (nI j) S).2.2 := by rw [eop]; exact ⟨hq, hok, v3, v4, v14, v16, v17, v23, F, rm_, hF2, hR_, hA_, hB_, hH_, hC_, hZ_, hV_, hL_⟩
              have fr9 : hfr g g_5 (mS mm q) := fr.mono (by simp)
              exact hend _ _ _ _ _ _ _ _ (by decide) (by decide) rfl (⟨fr9, hrep, fun h9 => by rw [eop] at h9 ⊢; cases h9⟩) hg hS dMM_hunk_35
          · skip
            exact absurd hr_ (by decide)
set_option maxRecDepth 100000 in
set_option maxHeartbeats 4000000 in
theorem c_MM_conflict (l : Launch) (D : va_G) (cI cR cJ : ClassId) (g : Nat → Option va_E) (sz : Nat) (mm : Nat) (q : Nat → Nat) (t : Nat) (S : ST) (k w : Int32) (HM : repM cI g mm q t S) : hMi l yMM_conflict cMM_conflict 3 .int (hRm 1 24 0 0) D (hT cI cR cJ) g sz [.ref mm, .int k, .int w] (fun o g1 => hfr g g1 (mS mm q) ∧ repM cI g1 mm q (o_conflict k w S).1 (o_conflict k w S).2.2 ∧ ((o_conflict k w S).1 = 0 → o = (o_conflict k w S).2.1)) := by
  refine hMi_of (by decide +kernel) (Nat.le_of_ble_eq_true rfl) ?_
  intro pX eX RX sX mX argsX belowX methX cX QX AX hR S0 hnm hsz hg hK hS hA0 hend ls hl
  have hl : lv_has ls 3 [(0, .ref mm), (1, .int k), (2, .int w)] := hl
  obtain ⟨hq, hok, v3, v4, v14, v16, v17, v23, F, h0, hF, hR_, hA_, hB_, hH_, hC_, hZ_, hV_, hL_⟩ := HM
  have hconflict : g (q 13) = some (.inl (cI, 400, .inl (F 13))) := hF 13 (by decide)
  have fr : hfr g g [mm] := hfr.rf
  have hk60 : S.2.2.2.1.length ≤ 61 := by obtain ⟨o1, o2, o3, o4, o5⟩ := hok; omega
  refine lv_aload_n S0.1 S0.2.1 dMM_conflict_0 rfl (lv_at hl 0 rfl) ?_
  refine lv_iload_n S0.1 S0.2.1 dMM_conflict_1 rfl (lv_at hl 1 rfl) ?_
  refine lv_if_lt (tgt := 22) S0.1 S0.2.1 dMM_conflict_2 (by decide) (fun c_2 => ?_) (fun c_2 => ?_)
  · skip
    have e_1 : ix k S.2.2.2.1.length = none := ix_neg c_2
    refine lv_iconst (v := nI 1) S0.1 S0.2.1 dMM_conflict_22 (by decide) ?_
    refine lv_goto (tgt := 27) S0.1 S0.2.1 dMM_conflict_23 (by decide) ?_
    refine lv_iconst (v := nI 0) S0.1 S0.2.1 dMM_conflict_27 (by decide) ?_
    refine hw_Vi (As := [.int (nI 1), .int (nI 0)]) (rest := []) S0 hK hg hS hA0 h0 rfl (c_MM_refuse l D cI cR cJ g _ mm q hq (nI t) v3 v4 (nI S.2.1.length) (nI S.2.2.1.length) v14 v16 v17 (nI S.2.2.2.1.length) v23 (nI S.2.2.2.2.1.length) 1 0 (by decide) (by decide) h0) kMM_refuse lm_MM_72 (hR.call rfl) rfl hl.1 rfl (Nat.le_of_ble_eq_true rfl) dMM_conflict_28 (hR.new (by decide) (by decide)) (fun r_28 g_1 H locs hp_28 hg hS => ?_)
    obtain ⟨frr, rm_, hp_28⟩ := hp_28
    have rm_ : g_1 mm = some (mmC q (nI 1) v3 v4 (nI S.2.1.length) (nI S.2.2.1.length) v14 v16 v17 (nI S.2.2.2.1.length) v23 (nI S.2.2.2.2.1.length)) := rm_
    have k1_0 := frr.at (h_nm (h_ne hconflict h0 (fun h => by cases h)) h_n0) hconflict
    have fr := fr.call frr (by simp)
    rcases hp_28 with ⟨ho, hr_⟩ | ⟨ho, hr_⟩
    · skip
      subst ho
      refine lv_if_eq (tgt := 36) S0.1 S0.2.1 dMM_conflict_31 (by decide) (fun c_31 => ?_) (fun c_31 => ?_)
      · skip
        rw [← nI_0] at c_31
        have c_31 : 1 = 0 := (nI_eq (by omega) (by omega)).mp c_31
        exact absurd c_31 (by decide)
      · skip
        rw [← nI_0] at c_31
        have c_31 : ¬ (1 = 0) := fun h => c_31 ((nI_eq (by omega) (by omega)).mpr h)
        refine lv_iconst (v := nI 0) S0.1 S0.2.1 dMM_conflict_34 (by decide) ?_
        have eop : o_conflict k w S = (1, 0, S) := by unfold o_conflict; first | (rw [e_1]; done) | (rw [e_1, e_2]; done) | (rw [e_2]; cases ix _ _ <;> rfl)
        have hF2 : ∀ i, i < 18 → g_1 (q i) = some (.inl (cI, mSz i, .inl (F i))) := by
          intro i hi
          match i, hi with
          | 0, _ => exact fr.at (h_nm (h_ne (hF 0 (by decide)) h0 (fun h => by cases h)) h_n0) (hF 0 (by decide))
          | 1, _ => exact fr.at (h_nm (h_ne (hF 1 (by decide)) h0 (fun h => by cases h)) h_n0) (hF 1 (by decide))
          | 2, _ => exact fr.at (h_nm (h_ne (hF 2 (by decide)) h0 (fun h => by cases h)) h_n0) (hF 2 (by decide))
          | 3, _ => exact fr.at (h_nm (h_ne (hF 3 (by decide)) h0 (fun h => by cases h)) h_n0) (hF 3 (by decide))
          | 4, _ => exact fr.at (h_nm (h_ne (hF 4 (by decide)) h0 (fun h => by cases h)) h_n0) (hF 4 (by decide))
          | 5, _ => exact fr.at (h_nm (h_ne (hF 5 (by decide)) h0 (fun h => by cases h)) h_n0) (hF 5 (by decide))
          | 6, _ => exact fr.at (h_nm (h_ne (hF 6 (by decide)) h0 (fun h => by cases h)) h_n0) (hF 6 (by decide))
          | 7, _ => exact fr.at (h_nm (h_ne (hF 7 (by decide)) h0 (fun h => by cases h)) h_n0) (hF 7 (by decide))
          | 8, _ => exact fr.at (h_nm (h_ne (hF 8 (by decide)) h0 (fun h => by cases h)) h_n0) (hF 8 (by decide))
          | 9, _ => exact fr.at (h_nm (h_ne (hF 9 (by decide)) h0 (fun h => by cases h)) h_n0) (hF 9 (by decide))
          | 10, _ => exact fr.at (h_nm (h_ne (hF 10 (by decide)) h0 (fun h => by cases h)) h_n0) (hF 10 (by decide))
          | 11, _ => exact fr.at (h_nm (h_ne (hF 11 (by decide)) h0 (fun h => by cases h)) h_n0) (hF 11 (by decide))
          | 12, _ => exact fr.at (h_nm (h_ne (hF 12 (by decide)) h0 (fun h => by cases h)) h_n0) (hF 12 (by decide))
          | 13, _ => exact fr.at (h_nm (h_ne (hF 13 (by decide)) h0 (fun h => by cases h)) h_n0) (hF 13 (by decide))
          | 14, _ => exact fr.at (h_nm (h_ne (hF 14 (by decide)) h0 (fun h => by cases h)) h_n0) (hF 14 (by decide))
          | 15, _ => exact fr.at (h_nm (h_ne (hF 15 (by decide)) h0 (fun h => by cases h)) h_n0) (hF 15 (by decide))
          | 16, _ => exact fr.at (h_nm (h_ne (hF 16 (by decide)) h0 (fun h => by cases h)) h_n0) (hF 16 (by decide))
          | 17, _ => exact fr.at (h_nm (h_ne (hF 17 (by decide)) h0 (fun h => by cases h)) h_n0) (hF 17 (by decide))
          | i + 18, h => omega
        have hrep : repM cI g_1 mm q (o_conflict k w S).1 (o_conflict k w S).2.2 := by rw [eop]; exact ⟨hq, hok, v3, v4, v14, v16, v17, v23, F, rm_, hF2, hR_, hA_, hB_, hH_, hC_, hZ_, hV_, hL_⟩
        have fr9 : hfr g g_1 (mS mm q) := fr.mono (by simp)
        exact hend _ _ _ _ _ _ _ _ (by decide) (by decide) rfl (⟨fr9, hrep, fun h9 => by rw [eop] at h9 ⊢; cases h9⟩) hg hS dMM_conflict_35
    · skip
      exact absurd hr_ (by decide)
  · skip
    obtain ⟨i, hi, rfl⟩ := nI_of c_2
    refine lv_iload_n S0.1 S0.2.1 dMM_conflict_5 rfl (lv_at hl 1 rfl) ?_
    refine lv_aload_n S0.1 S0.2.1 dMM_conflict_6 rfl (lv_at hl 0 rfl) ?_
    refine hw_get S0 hK hg h0 rfl inMM 21 (by decide) lf_MM_141 rfl rfl dMM_conflict_7 ?_
    refine lv_icmp_ge (tgt := 22) S0.1 S0.2.1 dMM_conflict_10 (by decide) (fun c_10 => ?_) (fun c_10 => ?_)
    · skip
      have c_10 : S.2.2.2.1.length ≤ i := (nI_leI (by omega) (by omega)).mp c_10
      have e_1 : ix (nI i) S.2.2.2.1.length = none := ix_ge c_10 hi
      refine lv_iconst (v := nI 1) S0.1 S0.2.1 dMM_conflict_22 (by decide) ?_
      refine lv_goto (tgt := 27) S0.1 S0.2.1 dMM_conflict_23 (by decide) ?_
      refine lv_iconst (v := nI 0) S0.1 S0.2.1 dMM_conflict_27 (by decide) ?_
      refine hw_Vi (As := [.int (nI 1), .int (nI 0)]) (rest := []) S0 hK hg hS hA0 h0 rfl (c_MM_refuse l D cI cR cJ g _ mm q hq (nI t) v3 v4 (nI S.2.1.length) (nI S.2.2.1.length) v14 v16 v17 (nI S.2.2.2.1.length) v23 (nI S.2.2.2.2.1.length) 1 0 (by decide) (by decide) h0) kMM_refuse lm_MM_72 (hR.call rfl) rfl hl.1 rfl (Nat.le_of_ble_eq_true rfl) dMM_conflict_28 (hR.new (by decide) (by decide)) (fun r_28 g_2 H locs hp_28 hg hS => ?_)
      obtain ⟨frr, rm_, hp_28⟩ := hp_28
      have rm_ : g_2 mm = some (mmC q (nI 1) v3 v4 (nI S.2.1.length) (nI S.2.2.1.length) v14 v16 v17 (nI S.2.2.2.1.length) v23 (nI S.2.2.2.2.1.length)) := rm_
      have k2_0 := frr.at (h_nm (h_ne hconflict h0 (fun h => by cases h)) h_n0) hconflict
      have fr := fr.call frr (by simp)
      rcases hp_28 with ⟨ho, hr_⟩ | ⟨ho, hr_⟩
      · skip
        subst ho
        refine lv_if_eq (tgt := 36) S0.1 S0.2.1 dMM_conflict_31 (by decide) (fun c_31 => ?_) (fun c_31 => ?_)
        · skip
          rw [← nI_0] at c_31
          have c_31 : 1 = 0 := (nI_eq (by omega) (by omega)).mp c_31
          exact absurd c_31 (by decide)
        · skip
          rw [← nI_0] at c_31
          have c_31 : ¬ (1 = 0) := fun h => c_31 ((nI_eq (by omega) (by omega)).mpr h)
          refine lv_iconst (v := nI 0) S0.1 S0.2.1 dMM_conflict_34 (by decide) ?_
          have eop : o_conflict (nI i) w S = (1, 0, S) := by unfold o_conflict; first | (rw [e_1]; done) | (rw [e_1, e_2]; done) | (rw [e_2]; cases ix _ _ <;> rfl)
          have hF2 : ∀ i, i < 18 → g_2 (q i) = some (.inl (cI, mSz i, .inl (F i))) := by
            intro i hi
            match i, hi with
            | 0, _ => exact fr.at (h_nm (h_ne (hF 0 (by decide)) h0 (fun h => by cases h)) h_n0) (hF 0 (by decide))
            | 1, _ => exact fr.at (h_nm (h_ne (hF 1 (by decide)) h0 (fun h => by cases h)) h_n0) (hF 1 (by decide))
            | 2, _ => exact fr.at (h_nm (h_ne (hF 2 (by decide)) h0 (fun h => by cases h)) h_n0) (hF 2 (by decide))
            | 3, _ => exact fr.at (h_nm (h_ne (hF 3 (by decide)) h0 (fun h => by cases h)) h_n0) (hF 3 (by decide))
            | 4, _ => exact fr.at (h_nm (h_ne (hF 4 (by decide)) h0 (fun h => by cases h)) h_n0) (hF 4 (by decide))
            | 5, _ => exact fr.at (h_nm (h_ne (hF 5 (by decide)) h0 (fun h => by cases h)) h_n0) (hF 5 (by decide))
            | 6, _ => exact fr.at (h_nm (h_ne (hF 6 (by decide)) h0 (fun h => by cases h)) h_n0) (hF 6 (by decide))
            | 7, _ => exact fr.at (h_nm (h_ne (hF 7 (by decide)) h0 (fun h => by cases h)) h_n0) (hF 7 (by decide))
            | 8, _ => exact fr.at (h_nm (h_ne (hF 8 (by decide)) h0 (fun h => by cases h)) h_n0) (hF 8 (by decide))
            | 9, _ => exact fr.at (h_nm (h_ne (hF 9 (by decide)) h0 (fun h => by cases h)) h_n0) (hF 9 (by decide))
            | 10, _ => exact fr.at (h_nm (h_ne (hF 10 (by decide)) h0 (fun h => by cases h)) h_n0) (hF 10 (by decide))
            | 11, _ => exact fr.at (h_nm (h_ne (hF 11 (by decide)) h0 (fun h => by cases h)) h_n0) (hF 11 (by decide))
            | 12, _ => exact fr.at (h_nm (h_ne (hF 12 (by decide)) h0 (fun h => by cases h)) h_n0) (hF 12 (by decide))
            | 13, _ => exact fr.at (h_nm (h_ne (hF 13 (by decide)) h0 (fun h => by cases h)) h_n0) (hF 13 (by decide))
            | 14, _ => exact fr.at (h_nm (h_ne (hF 14 (by decide)) h0 (fun h => by cases h)) h_n0) (hF 14 (by decide))
            | 15, _ => exact fr.at (h_nm (h_ne (hF 15 (by decide)) h0 (fun h => by cases h)) h_n0) (hF 15 (by decide))
            | 16, _ => exact fr.at (h_nm (h_ne (hF 16 (by decide)) h0 (fun h => by cases h)) h_n0) (hF 16 (by decide))
            | 17, _ => exact fr.at (h_nm (h_ne (hF 17 (by decide)) h0 (fun h => by cases h)) h_n0) (hF 17 (by decide))
            | i + 18, h => omega
          have hrep : repM cI g_2 mm q (o_conflict (nI i) w S).1 (o_conflict (nI i) w S).2.2 := by rw [eop]; exact ⟨hq, hok, v3, v4, v14, v16, v17, v23, F, rm_, hF2, hR_, hA_, hB_, hH_, hC_, hZ_, hV_, hL_⟩
          have fr9 : hfr g g_2 (mS mm q) := fr.mono (by simp)
          exact hend _ _ _ _ _ _ _ _ (by decide) (by decide) rfl (⟨fr9, hrep, fun h9 => by rw [eop] at h9 ⊢; cases h9⟩) hg hS dMM_conflict_35
      · skip
        exact absurd hr_ (by decide)
    · skip
      have c_10 : ¬ (S.2.2.2.1.length ≤ i) := fun h => c_10 ((nI_leI (by omega) (by omega)).mpr h)
      have e_1 : ix (nI i) S.2.2.2.1.length = some i := ix_some (by omega) (by omega)
      refine lv_iload_n S0.1 S0.2.1 dMM_conflict_13 rfl (lv_at hl 2 rfl) ?_
      refine lv_if_lt (tgt := 22) S0.1 S0.2.1 dMM_conflict_14 (by decide) (fun c_14 => ?_) (fun c_14 => ?_)
      · skip
        have e_2 : ix w 3 = none := ix_neg c_14
        refine lv_iconst (v := nI 1) S0.1 S0.2.1 dMM_conflict_22 (by decide) ?_
        refine lv_goto (tgt := 27) S0.1 S0.2.1 dMM_conflict_23 (by decide) ?_
        refine lv_iconst (v := nI 0) S0.1 S0.2.1 dMM_conflict_27 (by decide) ?_
        refine hw_Vi (As := [.int (nI 1), .int (nI 0)]) (rest := []) S0 hK hg hS hA0 h0 rfl (c_MM_refuse l D cI cR cJ g _ mm q hq (nI t) v3 v4 (nI S.2.1.length) (nI S.2.2.1.length) v14 v16 v17 (nI S.2.2.2.1.length) v23 (nI S.2.2.2.2.1.length) 1 0 (by decide) (by decide) h0) kMM_refuse lm_MM_72 (hR.call rfl) rfl hl.1 rfl (Nat.le_of_ble_eq_true rfl) dMM_conflict_28 (hR.new (by decide) (by decide)) (fun r_28 g_3 H locs hp_28 hg hS => ?_)
        obtain ⟨frr, rm_, hp_28⟩ := hp_28
        have rm_ : g_3 mm = some (mmC q (nI 1) v3 v4 (nI S.2.1.length) (nI S.2.2.1.length) v14 v16 v17 (nI S.2.2.2.1.length) v23 (nI S.2.2.2.2.1.length)) := rm_
        have k3_0 := frr.at (h_nm (h_ne hconflict h0 (fun h => by cases h)) h_n0) hconflict
        have fr := fr.call frr (by simp)
        rcases hp_28 with ⟨ho, hr_⟩ | ⟨ho, hr_⟩
        · skip
          subst ho
          refine lv_if_eq (tgt := 36) S0.1 S0.2.1 dMM_conflict_31 (by decide) (fun c_31 => ?_) (fun c_31 => ?_)
          · skip
            rw [← nI_0] at c_31
            have c_31 : 1 = 0 := (nI_eq (by omega) (by omega)).mp c_31
            exact absurd c_31 (by decide)
          · skip
            rw [← nI_0] at c_31
            have c_31 : ¬ (1 = 0) := fun h => c_31 ((nI_eq (by omega) (by omega)).mpr h)
            refine lv_iconst (v := nI 0) S0.1 S0.2.1 dMM_conflict_34 (by decide) ?_
            have eop : o_conflict (nI i) w S = (1, 0, S) := by unfold o_conflict; first | (rw [e_1]; done) | (rw [e_1, e_2]; done) | (rw [e_2]; cases ix _ _ <;> rfl)
            have hF2 : ∀ i, i < 18 → g_3 (q i) = some (.inl (cI, mSz i, .inl (F i))) := by
              intro i hi
              match i, hi with
              | 0, _ => exact fr.at (h_nm (h_ne (hF 0 (by decide)) h0 (fun h => by cases h)) h_n0) (hF 0 (by decide))
              | 1, _ => exact fr.at (h_nm (h_ne (hF 1 (by decide)) h0 (fun h => by cases h)) h_n0) (hF 1 (by decide))
              | 2, _ => exact fr.at (h_nm (h_ne (hF 2 (by decide)) h0 (fun h => by cases h)) h_n0) (hF 2 (by decide))
              | 3, _ => exact fr.at (h_nm (h_ne (hF 3 (by decide)) h0 (fun h => by cases h)) h_n0) (hF 3 (by decide))
              | 4, _ => exact fr.at (h_nm (h_ne (hF 4 (by decide)) h0 (fun h => by cases h)) h_n0) (hF 4 (by decide))
              | 5, _ => exact fr.at (h_nm (h_ne (hF 5 (by decide)) h0 (fun h => by cases h)) h_n0) (hF 5 (by decide))
              | 6, _ => exact fr.at (h_nm (h_ne (hF 6 (by decide)) h0 (fun h => by cases h)) h_n0) (hF 6 (by decide))
              | 7, _ => exact fr.at (h_nm (h_ne (hF 7 (by decide)) h0 (fun h => by cases h)) h_n0) (hF 7 (by decide))
              | 8, _ => exact fr.at (h_nm (h_ne (hF 8 (by decide)) h0 (fun h => by cases h)) h_n0) (hF 8 (by decide))
              | 9, _ => exact fr.at (h_nm (h_ne (hF 9 (by decide)) h0 (fun h => by cases h)) h_n0) (hF 9 (by decide))
              | 10, _ => exact fr.at (h_nm (h_ne (hF 10 (by decide)) h0 (fun h => by cases h)) h_n0) (hF 10 (by decide))
              | 11, _ => exact fr.at (h_nm (h_ne (hF 11 (by decide)) h0 (fun h => by cases h)) h_n0) (hF 11 (by decide))
              | 12, _ => exact fr.at (h_nm (h_ne (hF 12 (by decide)) h0 (fun h => by cases h)) h_n0) (hF 12 (by decide))
              | 13, _ => exact fr.at (h_nm (h_ne (hF 13 (by decide)) h0 (fun h => by cases h)) h_n0) (hF 13 (by decide))
              | 14, _ => exact fr.at (h_nm (h_ne (hF 14 (by decide)) h0 (fun h => by cases h)) h_n0) (hF 14 (by decide))
              | 15, _ => exact fr.at (h_nm (h_ne (hF 15 (by decide)) h0 (fun h => by cases h)) h_n0) (hF 15 (by decide))
              | 16, _ => exact fr.at (h_nm (h_ne (hF 16 (by decide)) h0 (fun h => by cases h)) h_n0) (hF 16 (by decide))
              | 17, _ => exact fr.at (h_nm (h_ne (hF 17 (by decide)) h0 (fun h => by cases h)) h_n0) (hF 17 (by decide))
              | i + 18, h => omega
            have hrep : repM cI g_3 mm q (o_conflict (nI i) w S).1 (o_conflict (nI i) w S).2.2 := by rw [eop]; exact ⟨hq, hok, v3, v4, v14, v16, v17, v23, F, rm_, hF2, hR_, hA_, hB_, hH_, hC_, hZ_, hV_, hL_⟩
            have fr9 : hfr g g_3 (mS mm q) := fr.mono (by simp)
            exact hend _ _ _ _ _ _ _ _ (by decide) (by decide) rfl (⟨fr9, hrep, fun h9 => by rw [eop] at h9 ⊢; cases h9⟩) hg hS dMM_conflict_35
        · skip
          exact absurd hr_ (by decide)
      · skip
        obtain ⟨j, hj, rfl⟩ := nI_of c_14
        refine lv_iload_n S0.1 S0.2.1 dMM_conflict_17 rfl (lv_at hl 2 rfl) ?_
        refine lv_iconst (v := nI 2) S0.1 S0.2.1 dMM_conflict_18 (by decide) ?_
        refine lv_icmp_le (tgt := 26) S0.1 S0.2.1 dMM_conflict_19 (by decide) (fun c_19 => ?_) (fun c_19 => ?_)
        · skip
          have c_19 : j ≤ 2 := (nI_leI (by omega) (by omega)).mp c_19
          have e_2 : ix (nI j) 3 = some j := ix_some (by omega) (by decide)
          refine lv_iconst (v := nI 0) S0.1 S0.2.1 dMM_conflict_26 (by decide) ?_
          refine lv_iconst (v := nI 0) S0.1 S0.2.1 dMM_conflict_27 (by decide) ?_
          refine hw_Vi (As := [.int (nI 0), .int (nI 0)]) (rest := []) S0 hK hg hS hA0 h0 rfl (c_MM_refuse l D cI cR cJ g _ mm q hq (nI t) v3 v4 (nI S.2.1.length) (nI S.2.2.1.length) v14 v16 v17 (nI S.2.2.2.1.length) v23 (nI S.2.2.2.2.1.length) 0 0 (by decide) (by decide) h0) kMM_refuse lm_MM_72 (hR.call rfl) rfl hl.1 rfl (Nat.le_of_ble_eq_true rfl) dMM_conflict_28 (hR.new (by decide) (by decide)) (fun r_28 g_4 H locs hp_28 hg hS => ?_)
          obtain ⟨frr, rm_, hp_28⟩ := hp_28
          have rm_ : g_4 mm = some (mmC q (nI 0) v3 v4 (nI S.2.1.length) (nI S.2.2.1.length) v14 v16 v17 (nI S.2.2.2.1.length) v23 (nI S.2.2.2.2.1.length)) := rm_
          have k4_0 := frr.at (h_nm (h_ne hconflict h0 (fun h => by cases h)) h_n0) hconflict
          have fr := fr.call frr (by simp)
          rcases hp_28 with ⟨ho, hr_⟩ | ⟨ho, hr_⟩
          · skip
            exact absurd hr_ (by decide)
          · skip
            subst ho
            refine lv_if_eq (tgt := 36) S0.1 S0.2.1 dMM_conflict_31 (by decide) (fun c_31 => ?_) (fun c_31 => ?_)
            · skip
              rw [← nI_0] at c_31
              have c_31 : 0 = 0 := (nI_eq (by omega) (by omega)).mp c_31
              refine lv_aload_n S0.1 S0.2.1 dMM_conflict_36 rfl (lv_at hl 0 rfl) ?_
              refine hw_get S0 hK hg rm_ rfl inMM 22 (by decide) lf_MM_49 rfl rfl dMM_conflict_37 ?_
              refine lv_iconst (v := nI 3) S0.1 S0.2.1 dMM_conflict_40 (by decide) ?_
              refine lv_iload_n S0.1 S0.2.1 dMM_conflict_41 rfl (lv_at hl 1 rfl) ?_
              refine lv_imul S0.1 S0.2.1 dMM_conflict_42 ?_
              refine hw_top (nI (3 * i)) (pk_mul _ _) ?_
              refine lv_iload_n S0.1 S0.2.1 dMM_conflict_43 rfl (lv_at hl 2 rfl) ?_
              refine lv_iadd S0.1 S0.2.1 dMM_conflict_44 ?_
              refine hw_top (nI ((3 * i) + j)) (nI_add _ _) ?_
              refine hw_iald S0 hK hg k4_0 0 rfl (by omega) (by omega) dMM_conflict_45 ?_
              have eop : o_conflict (nI i) (nI j) S = (0, nI ((fl3 S.2.2.2.1).getD (3 * i + j) 0), S) := by unfold o_conflict; rw [e_1, e_2]
              have hF2 : ∀ i, i < 18 → g_4 (q i) = some (.inl (cI, mSz i, .inl (F i))) := by
                intro i hi
                match i, hi with
                | 0, _ => exact fr.at (h_nm (h_ne (hF 0 (by decide)) h0 (fun h => by cases h)) h_n0) (hF 0 (by decide))
                | 1, _ => exact fr.at (h_nm (h_ne (hF 1 (by decide)) h0 (fun h => by cases h)) h_n0) (hF 1 (by decide))
                | 2, _ => exact fr.at (h_nm (h_ne (hF 2 (by decide)) h0 (fun h => by cases h)) h_n0) (hF 2 (by decide))
                | 3, _ => exact fr.at (h_nm (h_ne (hF 3 (by decide)) h0 (fun h => by cases h)) h_n0) (hF 3 (by decide))
                | 4, _ => exact fr.at (h_nm (h_ne (hF 4 (by decide)) h0 (fun h => by cases h)) h_n0) (hF 4 (by decide))
                | 5, _ => exact fr.at (h_nm (h_ne (hF 5 (by decide)) h0 (fun h => by cases h)) h_n0) (hF 5 (by decide))
                | 6, _ => exact fr.at (h_nm (h_ne (hF 6 (by decide)) h0 (fun h => by cases h)) h_n0) (hF 6 (by decide))
                | 7, _ => exact fr.at (h_nm (h_ne (hF 7 (by decide)) h0 (fun h => by cases h)) h_n0) (hF 7 (by decide))
                | 8, _ => exact fr.at (h_nm (h_ne (hF 8 (by decide)) h0 (fun h => by cases h)) h_n0) (hF 8 (by decide))
                | 9, _ => exact fr.at (h_nm (h_ne (hF 9 (by decide)) h0 (fun h => by cases h)) h_n0) (hF 9 (by decide))
                | 10, _ => exact fr.at (h_nm (h_ne (hF 10 (by decide)) h0 (fun h => by cases h)) h_n0) (hF 10 (by decide))
                | 11, _ => exact fr.at (h_nm (h_ne (hF 11 (by decide)) h0 (fun h => by cases h)) h_n0) (hF 11 (by decide))
                | 12, _ => exact fr.at (h_nm (h_ne (hF 12 (by decide)) h0 (fun h => by cases h)) h_n0) (hF 12 (by decide))
                | 13, _ => exact fr.at (h_nm (h_ne (hF 13 (by decide)) h0 (fun h => by cases h)) h_n0) (hF 13 (by decide))
                | 14, _ => exact fr.at (h_nm (h_ne (hF 14 (by decide)) h0 (fun h => by cases h)) h_n0) (hF 14 (by decide))
                | 15, _ => exact fr.at (h_nm (h_ne (hF 15 (by decide)) h0 (fun h => by cases h)) h_n0) (hF 15 (by decide))
                | 16, _ => exact fr.at (h_nm (h_ne (hF 16 (by decide)) h0 (fun h => by cases h)) h_n0) (hF 16 (by decide))
                | 17, _ => exact fr.at (h_nm (h_ne (hF 17 (by decide)) h0 (fun h => by cases h)) h_n0) (hF 17 (by decide))
                | i + 18, h => omega
              have hrep : repM cI g_4 mm q (o_conflict (nI i) (nI j) S).1 (o_conflict (nI i) (nI j) S).2.2 := by rw [eop]; exact ⟨hq, hok, v3, v4, v14, v16, v17, v23, F, rm_, hF2, hR_, hA_, hB_, hH_, hC_, hZ_, hV_, hL_⟩
              have fr9 : hfr g g_4 (mS mm q) := fr.mono (by simp)
              exact hend _ _ _ _ _ _ _ _ (by decide) (by decide) rfl (⟨fr9, hrep, fun h9 => by rw [eop] at h9 ⊢; exact hC_ _ (by rw [fl3_len]; omega)⟩) hg hS dMM_conflict_46
            · skip
              rw [← nI_0] at c_31
              have c_31 : ¬ (0 = 0) := fun h => c_31 ((nI_eq (by omega) (by omega)).mpr h)
              exact absurd c_31 (by decide)
        · skip
          have c_19 : ¬ (j ≤ 2) := fun h => c_19 ((nI_leI (by omega) (by omega)).mpr h)
          have e_2 : ix (nI j) 3 = none := ix_ge (by omega) hj
          refine lv_iconst (v := nI 1) S0.1 S0.2.1 dMM_conflict_22 (by decide) ?_
          refine lv_goto (tgt := 27) S0.1 S0.2.1 dMM_conflict_23 (by decide) ?_
          refine lv_iconst (v := nI 0) S0.1 S0.2.1 dMM_conflict_27 (by decide) ?_
          refine hw_Vi (As := [.int (nI 1), .int (nI 0)]) (rest := []) S0 hK hg hS hA0 h0 rfl (c_MM_refuse l D cI cR cJ g _ mm q hq (nI t) v3 v4 (nI S.2.1.length) (nI S.2.2.1.length) v14 v16 v17 (nI S.2.2.2.1.length) v23 (nI S.2.2.2.2.1.length) 1 0 (by decide) (by decide) h0) kMM_refuse lm_MM_72 (hR.call rfl) rfl hl.1 rfl (Nat.le_of_ble_eq_true rfl) dMM_conflict_28 (hR.new (by decide) (by decide)) (fun r_28 g_5 H locs hp_28 hg hS => ?_)
          obtain ⟨frr, rm_, hp_28⟩ := hp_28
          have rm_ : g_5 mm = some (mmC q (nI 1) v3 v4 (nI S.2.1.length) (nI S.2.2.1.length) v14 v16 v17 (nI S.2.2.2.1.length) v23 (nI S.2.2.2.2.1.length)) := rm_
          have k5_0 := frr.at (h_nm (h_ne hconflict h0 (fun h => by cases h)) h_n0) hconflict
          have fr := fr.call frr (by simp)
          rcases hp_28 with ⟨ho, hr_⟩ | ⟨ho, hr_⟩
          · skip
            subst ho
            refine lv_if_eq (tgt := 36) S0.1 S0.2.1 dMM_conflict_31 (by decide) (fun c_31 => ?_) (fun c_31 => ?_)
            · skip
              rw [← nI_0] at c_31
              have c_31 : 1 = 0 := (nI_eq (by omega) (by omega)).mp c_31
              exact absurd c_31 (by decide)
            · skip
              rw [← nI_0] at c_31
              have c_31 : ¬ (1 = 0) := fun h => c_31 ((nI_eq (by omega) (by omega)).mpr h)
              refine lv_iconst (v := nI 0) S0.1 S0.2.1 dMM_conflict_34 (by decide) ?_
              have eop : o_conflict (nI i) (nI j) S = (1, 0, S) := by unfold o_conflict; first | (rw [e_1]; done) | (rw [e_1, e_2]; done) | (rw [e_2]; cases ix _ _ <;> rfl)
              have hF2 : ∀ i, i < 18 → g_5 (q i) = some (.inl (cI, mSz i, .inl (F i))) := by
                intro i hi
                match i, hi with
                | 0, _ => exact fr.at (h_nm (h_ne (hF 0 (by decide)) h0 (fun h => by cases h)) h_n0) (hF 0 (by decide))
                | 1, _ => exact fr.at (h_nm (h_ne (hF 1 (by decide)) h0 (fun h => by cases h)) h_n0) (hF 1 (by decide))
                | 2, _ => exact fr.at (h_nm (h_ne (hF 2 (by decide)) h0 (fun h => by cases h)) h_n0) (hF 2 (by decide))
                | 3, _ => exact fr.at (h_nm (h_ne (hF 3 (by decide)) h0 (fun h => by cases h)) h_n0) (hF 3 (by decide))
                | 4, _ => exact fr.at (h_nm (h_ne (hF 4 (by decide)) h0 (fun h => by cases h)) h_n0) (hF 4 (by decide))
                | 5, _ => exact fr.at (h_nm (h_ne (hF 5 (by decide)) h0 (fun h => by cases h)) h_n0) (hF 5 (by decide))
                | 6, _ => exact fr.at (h_nm (h_ne (hF 6 (by decide)) h0 (fun h => by cases h)) h_n0) (hF 6 (by decide))
                | 7, _ => exact fr.at (h_nm (h_ne (hF 7 (by decide)) h0 (fun h => by cases h)) h_n0) (hF 7 (by decide))
                | 8, _ => exact fr.at (h_nm (h_ne (hF 8 (by decide)) h0 (fun h => by cases h)) h_n0) (hF 8 (by decide))
                | 9, _ => exact fr.at (h_nm (h_ne (hF 9 (by decide)) h0 (fun h => by cases h)) h_n0) (hF 9 (by decide))
                | 10, _ => exact fr.at (h_nm (h_ne (hF 10 (by decide)) h0 (fun h => by cases h)) h_n0) (hF 10 (by decide))
                | 11, _ => exact fr.at (h_nm (h_ne (hF 11 (by decide)) h0 (fun h => by cases h)) h_n0) (hF 11 (by decide))
                | 12, _ => exact fr.at (h_nm (h_ne (hF 12 (by decide)) h0 (fun h => by cases h)) h_n0) (hF 12 (by decide))
                | 13, _ => exact fr.at (h_nm (h_ne (hF 13 (by decide)) h0 (fun h => by cases h)) h_n0) (hF 13 (by decide))
                | 14, _ => exact fr.at (h_nm (h_ne (hF 14 (by decide)) h0 (fun h => by cases h)) h_n0) (hF 14 (by decide))
                | 15, _ => exact fr.at (h_nm (h_ne (hF 15 (by decide)) h0 (fun h => by cases h)) h_n0) (hF 15 (by decide))
                | 16, _ => exact fr.at (h_nm (h_ne (hF 16 (by decide)) h0 (fun h => by cases h)) h_n0) (hF 16 (by decide))
                | 17, _ => exact fr.at (h_nm (h_ne (hF 17 (by decide)) h0 (fun h => by cases h)) h_n0) (hF 17 (by decide))
                | i + 18, h => omega
              have hrep : repM cI g_5 mm q (o_conflict (nI i) (nI j) S).1 (o_conflict (nI i) (nI j) S).2.2 := by rw [eop]; exact ⟨hq, hok, v3, v4, v14, v16, v17, v23, F, rm_, hF2, hR_, hA_, hB_, hH_, hC_, hZ_, hV_, hL_⟩
              have fr9 : hfr g g_5 (mS mm q) := fr.mono (by simp)
              exact hend _ _ _ _ _ _ _ _ (by decide) (by decide) rfl (⟨fr9, hrep, fun h9 => by rw [eop] at h9 ⊢; cases h9⟩) hg hS dMM_conflict_35
          · skip
            exact absurd hr_ (by decide)
set_option maxRecDepth 100000 in
set_option maxHeartbeats 4000000 in
theorem c_MM_origin (l : Launch) (D : va_G) (cI cR cJ : ClassId) (g : Nat → Option va_E) (sz : Nat) (mm : Nat) (q : Nat → Nat) (t : Nat) (S : ST) (v k : Int32) (HM : repM cI g mm q t S) : hMi l yMM_origin cMM_origin 4 .int (hRm 1 24 0 0) D (hT cI cR cJ) g sz [.ref mm, .int v, .int k] (fun o g1 => hfr g g1 (mS mm q) ∧ repM cI g1 mm q (o_origin v k S).1 (o_origin v k S).2.2 ∧ ((o_origin v k S).1 = 0 → o = (o_origin v k S).2.1)) := by
  refine hMi_of (by decide +kernel) (Nat.le_of_ble_eq_true rfl) ?_
  intro pX eX RX sX mX argsX belowX methX cX QX AX hR S0 hnm hsz hg hK hS hA0 hend ls hl
  have hl : lv_has ls 4 [(0, .ref mm), (1, .int v), (2, .int k)] := hl
  obtain ⟨hq, hok, v3, v4, v14, v16, v17, v23, F, h0, hF, hR_, hA_, hB_, hH_, hC_, hZ_, hV_, hL_⟩ := HM
  have hversionSizes : g (q 15) = some (.inl (cI, 30, .inl (F 15))) := hF 15 (by decide)
  have horigins : g (q 17) = some (.inl (cI, 1800, .inl (F 17))) := hF 17 (by decide)
  have fr : hfr g g [mm] := hfr.rf
  obtain ⟨w1, w2, w3, w4, w5⟩ := hok.2.2.2.2
  refine lv_iload_n S0.1 S0.2.1 dMM_origin_0 rfl (lv_at hl 1 rfl) ?_
  refine lv_if_lt (tgt := 16) S0.1 S0.2.1 dMM_origin_1 (by decide) (fun c_1 => ?_) (fun c_1 => ?_)
  · skip
    have e_1 : ix v S.2.2.2.2.1.length = none := ix_neg c_1
    refine lv_iconst (v := nI 0) S0.1 S0.2.1 dMM_origin_16 (by decide) ?_
    refine lv_istore_n (lv' := [(3, .int (nI 0)), (0, .ref mm), (1, .int v), (2, .int k)]) S0.1 S0.2.1 dMM_origin_17 rfl hl (by decide) rfl (fun ls hl => ?_)
    refine lv_aload_n S0.1 S0.2.1 dMM_origin_18 rfl (lv_at hl 1 rfl) ?_
    refine lv_iload_n S0.1 S0.2.1 dMM_origin_19 rfl (lv_at hl 0 rfl) ?_
    refine lv_if_ne (tgt := 27) S0.1 S0.2.1 dMM_origin_20 (by decide) (fun c_20 => ?_) (fun c_20 => ?_)
    · skip
      rw [← nI_0] at c_20
      have c_20 : ¬ (0 = 0) := fun h => c_20 ((nI_eq (by omega) (by omega)).mpr h)
      exact absurd c_20 (by decide)
    · skip
      rw [← nI_0] at c_20
      have c_20 : 0 = 0 := (nI_eq (by omega) (by omega)).mp c_20
      refine lv_iconst (v := nI 1) S0.1 S0.2.1 dMM_origin_23 (by decide) ?_
      refine lv_goto (tgt := 28) S0.1 S0.2.1 dMM_origin_24 (by decide) ?_
      refine lv_iload_n S0.1 S0.2.1 dMM_origin_28 rfl (lv_at hl 0 rfl) ?_
      refine lv_if_eq (tgt := 58) S0.1 S0.2.1 dMM_origin_29 (by decide) (fun c_29 => ?_) (fun c_29 => ?_)
      · skip
        rw [← nI_0] at c_29
        have c_29 : 0 = 0 := (nI_eq (by omega) (by omega)).mp c_29
        refine lv_iconst (v := nI 0) S0.1 S0.2.1 dMM_origin_58 (by decide) ?_
        refine hw_Vi (As := [.int (nI 1), .int (nI 0)]) (rest := []) S0 hK hg hS hA0 h0 rfl (c_MM_refuse l D cI cR cJ g _ mm q hq (nI t) v3 v4 (nI S.2.1.length) (nI S.2.2.1.length) v14 v16 v17 (nI S.2.2.2.1.length) v23 (nI S.2.2.2.2.1.length) 1 0 (by decide) (by decide) h0) kMM_refuse lm_MM_72 (hR.call rfl) rfl hl.1 rfl (Nat.le_of_ble_eq_true rfl) dMM_origin_59 (hR.new (by decide) (by decide)) (fun r_59 g_1 H locs hp_59 hg hS => ?_)
        obtain ⟨frr, rm_, hp_59⟩ := hp_59
        have rm_ : g_1 mm = some (mmC q (nI 1) v3 v4 (nI S.2.1.length) (nI S.2.2.1.length) v14 v16 v17 (nI S.2.2.2.1.length) v23 (nI S.2.2.2.2.1.length)) := rm_
        have k1_0 := frr.at (h_nm (h_ne hversionSizes h0 (fun h => by cases h)) h_n0) hversionSizes
        have k1_1 := frr.at (h_nm (h_ne horigins h0 (fun h => by cases h)) h_n0) horigins
        have fr := fr.call frr (by simp)
        rcases hp_59 with ⟨ho, hr_⟩ | ⟨ho, hr_⟩
        · skip
          subst ho
          refine lv_if_eq (tgt := 67) S0.1 S0.2.1 dMM_origin_62 (by decide) (fun c_62 => ?_) (fun c_62 => ?_)
          · skip
            rw [← nI_0] at c_62
            have c_62 : 1 = 0 := (nI_eq (by omega) (by omega)).mp c_62
            exact absurd c_62 (by decide)
          · skip
            rw [← nI_0] at c_62
            have c_62 : ¬ (1 = 0) := fun h => c_62 ((nI_eq (by omega) (by omega)).mpr h)
            refine lv_iconst (v := nI 0) S0.1 S0.2.1 dMM_origin_65 (by decide) ?_
            have hF2 : ∀ i, i < 18 → g_1 (q i) = some (.inl (cI, mSz i, .inl (F i))) := by
              intro i hi
              match i, hi with
              | 0, _ => exact fr.at (h_nm (h_ne (hF 0 (by decide)) h0 (fun h => by cases h)) h_n0) (hF 0 (by decide))
              | 1, _ => exact fr.at (h_nm (h_ne (hF 1 (by decide)) h0 (fun h => by cases h)) h_n0) (hF 1 (by decide))
              | 2, _ => exact fr.at (h_nm (h_ne (hF 2 (by decide)) h0 (fun h => by cases h)) h_n0) (hF 2 (by decide))
              | 3, _ => exact fr.at (h_nm (h_ne (hF 3 (by decide)) h0 (fun h => by cases h)) h_n0) (hF 3 (by decide))
              | 4, _ => exact fr.at (h_nm (h_ne (hF 4 (by decide)) h0 (fun h => by cases h)) h_n0) (hF 4 (by decide))
              | 5, _ => exact fr.at (h_nm (h_ne (hF 5 (by decide)) h0 (fun h => by cases h)) h_n0) (hF 5 (by decide))
              | 6, _ => exact fr.at (h_nm (h_ne (hF 6 (by decide)) h0 (fun h => by cases h)) h_n0) (hF 6 (by decide))
              | 7, _ => exact fr.at (h_nm (h_ne (hF 7 (by decide)) h0 (fun h => by cases h)) h_n0) (hF 7 (by decide))
              | 8, _ => exact fr.at (h_nm (h_ne (hF 8 (by decide)) h0 (fun h => by cases h)) h_n0) (hF 8 (by decide))
              | 9, _ => exact fr.at (h_nm (h_ne (hF 9 (by decide)) h0 (fun h => by cases h)) h_n0) (hF 9 (by decide))
              | 10, _ => exact fr.at (h_nm (h_ne (hF 10 (by decide)) h0 (fun h => by cases h)) h_n0) (hF 10 (by decide))
              | 11, _ => exact fr.at (h_nm (h_ne (hF 11 (by decide)) h0 (fun h => by cases h)) h_n0) (hF 11 (by decide))
              | 12, _ => exact fr.at (h_nm (h_ne (hF 12 (by decide)) h0 (fun h => by cases h)) h_n0) (hF 12 (by decide))
              | 13, _ => exact fr.at (h_nm (h_ne (hF 13 (by decide)) h0 (fun h => by cases h)) h_n0) (hF 13 (by decide))
              | 14, _ => exact fr.at (h_nm (h_ne (hF 14 (by decide)) h0 (fun h => by cases h)) h_n0) (hF 14 (by decide))
              | 15, _ => exact fr.at (h_nm (h_ne (hF 15 (by decide)) h0 (fun h => by cases h)) h_n0) (hF 15 (by decide))
              | 16, _ => exact fr.at (h_nm (h_ne (hF 16 (by decide)) h0 (fun h => by cases h)) h_n0) (hF 16 (by decide))
              | 17, _ => exact fr.at (h_nm (h_ne (hF 17 (by decide)) h0 (fun h => by cases h)) h_n0) (hF 17 (by decide))
              | i + 18, h => omega
            have hrep : repM cI g_1 mm q (o_origin v k S).1 (o_origin v k S).2.2 := by rw [show o_origin v k S = (1, 0, S) by simp only [o_origin, e_1]]; exact ⟨hq, hok, v3, v4, v14, v16, v17, v23, F, rm_, hF2, hR_, hA_, hB_, hH_, hC_, hZ_, hV_, hL_⟩
            have fr9 : hfr g g_1 (mS mm q) := fr.mono (by simp)
            exact hend _ _ _ _ _ _ _ _ (by decide) (by decide) rfl (⟨fr9, hrep, fun h9 => by rw [show o_origin v k S = (1, 0, S) by simp only [o_origin, e_1]] at h9 ⊢; cases h9⟩) hg hS dMM_origin_66
        · skip
          exact absurd hr_ (by decide)
      · skip
        rw [← nI_0] at c_29
        have c_29 : ¬ (0 = 0) := fun h => c_29 ((nI_eq (by omega) (by omega)).mpr h)
        exact absurd c_29 (by decide)
  · skip
    obtain ⟨i, hi, rfl⟩ := nI_of c_1
    refine lv_iload_n S0.1 S0.2.1 dMM_origin_4 rfl (lv_at hl 1 rfl) ?_
    refine lv_aload_n S0.1 S0.2.1 dMM_origin_5 rfl (lv_at hl 0 rfl) ?_
    refine hw_get S0 hK hg h0 rfl inMM 25 (by decide) lf_MM_152 rfl rfl dMM_origin_6 ?_
    refine lv_icmp_ge (tgt := 16) S0.1 S0.2.1 dMM_origin_9 (by decide) (fun c_9 => ?_) (fun c_9 => ?_)
    · skip
      have c_9 : S.2.2.2.2.1.length ≤ i := (nI_leI (by omega) (by omega)).mp c_9
      have e_1 : ix (nI i) S.2.2.2.2.1.length = none := ix_ge c_9 hi
      refine lv_iconst (v := nI 0) S0.1 S0.2.1 dMM_origin_16 (by decide) ?_
      refine lv_istore_n (lv' := [(3, .int (nI 0)), (0, .ref mm), (1, .int (nI i)), (2, .int k)]) S0.1 S0.2.1 dMM_origin_17 rfl hl (by decide) rfl (fun ls hl => ?_)
      refine lv_aload_n S0.1 S0.2.1 dMM_origin_18 rfl (lv_at hl 1 rfl) ?_
      refine lv_iload_n S0.1 S0.2.1 dMM_origin_19 rfl (lv_at hl 0 rfl) ?_
      refine lv_if_ne (tgt := 27) S0.1 S0.2.1 dMM_origin_20 (by decide) (fun c_20 => ?_) (fun c_20 => ?_)
      · skip
        rw [← nI_0] at c_20
        have c_20 : ¬ (0 = 0) := fun h => c_20 ((nI_eq (by omega) (by omega)).mpr h)
        exact absurd c_20 (by decide)
      · skip
        rw [← nI_0] at c_20
        have c_20 : 0 = 0 := (nI_eq (by omega) (by omega)).mp c_20
        refine lv_iconst (v := nI 1) S0.1 S0.2.1 dMM_origin_23 (by decide) ?_
        refine lv_goto (tgt := 28) S0.1 S0.2.1 dMM_origin_24 (by decide) ?_
        refine lv_iload_n S0.1 S0.2.1 dMM_origin_28 rfl (lv_at hl 0 rfl) ?_
        refine lv_if_eq (tgt := 58) S0.1 S0.2.1 dMM_origin_29 (by decide) (fun c_29 => ?_) (fun c_29 => ?_)
        · skip
          rw [← nI_0] at c_29
          have c_29 : 0 = 0 := (nI_eq (by omega) (by omega)).mp c_29
          refine lv_iconst (v := nI 0) S0.1 S0.2.1 dMM_origin_58 (by decide) ?_
          refine hw_Vi (As := [.int (nI 1), .int (nI 0)]) (rest := []) S0 hK hg hS hA0 h0 rfl (c_MM_refuse l D cI cR cJ g _ mm q hq (nI t) v3 v4 (nI S.2.1.length) (nI S.2.2.1.length) v14 v16 v17 (nI S.2.2.2.1.length) v23 (nI S.2.2.2.2.1.length) 1 0 (by decide) (by decide) h0) kMM_refuse lm_MM_72 (hR.call rfl) rfl hl.1 rfl (Nat.le_of_ble_eq_true rfl) dMM_origin_59 (hR.new (by decide) (by decide)) (fun r_59 g_2 H locs hp_59 hg hS => ?_)
          obtain ⟨frr, rm_, hp_59⟩ := hp_59
          have rm_ : g_2 mm = some (mmC q (nI 1) v3 v4 (nI S.2.1.length) (nI S.2.2.1.length) v14 v16 v17 (nI S.2.2.2.1.length) v23 (nI S.2.2.2.2.1.length)) := rm_
          have k2_0 := frr.at (h_nm (h_ne hversionSizes h0 (fun h => by cases h)) h_n0) hversionSizes
          have k2_1 := frr.at (h_nm (h_ne horigins h0 (fun h => by cases h)) h_n0) horigins
          have fr := fr.call frr (by simp)
          rcases hp_59 with ⟨ho, hr_⟩ | ⟨ho, hr_⟩
          · skip
            subst ho
            refine lv_if_eq (tgt := 67) S0.1 S0.2.1 dMM_origin_62 (by decide) (fun c_62 => ?_) (fun c_62 => ?_)
            · skip
              rw [← nI_0] at c_62
              have c_62 : 1 = 0 := (nI_eq (by omega) (by omega)).mp c_62
              exact absurd c_62 (by decide)
            · skip
              rw [← nI_0] at c_62
              have c_62 : ¬ (1 = 0) := fun h => c_62 ((nI_eq (by omega) (by omega)).mpr h)
              refine lv_iconst (v := nI 0) S0.1 S0.2.1 dMM_origin_65 (by decide) ?_
              have hF2 : ∀ i, i < 18 → g_2 (q i) = some (.inl (cI, mSz i, .inl (F i))) := by
                intro i hi
                match i, hi with
                | 0, _ => exact fr.at (h_nm (h_ne (hF 0 (by decide)) h0 (fun h => by cases h)) h_n0) (hF 0 (by decide))
                | 1, _ => exact fr.at (h_nm (h_ne (hF 1 (by decide)) h0 (fun h => by cases h)) h_n0) (hF 1 (by decide))
                | 2, _ => exact fr.at (h_nm (h_ne (hF 2 (by decide)) h0 (fun h => by cases h)) h_n0) (hF 2 (by decide))
                | 3, _ => exact fr.at (h_nm (h_ne (hF 3 (by decide)) h0 (fun h => by cases h)) h_n0) (hF 3 (by decide))
                | 4, _ => exact fr.at (h_nm (h_ne (hF 4 (by decide)) h0 (fun h => by cases h)) h_n0) (hF 4 (by decide))
                | 5, _ => exact fr.at (h_nm (h_ne (hF 5 (by decide)) h0 (fun h => by cases h)) h_n0) (hF 5 (by decide))
                | 6, _ => exact fr.at (h_nm (h_ne (hF 6 (by decide)) h0 (fun h => by cases h)) h_n0) (hF 6 (by decide))
                | 7, _ => exact fr.at (h_nm (h_ne (hF 7 (by decide)) h0 (fun h => by cases h)) h_n0) (hF 7 (by decide))
                | 8, _ => exact fr.at (h_nm (h_ne (hF 8 (by decide)) h0 (fun h => by cases h)) h_n0) (hF 8 (by decide))
                | 9, _ => exact fr.at (h_nm (h_ne (hF 9 (by decide)) h0 (fun h => by cases h)) h_n0) (hF 9 (by decide))
                | 10, _ => exact fr.at (h_nm (h_ne (hF 10 (by decide)) h0 (fun h => by cases h)) h_n0) (hF 10 (by decide))
                | 11, _ => exact fr.at (h_nm (h_ne (hF 11 (by decide)) h0 (fun h => by cases h)) h_n0) (hF 11 (by decide))
                | 12, _ => exact fr.at (h_nm (h_ne (hF 12 (by decide)) h0 (fun h => by cases h)) h_n0) (hF 12 (by decide))
                | 13, _ => exact fr.at (h_nm (h_ne (hF 13 (by decide)) h0 (fun h => by cases h)) h_n0) (hF 13 (by decide))
                | 14, _ => exact fr.at (h_nm (h_ne (hF 14 (by decide)) h0 (fun h => by cases h)) h_n0) (hF 14 (by decide))
                | 15, _ => exact fr.at (h_nm (h_ne (hF 15 (by decide)) h0 (fun h => by cases h)) h_n0) (hF 15 (by decide))
                | 16, _ => exact fr.at (h_nm (h_ne (hF 16 (by decide)) h0 (fun h => by cases h)) h_n0) (hF 16 (by decide))
                | 17, _ => exact fr.at (h_nm (h_ne (hF 17 (by decide)) h0 (fun h => by cases h)) h_n0) (hF 17 (by decide))
                | i + 18, h => omega
              have hrep : repM cI g_2 mm q (o_origin (nI i) k S).1 (o_origin (nI i) k S).2.2 := by rw [show o_origin (nI i) k S = (1, 0, S) by simp only [o_origin, e_1]]; exact ⟨hq, hok, v3, v4, v14, v16, v17, v23, F, rm_, hF2, hR_, hA_, hB_, hH_, hC_, hZ_, hV_, hL_⟩
              have fr9 : hfr g g_2 (mS mm q) := fr.mono (by simp)
              exact hend _ _ _ _ _ _ _ _ (by decide) (by decide) rfl (⟨fr9, hrep, fun h9 => by rw [show o_origin (nI i) k S = (1, 0, S) by simp only [o_origin, e_1]] at h9 ⊢; cases h9⟩) hg hS dMM_origin_66
          · skip
            exact absurd hr_ (by decide)
        · skip
          rw [← nI_0] at c_29
          have c_29 : ¬ (0 = 0) := fun h => c_29 ((nI_eq (by omega) (by omega)).mpr h)
          exact absurd c_29 (by decide)
    · skip
      have c_9 : ¬ (S.2.2.2.2.1.length ≤ i) := fun h => c_9 ((nI_leI (by omega) (by omega)).mpr h)
      have e_1 : ix (nI i) S.2.2.2.2.1.length = some i := ix_some (by omega) (by omega)
      have t1 := hZ_ i (by omega)
      have t2 := w3 i (by omega)
      refine lv_iconst (v := nI 1) S0.1 S0.2.1 dMM_origin_12 (by decide) ?_
      refine lv_goto (tgt := 17) S0.1 S0.2.1 dMM_origin_13 (by decide) ?_
      refine lv_istore_n (lv' := [(3, .int (nI 1)), (0, .ref mm), (1, .int (nI i)), (2, .int k)]) S0.1 S0.2.1 dMM_origin_17 rfl hl (by decide) rfl (fun ls hl => ?_)
      refine lv_aload_n S0.1 S0.2.1 dMM_origin_18 rfl (lv_at hl 1 rfl) ?_
      refine lv_iload_n S0.1 S0.2.1 dMM_origin_19 rfl (lv_at hl 0 rfl) ?_
      refine lv_if_ne (tgt := 27) S0.1 S0.2.1 dMM_origin_20 (by decide) (fun c_20 => ?_) (fun c_20 => ?_)
      · skip
        rw [← nI_0] at c_20
        have c_20 : ¬ (1 = 0) := fun h => c_20 ((nI_eq (by omega) (by omega)).mpr h)
        refine lv_iconst (v := nI 0) S0.1 S0.2.1 dMM_origin_27 (by decide) ?_
        refine lv_iload_n S0.1 S0.2.1 dMM_origin_28 rfl (lv_at hl 0 rfl) ?_
        refine lv_if_eq (tgt := 58) S0.1 S0.2.1 dMM_origin_29 (by decide) (fun c_29 => ?_) (fun c_29 => ?_)
        · skip
          rw [← nI_0] at c_29
          have c_29 : 1 = 0 := (nI_eq (by omega) (by omega)).mp c_29
          exact absurd c_29 (by decide)
        · skip
          rw [← nI_0] at c_29
          have c_29 : ¬ (1 = 0) := fun h => c_29 ((nI_eq (by omega) (by omega)).mpr h)
          refine lv_iload_n S0.1 S0.2.1 dMM_origin_32 rfl (lv_at hl 3 rfl) ?_
          refine lv_if_lt (tgt := 54) S0.1 S0.2.1 dMM_origin_33 (by decide) (fun c_33 => ?_) (fun c_33 => ?_)
          · skip
            have e_2 : ix k (S.2.2.2.2.1.getD i []).length = none := ix_neg c_33
            refine lv_iconst (v := nI 1) S0.1 S0.2.1 dMM_origin_54 (by decide) ?_
            refine lv_goto (tgt := 59) S0.1 S0.2.1 dMM_origin_55 (by decide) ?_
            refine hw_Vi (As := [.int (nI 0), .int (nI 1)]) (rest := []) S0 hK hg hS hA0 h0 rfl (c_MM_refuse l D cI cR cJ g _ mm q hq (nI t) v3 v4 (nI S.2.1.length) (nI S.2.2.1.length) v14 v16 v17 (nI S.2.2.2.1.length) v23 (nI S.2.2.2.2.1.length) 0 1 (by decide) (by decide) h0) kMM_refuse lm_MM_72 (hR.call rfl) rfl hl.1 rfl (Nat.le_of_ble_eq_true rfl) dMM_origin_59 (hR.new (by decide) (by decide)) (fun r_59 g_3 H locs hp_59 hg hS => ?_)
            obtain ⟨frr, rm_, hp_59⟩ := hp_59
            have rm_ : g_3 mm = some (mmC q (nI 2) v3 v4 (nI S.2.1.length) (nI S.2.2.1.length) v14 v16 v17 (nI S.2.2.2.1.length) v23 (nI S.2.2.2.2.1.length)) := rm_
            have k3_0 := frr.at (h_nm (h_ne hversionSizes h0 (fun h => by cases h)) h_n0) hversionSizes
            have k3_1 := frr.at (h_nm (h_ne horigins h0 (fun h => by cases h)) h_n0) horigins
            have fr := fr.call frr (by simp)
            rcases hp_59 with ⟨ho, hr_⟩ | ⟨ho, hr_⟩
            · skip
              subst ho
              refine lv_if_eq (tgt := 67) S0.1 S0.2.1 dMM_origin_62 (by decide) (fun c_62 => ?_) (fun c_62 => ?_)
              · skip
                rw [← nI_0] at c_62
                have c_62 : 1 = 0 := (nI_eq (by omega) (by omega)).mp c_62
                exact absurd c_62 (by decide)
              · skip
                rw [← nI_0] at c_62
                have c_62 : ¬ (1 = 0) := fun h => c_62 ((nI_eq (by omega) (by omega)).mpr h)
                refine lv_iconst (v := nI 0) S0.1 S0.2.1 dMM_origin_65 (by decide) ?_
                have hF2 : ∀ i, i < 18 → g_3 (q i) = some (.inl (cI, mSz i, .inl (F i))) := by
                  intro i hi
                  match i, hi with
                  | 0, _ => exact fr.at (h_nm (h_ne (hF 0 (by decide)) h0 (fun h => by cases h)) h_n0) (hF 0 (by decide))
                  | 1, _ => exact fr.at (h_nm (h_ne (hF 1 (by decide)) h0 (fun h => by cases h)) h_n0) (hF 1 (by decide))
                  | 2, _ => exact fr.at (h_nm (h_ne (hF 2 (by decide)) h0 (fun h => by cases h)) h_n0) (hF 2 (by decide))
                  | 3, _ => exact fr.at (h_nm (h_ne (hF 3 (by decide)) h0 (fun h => by cases h)) h_n0) (hF 3 (by decide))
                  | 4, _ => exact fr.at (h_nm (h_ne (hF 4 (by decide)) h0 (fun h => by cases h)) h_n0) (hF 4 (by decide))
                  | 5, _ => exact fr.at (h_nm (h_ne (hF 5 (by decide)) h0 (fun h => by cases h)) h_n0) (hF 5 (by decide))
                  | 6, _ => exact fr.at (h_nm (h_ne (hF 6 (by decide)) h0 (fun h => by cases h)) h_n0) (hF 6 (by decide))
                  | 7, _ => exact fr.at (h_nm (h_ne (hF 7 (by decide)) h0 (fun h => by cases h)) h_n0) (hF 7 (by decide))
                  | 8, _ => exact fr.at (h_nm (h_ne (hF 8 (by decide)) h0 (fun h => by cases h)) h_n0) (hF 8 (by decide))
                  | 9, _ => exact fr.at (h_nm (h_ne (hF 9 (by decide)) h0 (fun h => by cases h)) h_n0) (hF 9 (by decide))
                  | 10, _ => exact fr.at (h_nm (h_ne (hF 10 (by decide)) h0 (fun h => by cases h)) h_n0) (hF 10 (by decide))
                  | 11, _ => exact fr.at (h_nm (h_ne (hF 11 (by decide)) h0 (fun h => by cases h)) h_n0) (hF 11 (by decide))
                  | 12, _ => exact fr.at (h_nm (h_ne (hF 12 (by decide)) h0 (fun h => by cases h)) h_n0) (hF 12 (by decide))
                  | 13, _ => exact fr.at (h_nm (h_ne (hF 13 (by decide)) h0 (fun h => by cases h)) h_n0) (hF 13 (by decide))
                  | 14, _ => exact fr.at (h_nm (h_ne (hF 14 (by decide)) h0 (fun h => by cases h)) h_n0) (hF 14 (by decide))
                  | 15, _ => exact fr.at (h_nm (h_ne (hF 15 (by decide)) h0 (fun h => by cases h)) h_n0) (hF 15 (by decide))
                  | 16, _ => exact fr.at (h_nm (h_ne (hF 16 (by decide)) h0 (fun h => by cases h)) h_n0) (hF 16 (by decide))
                  | 17, _ => exact fr.at (h_nm (h_ne (hF 17 (by decide)) h0 (fun h => by cases h)) h_n0) (hF 17 (by decide))
                  | i + 18, h => omega
                have hrep : repM cI g_3 mm q (o_origin (nI i) k S).1 (o_origin (nI i) k S).2.2 := by rw [show o_origin (nI i) k S = (2, 0, S) by simp only [o_origin, e_1, e_2]]; exact ⟨hq, hok, v3, v4, v14, v16, v17, v23, F, rm_, hF2, hR_, hA_, hB_, hH_, hC_, hZ_, hV_, hL_⟩
                have fr9 : hfr g g_3 (mS mm q) := fr.mono (by simp)
                exact hend _ _ _ _ _ _ _ _ (by decide) (by decide) rfl (⟨fr9, hrep, fun h9 => by rw [show o_origin (nI i) k S = (2, 0, S) by simp only [o_origin, e_1, e_2]] at h9 ⊢; cases h9⟩) hg hS dMM_origin_66
            · skip
              exact absurd hr_ (by decide)
          · skip
            obtain ⟨j, hj, rfl⟩ := nI_of c_33
            refine lv_iload_n S0.1 S0.2.1 dMM_origin_36 rfl (lv_at hl 3 rfl) ?_
            refine lv_aload_n S0.1 S0.2.1 dMM_origin_37 rfl (lv_at hl 1 rfl) ?_
            refine hw_get S0 hK hg h0 rfl inMM 26 (by decide) lf_MM_55 rfl rfl dMM_origin_38 ?_
            refine lv_iload_n S0.1 S0.2.1 dMM_origin_41 rfl (lv_at hl 0 rfl) ?_
            refine lv_if_eq (tgt := 49) S0.1 S0.2.1 dMM_origin_42 (by decide) (fun c_42 => ?_) (fun c_42 => ?_)
            · skip
              rw [← nI_0] at c_42
              have c_42 : 1 = 0 := (nI_eq (by omega) (by omega)).mp c_42
              exact absurd c_42 (by decide)
            · skip
              rw [← nI_0] at c_42
              have c_42 : ¬ (1 = 0) := fun h => c_42 ((nI_eq (by omega) (by omega)).mpr h)
              refine lv_iload_n S0.1 S0.2.1 dMM_origin_45 rfl (lv_at hl 2 rfl) ?_
              refine lv_goto (tgt := 50) S0.1 S0.2.1 dMM_origin_46 (by decide) ?_
              refine hw_iald S0 hK hg hversionSizes 0 rfl (by omega) (by omega) dMM_origin_50 ?_
              refine hw_top (nI ((S.2.2.2.2.1.getD i []).length)) t1 ?_
              refine lv_icmp_lt (tgt := 58) S0.1 S0.2.1 dMM_origin_51 (by decide) (fun c_51 => ?_) (fun c_51 => ?_)
              · skip
                have c_51 : j < ((S.2.2.2.2.1.getD i []).length) := (nI_ltI (by omega) (by omega)).mp c_51
                have e_2 : ix (nI j) (S.2.2.2.2.1.getD i []).length = some j := ix_some c_51 (by omega)
                refine lv_iconst (v := nI 0) S0.1 S0.2.1 dMM_origin_58 (by decide) ?_
                refine hw_Vi (As := [.int (nI 0), .int (nI 0)]) (rest := []) S0 hK hg hS hA0 h0 rfl (c_MM_refuse l D cI cR cJ g _ mm q hq (nI t) v3 v4 (nI S.2.1.length) (nI S.2.2.1.length) v14 v16 v17 (nI S.2.2.2.1.length) v23 (nI S.2.2.2.2.1.length) 0 0 (by decide) (by decide) h0) kMM_refuse lm_MM_72 (hR.call rfl) rfl hl.1 rfl (Nat.le_of_ble_eq_true rfl) dMM_origin_59 (hR.new (by decide) (by decide)) (fun r_59 g_4 H locs hp_59 hg hS => ?_)
                obtain ⟨frr, rm_, hp_59⟩ := hp_59
                have rm_ : g_4 mm = some (mmC q (nI 0) v3 v4 (nI S.2.1.length) (nI S.2.2.1.length) v14 v16 v17 (nI S.2.2.2.1.length) v23 (nI S.2.2.2.2.1.length)) := rm_
                have k4_0 := frr.at (h_nm (h_ne hversionSizes h0 (fun h => by cases h)) h_n0) hversionSizes
                have k4_1 := frr.at (h_nm (h_ne horigins h0 (fun h => by cases h)) h_n0) horigins
                have fr := fr.call frr (by simp)
                rcases hp_59 with ⟨ho, hr_⟩ | ⟨ho, hr_⟩
                · skip
                  exact absurd hr_ (by decide)
                · skip
                  subst ho
                  refine lv_if_eq (tgt := 67) S0.1 S0.2.1 dMM_origin_62 (by decide) (fun c_62 => ?_) (fun c_62 => ?_)
                  · skip
                    rw [← nI_0] at c_62
                    have c_62 : 0 = 0 := (nI_eq (by omega) (by omega)).mp c_62
                    refine lv_aload_n S0.1 S0.2.1 dMM_origin_67 rfl (lv_at hl 1 rfl) ?_
                    refine hw_get S0 hK hg rm_ rfl inMM 28 (by decide) lf_MM_61 rfl rfl dMM_origin_68 ?_
                    refine lv_bipush (v := nI 60) S0.1 S0.2.1 dMM_origin_71 (by decide) ?_
                    refine lv_iload_n S0.1 S0.2.1 dMM_origin_73 rfl (lv_at hl 2 rfl) ?_
                    refine lv_imul S0.1 S0.2.1 dMM_origin_74 ?_
                    refine hw_top (nI (60 * i)) (pk_mul _ _) ?_
                    refine lv_iload_n S0.1 S0.2.1 dMM_origin_75 rfl (lv_at hl 3 rfl) ?_
                    refine lv_iadd S0.1 S0.2.1 dMM_origin_76 ?_
                    refine hw_top (nI ((60 * i) + j)) (nI_add _ _) ?_
                    refine hw_iald S0 hK hg k4_1 0 rfl (by omega) (by omega) dMM_origin_77 ?_
                    have hF2 : ∀ i, i < 18 → g_4 (q i) = some (.inl (cI, mSz i, .inl (F i))) := by
                      intro i hi
                      match i, hi with
                      | 0, _ => exact fr.at (h_nm (h_ne (hF 0 (by decide)) h0 (fun h => by cases h)) h_n0) (hF 0 (by decide))
                      | 1, _ => exact fr.at (h_nm (h_ne (hF 1 (by decide)) h0 (fun h => by cases h)) h_n0) (hF 1 (by decide))
                      | 2, _ => exact fr.at (h_nm (h_ne (hF 2 (by decide)) h0 (fun h => by cases h)) h_n0) (hF 2 (by decide))
                      | 3, _ => exact fr.at (h_nm (h_ne (hF 3 (by decide)) h0 (fun h => by cases h)) h_n0) (hF 3 (by decide))
                      | 4, _ => exact fr.at (h_nm (h_ne (hF 4 (by decide)) h0 (fun h => by cases h)) h_n0) (hF 4 (by decide))
                      | 5, _ => exact fr.at (h_nm (h_ne (hF 5 (by decide)) h0 (fun h => by cases h)) h_n0) (hF 5 (by decide))
                      | 6, _ => exact fr.at (h_nm (h_ne (hF 6 (by decide)) h0 (fun h => by cases h)) h_n0) (hF 6 (by decide))
                      | 7, _ => exact fr.at (h_nm (h_ne (hF 7 (by decide)) h0 (fun h => by cases h)) h_n0) (hF 7 (by decide))
                      | 8, _ => exact fr.at (h_nm (h_ne (hF 8 (by decide)) h0 (fun h => by cases h)) h_n0) (hF 8 (by decide))
                      | 9, _ => exact fr.at (h_nm (h_ne (hF 9 (by decide)) h0 (fun h => by cases h)) h_n0) (hF 9 (by decide))
                      | 10, _ => exact fr.at (h_nm (h_ne (hF 10 (by decide)) h0 (fun h => by cases h)) h_n0) (hF 10 (by decide))
                      | 11, _ => exact fr.at (h_nm (h_ne (hF 11 (by decide)) h0 (fun h => by cases h)) h_n0) (hF 11 (by decide))
                      | 12, _ => exact fr.at (h_nm (h_ne (hF 12 (by decide)) h0 (fun h => by cases h)) h_n0) (hF 12 (by decide))
                      | 13, _ => exact fr.at (h_nm (h_ne (hF 13 (by decide)) h0 (fun h => by cases h)) h_n0) (hF 13 (by decide))
                      | 14, _ => exact fr.at (h_nm (h_ne (hF 14 (by decide)) h0 (fun h => by cases h)) h_n0) (hF 14 (by decide))
                      | 15, _ => exact fr.at (h_nm (h_ne (hF 15 (by decide)) h0 (fun h => by cases h)) h_n0) (hF 15 (by decide))
                      | 16, _ => exact fr.at (h_nm (h_ne (hF 16 (by decide)) h0 (fun h => by cases h)) h_n0) (hF 16 (by decide))
                      | 17, _ => exact fr.at (h_nm (h_ne (hF 17 (by decide)) h0 (fun h => by cases h)) h_n0) (hF 17 (by decide))
                      | i + 18, h => omega
                    have hrep : repM cI g_4 mm q (o_origin (nI i) (nI j) S).1 (o_origin (nI i) (nI j) S).2.2 := by rw [show o_origin (nI i) (nI j) S = (0, nI ((S.2.2.2.2.1.getD i []).getD j 0), S) by simp only [o_origin, e_1, e_2]]; exact ⟨hq, hok, v3, v4, v14, v16, v17, v23, F, rm_, hF2, hR_, hA_, hB_, hH_, hC_, hZ_, hV_, hL_⟩
                    have fr9 : hfr g g_4 (mS mm q) := fr.mono (by simp)
                    exact hend _ _ _ _ _ _ _ _ (by decide) (by decide) rfl (⟨fr9, hrep, fun h9 => by rw [show o_origin (nI i) (nI j) S = (0, nI ((S.2.2.2.2.1.getD i []).getD j 0), S) by simp only [o_origin, e_1, e_2]] at h9 ⊢; exact hV_ i j (by omega) c_51⟩) hg hS dMM_origin_78
                  · skip
                    rw [← nI_0] at c_62
                    have c_62 : ¬ (0 = 0) := fun h => c_62 ((nI_eq (by omega) (by omega)).mpr h)
                    exact absurd c_62 (by decide)
              · skip
                have c_51 : ¬ (j < ((S.2.2.2.2.1.getD i []).length)) := fun h => c_51 ((nI_ltI (by omega) (by omega)).mpr h)
                have e_2 : ix (nI j) (S.2.2.2.2.1.getD i []).length = none := ix_ge (by omega) hj
                refine lv_iconst (v := nI 1) S0.1 S0.2.1 dMM_origin_54 (by decide) ?_
                refine lv_goto (tgt := 59) S0.1 S0.2.1 dMM_origin_55 (by decide) ?_
                refine hw_Vi (As := [.int (nI 0), .int (nI 1)]) (rest := []) S0 hK hg hS hA0 h0 rfl (c_MM_refuse l D cI cR cJ g _ mm q hq (nI t) v3 v4 (nI S.2.1.length) (nI S.2.2.1.length) v14 v16 v17 (nI S.2.2.2.1.length) v23 (nI S.2.2.2.2.1.length) 0 1 (by decide) (by decide) h0) kMM_refuse lm_MM_72 (hR.call rfl) rfl hl.1 rfl (Nat.le_of_ble_eq_true rfl) dMM_origin_59 (hR.new (by decide) (by decide)) (fun r_59 g_5 H locs hp_59 hg hS => ?_)
                obtain ⟨frr, rm_, hp_59⟩ := hp_59
                have rm_ : g_5 mm = some (mmC q (nI 2) v3 v4 (nI S.2.1.length) (nI S.2.2.1.length) v14 v16 v17 (nI S.2.2.2.1.length) v23 (nI S.2.2.2.2.1.length)) := rm_
                have k5_0 := frr.at (h_nm (h_ne hversionSizes h0 (fun h => by cases h)) h_n0) hversionSizes
                have k5_1 := frr.at (h_nm (h_ne horigins h0 (fun h => by cases h)) h_n0) horigins
                have fr := fr.call frr (by simp)
                rcases hp_59 with ⟨ho, hr_⟩ | ⟨ho, hr_⟩
                · skip
                  subst ho
                  refine lv_if_eq (tgt := 67) S0.1 S0.2.1 dMM_origin_62 (by decide) (fun c_62 => ?_) (fun c_62 => ?_)
                  · skip
                    rw [← nI_0] at c_62
                    have c_62 : 1 = 0 := (nI_eq (by omega) (by omega)).mp c_62
                    exact absurd c_62 (by decide)
                  · skip
                    rw [← nI_0] at c_62
                    have c_62 : ¬ (1 = 0) := fun h => c_62 ((nI_eq (by omega) (by omega)).mpr h)
                    refine lv_iconst (v := nI 0) S0.1 S0.2.1 dMM_origin_65 (by decide) ?_
                    have hF2 : ∀ i, i < 18 → g_5 (q i) = some (.inl (cI, mSz i, .inl (F i))) := by
                      intro i hi
                      match i, hi with
                      | 0, _ => exact fr.at (h_nm (h_ne (hF 0 (by decide)) h0 (fun h => by cases h)) h_n0) (hF 0 (by decide))
                      | 1, _ => exact fr.at (h_nm (h_ne (hF 1 (by decide)) h0 (fun h => by cases h)) h_n0) (hF 1 (by decide))
                      | 2, _ => exact fr.at (h_nm (h_ne (hF 2 (by decide)) h0 (fun h => by cases h)) h_n0) (hF 2 (by decide))
                      | 3, _ => exact fr.at (h_nm (h_ne (hF 3 (by decide)) h0 (fun h => by cases h)) h_n0) (hF 3 (by decide))
                      | 4, _ => exact fr.at (h_nm (h_ne (hF 4 (by decide)) h0 (fun h => by cases h)) h_n0) (hF 4 (by decide))
                      | 5, _ => exact fr.at (h_nm (h_ne (hF 5 (by decide)) h0 (fun h => by cases h)) h_n0) (hF 5 (by decide))
                      | 6, _ => exact fr.at (h_nm (h_ne (hF 6 (by decide)) h0 (fun h => by cases h)) h_n0) (hF 6 (by decide))
                      | 7, _ => exact fr.at (h_nm (h_ne (hF 7 (by decide)) h0 (fun h => by cases h)) h_n0) (hF 7 (by decide))
                      | 8, _ => exact fr.at (h_nm (h_ne (hF 8 (by decide)) h0 (fun h => by cases h)) h_n0) (hF 8 (by decide))
                      | 9, _ => exact fr.at (h_nm (h_ne (hF 9 (by decide)) h0 (fun h => by cases h)) h_n0) (hF 9 (by decide))
                      | 10, _ => exact fr.at (h_nm (h_ne (hF 10 (by decide)) h0 (fun h => by cases h)) h_n0) (hF 10 (by decide))
                      | 11, _ => exact fr.at (h_nm (h_ne (hF 11 (by decide)) h0 (fun h => by cases h)) h_n0) (hF 11 (by decide))
                      | 12, _ => exact fr.at (h_nm (h_ne (hF 12 (by decide)) h0 (fun h => by cases h)) h_n0) (hF 12 (by decide))
                      | 13, _ => exact fr.at (h_nm (h_ne (hF 13 (by decide)) h0 (fun h => by cases h)) h_n0) (hF 13 (by decide))
                      | 14, _ => exact fr.at (h_nm (h_ne (hF 14 (by decide)) h0 (fun h => by cases h)) h_n0) (hF 14 (by decide))
                      | 15, _ => exact fr.at (h_nm (h_ne (hF 15 (by decide)) h0 (fun h => by cases h)) h_n0) (hF 15 (by decide))
                      | 16, _ => exact fr.at (h_nm (h_ne (hF 16 (by decide)) h0 (fun h => by cases h)) h_n0) (hF 16 (by decide))
                      | 17, _ => exact fr.at (h_nm (h_ne (hF 17 (by decide)) h0 (fun h => by cases h)) h_n0) (hF 17 (by decide))
                      | i + 18, h => omega
                    have hrep : repM cI g_5 mm q (o_origin (nI i) (nI j) S).1 (o_origin (nI i) (nI j) S).2.2 := by rw [show o_origin (nI i) (nI j) S = (2, 0, S) by simp only [o_origin, e_1, e_2]]; exact ⟨hq, hok, v3, v4, v14, v16, v17, v23, F, rm_, hF2, hR_, hA_, hB_, hH_, hC_, hZ_, hV_, hL_⟩
                    have fr9 : hfr g g_5 (mS mm q) := fr.mono (by simp)
                    exact hend _ _ _ _ _ _ _ _ (by decide) (by decide) rfl (⟨fr9, hrep, fun h9 => by rw [show o_origin (nI i) (nI j) S = (2, 0, S) by simp only [o_origin, e_1, e_2]] at h9 ⊢; cases h9⟩) hg hS dMM_origin_66
                · skip
                  exact absurd hr_ (by decide)
      · skip
        rw [← nI_0] at c_20
        have c_20 : 1 = 0 := (nI_eq (by omega) (by omega)).mp c_20
        exact absurd c_20 (by decide)
