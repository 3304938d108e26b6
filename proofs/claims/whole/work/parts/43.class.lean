/-! THE CLASS: its cells, and the state that they hold -/
def xinj (x : Nat → Nat) : Prop := ∀ i j, i < 50 → j < 50 → x i = x j → i = j
theorem xne {x : Nat → Nat} (h : xinj x) {i j : Nat} (hi : i < 50) (hj : j < 50) (hn : i ≠ j) : x i ≠ x j := fun e => hn (h i j hi hj e)
theorem xne38 {x : Nat → Nat} (h : xinj x) {k n : Nat} (hk : k < 6) (hn : n < 38) : x (38 + k) ≠ x n := xne h (by omega) (by omega) (by omega)
theorem xne44 {x : Nat → Nat} (h : xinj x) {k n : Nat} (hk : k < 6) (hn : n < 38) : x (44 + k) ≠ x n := xne h (by omega) (by omega) (by omega)
theorem xneRL {x : Nat → Nat} (h : xinj x) {k j : Nat} (hk : k < 6) (hj : j < 6) : x (38 + k) ≠ x (44 + j) := xne h (by omega) (by omega) (by omega)
def xS (x : Nat → Nat) : List Nat := (List.range 50).map x
theorem xS_mem (x : Nat → Nat) {j : Nat} (h : j < 50) : x j ∈ xS x := List.mem_map_of_mem (List.mem_range.mpr h)
def xcl (cI cR : ClassId) (x : Nat → Nat) (b : Nat) (F : Nat → Nat → Int32) (V U : Nat → Int32) (z : Nat → Nat) (fq : Nat → Option Nat) (i : Nat) : va_E := match i with
  | 0 => .inr (7, [.ref (x 1), .ref (x 9), .ref (x 12), .ref (x 16), .ref (x 19), .ref (x (24 + 7 * b)), .ref (x (31 - 7 * b))])
  | 1 => .inl (cR, 6, .inr (.inr (.inr (.inr fq))))
  | 2 => .inl (cI, 3721, .inl (F 2))
  | 3 => .inr (0, [.ref (x 4), .ref (x 5), .int (V 3), .ref (x 2)])
  | 4 => .inl (cI, 60, .inl (F 4))
  | 5 => .inl (cI, 60, .inl (F 5))
  | 6 => .inr (0, [.ref (x 7), .ref (x 8), .int (V 6), .ref (x 2)])
  | 7 => .inl (cI, 60, .inl (F 7))
  | 8 => .inl (cI, 60, .inl (F 8))
  | 9 => .inr (0, [.ref (x 10), .ref (x 11), .int (V 9), .ref (x 2)])
  | 10 => .inl (cI, 60, .inl (F 10))
  | 11 => .inl (cI, 60, .inl (F 11))
  | 12 => .inr (1, [.ref (x 13), .int (V 12), .ref (x 3)])
  | 13 => .inl (cI, 244, .inl (F 13))
  | 14 => .inr (1, [.ref (x 15), .int (V 14), .ref (x 3)])
  | 15 => .inl (cI, 244, .inl (F 15))
  | 16 => .inr (4, [.ref (x 17), .int (V 16), .ref (x 14)])
  | 17 => .inr (5, [.ref (x 18), .int (V 17)])
  | 18 => .inl (cI, 120, .inl (F 18))
  | 19 => .inr (6, [.ref (x 20), .ref (x 21), .int (V 19), .ref (x 22), .ref (x 3)])
  | 20 => .inl (cI, 30, .inl (F 20))
  | 21 => .inl (cI, 1800, .inl (F 21))
  | 22 => .inr (5, [.ref (x 23), .int (V 22)])
  | 23 => .inl (cI, 60, .inl (F 23))
  | 24 => .inr (2, [.ref (x 25), .ref (x 27), .int (V 24), .ref (x 3), .ref (x 6), .ref (x 28), .ref (x 29), .ref (x 30)])
  | 25 => .inr (5, [.ref (x 26), .int (V 25)])
  | 26 => .inl (cI, 120, .inl (F 26))
  | 27 => .inl (cI, 183, .inl (F 27))
  | 28 => .inr (3, [.ref (z 28), .int (V 28), .int (U 28)])
  | 29 => .inr (3, [.ref (z 29), .int (V 29), .int (U 29)])
  | 30 => .inr (3, [.ref (z 30), .int (V 30), .int (U 30)])
  | 31 => .inr (2, [.ref (x 32), .ref (x 34), .int (V 31), .ref (x 3), .ref (x 6), .ref (x 35), .ref (x 36), .ref (x 37)])
  | 32 => .inr (5, [.ref (x 33), .int (V 32)])
  | 33 => .inl (cI, 120, .inl (F 33))
  | 34 => .inl (cI, 183, .inl (F 34))
  | 35 => .inr (3, [.ref (z 35), .int (V 35), .int (U 35)])
  | 36 => .inr (3, [.ref (z 36), .int (V 36), .int (U 36)])
  | 37 => .inr (3, [.ref (z 37), .int (V 37), .int (U 37)])
  | _ => .inr (0, [])
def repX (cI cR : ClassId) (g : Nat → Option va_E) (x : Nat → Nat) (S : ST) : Prop := xinj x ∧ stok S ∧ ∃ (b : Nat) (F : Nat → Nat → Int32) (V U : Nat → Int32) (z : Nat → Nat) (fq : Nat → Option Nat) (FR : Nat → Nat → Int32), b < 2 ∧ (∀ i, i < 38 → g (x i) = some (xcl cI cR x b F V U z fq i)) ∧ (∀ i, i < 6 → fq i = some (x (38 + i))) ∧ (∀ i, i < 6 → g (x (38 + i)) = some (.inr (5, [.ref (x (44 + i)), .int (nI (S.1 i).length)])) ∧ g (x (44 + i)) = some (.inl (cI, 60, .inl (FR i))) ∧ rp (FR i) (S.1 i)) ∧ V 9 = nI S.2.1.length ∧ rpN (F 10) (S.2.1.map Prod.fst) ∧ rpN (F 11) (S.2.1.map Prod.snd) ∧ V 12 = nI S.2.2.1.length ∧ rpN (F 13) (fl4 S.2.2.1) ∧ V 19 = nI S.2.2.2.2.1.length ∧ rpS (F 20) S.2.2.2.2.1 ∧ rpV (F 21) S.2.2.2.2.1 ∧ V 22 = nI S.2.2.2.2.2.length ∧ rp (F 23) S.2.2.2.2.2 ∧ V (24 + 7 * b) = nI S.2.2.2.1.length ∧ rpN (F (27 + 7 * b)) (fl3 S.2.2.2.1)
theorem site_MR_put_15 : xSite cMR_put eU "the row is full" 72 74 76 15 := ⟨xCls_U, by decide +kernel, dMR_put_15, dMR_put_18, dMR_put_19, dMR_put_21, dMR_put_24⟩
theorem site_MR_get_18 : xSite cMR_get eX "no such line" 82 84 86 18 := ⟨xCls_X, by decide +kernel, dMR_get_18, dMR_get_21, dMR_get_22, dMR_get_24, dMR_get_27⟩
theorem site_MR_pair_24 : xSite cMR_pair eX "no such pair or side" 82 96 86 24 := ⟨xCls_X, by decide +kernel, dMR_pair_24, dMR_pair_27, dMR_pair_28, dMR_pair_30, dMR_pair_33⟩
theorem site_MR_hunk_24 : xSite cMR_hunk eX "no such hunk or what" 82 106 86 24 := ⟨xCls_X, by decide +kernel, dMR_hunk_24, dMR_hunk_27, dMR_hunk_28, dMR_hunk_30, dMR_hunk_33⟩
theorem site_MR_conflict_24 : xSite cMR_conflict eX "no such conflict or what" 82 125 86 24 := ⟨xCls_X, by decide +kernel, dMR_conflict_24, dMR_conflict_27, dMR_conflict_28, dMR_conflict_30, dMR_conflict_33⟩
theorem site_MR_commit_18 : xSite cMR_commit eU "there are as many versions as there can be" 72 136 76 18 := ⟨xCls_U, by decide +kernel, dMR_commit_18, dMR_commit_21, dMR_commit_22, dMR_commit_24, dMR_commit_27⟩
theorem site_MR_origin_15 : xSite cMR_origin eI "no such version" 141 143 145 15 := ⟨xCls_I, by decide +kernel, dMR_origin_15, dMR_origin_18, dMR_origin_19, dMR_origin_21, dMR_origin_24⟩
theorem site_MR_origin_42 : xSite cMR_origin eX "no such line" 82 84 86 42 := ⟨xCls_X, by decide +kernel, dMR_origin_42, dMR_origin_45, dMR_origin_46, dMR_origin_48, dMR_origin_51⟩
theorem site_MR_rowAt_13 : xSite cMR_rowAt eI "no such row" 141 152 145 13 := ⟨xCls_I, by decide +kernel, dMR_rowAt_13, dMR_rowAt_16, dMR_rowAt_17, dMR_rowAt_19, dMR_rowAt_22⟩
theorem site_MR_fillWithOutcome_9 : xSite cMR_fillWithOutcome eU "the row would have too many lines" 72 154 76 9 := ⟨xCls_U, by decide +kernel, dMR_fillWithOutcome_9, dMR_fillWithOutcome_12, dMR_fillWithOutcome_13, dMR_fillWithOutcome_15, dMR_fillWithOutcome_18⟩
set_option maxRecDepth 100000 in
set_option maxHeartbeats 4000000 in
theorem c_MR_rowAt (l : Launch) (D : va_G) (cI cR cJ : ClassId) (g : Nat → Option va_E) (sz : Nat) (hst : l.stackTraces = false) (x : Nat → Nat) (fq : Nat → Option Nat) (r : Int32) (u0 u1 u2 u3 u4 u5 : Nat) (h0 : g (x 0) = some (.inr (7, [.ref (x 1), .ref u0, .ref u1, .ref u2, .ref u3, .ref u4, .ref u5]))) (h1 : g (x 1) = some (.inl (cR, 6, .inr (.inr (.inr (.inr fq)))))) (hfq : ∀ i, i < 6 → fq i = some (x (38 + i))) : xMr l yMR_rowAt cMR_rowAt 2 (.object "MergeRows$Row") (hRm 6 90 1 6) D (hT cI cR cJ) g sz [.ref (x 0), .int r] (fun a g1 => g1 = g ∧ ∃ k, k < 6 ∧ r = nI k ∧ a = x (38 + k)) (fun E_ g1 => E_ = eI ∧ g1 = g ∧ ix r 6 = none) := by
  refine xMr_of (by decide +kernel) rfl (Or.inl ⟨_, rfl⟩) (Nat.le_of_ble_eq_true rfl) hst ⟨by decide, by decide⟩ ?_
  intro pX eV RX sX mX argsX belowX methX cX QX AX hR S0 hnm hsz hg hK hS hA0 hx hz hend hout hthr ls hl
  have hl : lv_has ls 2 [(0, .ref (x 0)), (1, .int r)] := hl
  refine lv_iload_n S0.1 S0.2.1 dMR_rowAt_0 rfl (lv_at hl 1 rfl) ?_
  refine lv_if_lt (tgt := 13) S0.1 S0.2.1 dMR_rowAt_1 (by decide) (fun c_1 => ?_) (fun c_1 => ?_)
  · skip
    have e_k : ix r 6 = none := ix_neg c_1
    exact hthr eI "no such row" 141 152 145 13 g _ _ _ _ _ _ site_MR_rowAt_13 (⟨rfl, rfl, e_k⟩) hg hS hl.1 (Nat.le_of_ble_eq_true rfl) (by decide) (by decide)
  · skip
    obtain ⟨k, hk, rfl⟩ := nI_of c_1
    refine lv_iload_n S0.1 S0.2.1 dMR_rowAt_4 rfl (lv_at hl 1 rfl) ?_
    refine lv_aload_n S0.1 S0.2.1 dMR_rowAt_5 rfl (lv_at hl 0 rfl) ?_
    refine hw_get S0 hK hg h0 rfl inMR 0 (by decide) lf_MR_11 rfl rfl dMR_rowAt_6 ?_
    refine hw_alen S0 hK hg h1 1 rfl dMR_rowAt_9 ?_
    refine lv_icmp_lt (tgt := 23) S0.1 S0.2.1 dMR_rowAt_10 (by decide) (fun c_10 => ?_) (fun c_10 => ?_)
    · skip
      have c_10 : k < 6 := (nI_ltI (by omega) (by omega)).mp c_10
      refine lv_aload_n S0.1 S0.2.1 dMR_rowAt_23 rfl (lv_at hl 0 rfl) ?_
      refine hw_get S0 hK hg h0 rfl inMR 0 (by decide) lf_MR_11 rfl rfl dMR_rowAt_24 ?_
      refine lv_iload_n S0.1 S0.2.1 dMR_rowAt_27 rfl (lv_at hl 1 rfl) ?_
      refine hw_aald (b := (x (38 + k))) S0 hK hg h1 1 rfl (by omega) (by omega) (hfq k (by omega)) dMR_rowAt_28 ?_
      exact hend _ _ _ _ _ _ _ _ (by decide) (by decide) ⟨rfl, k, by omega, rfl, rfl⟩ hg hS dMR_rowAt_29
    · skip
      have c_10 : ¬ (k < 6) := fun h => c_10 ((nI_ltI (by omega) (by omega)).mpr h)
      have e_k : ix (nI k) 6 = none := ix_ge (by omega) hk
      exact hthr eI "no such row" 141 152 145 13 g _ _ _ _ _ _ site_MR_rowAt_13 (⟨rfl, rfl, e_k⟩) hg hS hl.1 (Nat.le_of_ble_eq_true rfl) (by decide) (by decide)
set_option maxRecDepth 100000 in
set_option maxHeartbeats 4000000 in
theorem c_MR_fill (l : Launch) (D : va_G) (cI cR cJ : ClassId) (g : Nat → Option va_E) (sz : Nat) (hst : l.stackTraces = false) (r la n o lo mo : Nat) (f fo : Nat → Int32) (h0 : g r = some (.inr (5, [.ref la, .int (nI n)]))) (h1 : g la = some (.inl (cI, 60, .inl f))) (h2 : g o = some (.inr (5, [.ref lo, .int (nI mo)]))) (h3 : g lo = some (.inl (cI, 120, .inl fo))) (hor : o ≠ r) (hol : lo ≠ la) (hmo : mo ≤ 120) : xMv l yMR_fillWithOutcome cMR_fillWithOutcome 2 (hRm 6 90 1 6) D (hT cI cR cJ) g sz [.ref r, .ref o] (fun g1 => mo ≤ 60 ∧ hfr g g1 [r, la] ∧ g1 r = some (.inr (5, [.ref la, .int (nI mo)])) ∧ ∃ f1, g1 la = some (.inl (cI, 60, .inl f1)) ∧ ∀ q, q < mo → f1 q = fo q) (fun E_ g1 => E_ = eU ∧ g1 = g ∧ 60 < mo) := by
  refine xMv_of (by decide +kernel) rfl (Nat.le_of_ble_eq_true rfl) hst ⟨by decide, by decide⟩ ?_
  intro pX eV RX sX mX argsX belowX methX cX QX AX hR S0 hnm hsz hg hK hS hA0 hx hz hend hout hthr ls hl
  have hl : lv_has ls 2 [(0, .ref r), (1, .ref o)] := hl
  refine lv_aload_n S0.1 S0.2.1 dMR_fillWithOutcome_0 rfl (lv_at hl 1 rfl) ?_
  refine hw_get S0 hK hg h2 rfl inRo 1 (by decide) lf_MR_68 rfl rfl dMR_fillWithOutcome_1 ?_
  refine lv_bipush (v := nI 60) S0.1 S0.2.1 dMR_fillWithOutcome_4 (by decide) ?_
  refine lv_icmp_le (tgt := 19) S0.1 S0.2.1 dMR_fillWithOutcome_6 (by decide) (fun c_6 => ?_) (fun c_6 => ?_)
  · skip
    have c_6 : mo ≤ 60 := (nI_leI (by omega) (by omega)).mp c_6
    refine lv_aload_n S0.1 S0.2.1 dMR_fillWithOutcome_19 rfl (lv_at hl 0 rfl) ?_
    refine lv_aload_n S0.1 S0.2.1 dMR_fillWithOutcome_20 rfl (lv_at hl 1 rfl) ?_
    refine hw_Vv (As := [.ref o]) (rest := []) S0 hK hg hS hA0 h0 rfl (c_Ro_become l D cI cR cJ g _ r la n 60 o lo mo 120 f fo h0 h1 h2 h3 hor hol hmo (by omega) (by omega) (by omega)) kRo_become lm_MR_156 (hR.call rfl) rfl hl.1 rfl (Nat.le_of_ble_eq_true rfl) dMR_fillWithOutcome_21 (hR.new (by decide) (by decide)) (fun g_1 H locs hp_21 hg hS => ?_)
    exact hend _ _ _ _ _ _ _ (by decide) (by decide) ⟨by omega, hp_21⟩ hg hS dMR_fillWithOutcome_24
  · skip
    have c_6 : ¬ (mo ≤ 60) := fun h => c_6 ((nI_leI (by omega) (by omega)).mpr h)
    exact hthr eU "the row would have too many lines" 72 154 76 9 g _ _ _ _ _ _ site_MR_fillWithOutcome_9 (⟨rfl, rfl, by omega⟩) hg hS hl.1 (Nat.le_of_ble_eq_true rfl) (by decide) (by decide)
set_option maxRecDepth 100000 in
set_option maxHeartbeats 4000000 in
theorem c_MR_put (l : Launch) (D : va_G) (cI cR cJ : ClassId) (g : Nat → Option va_E) (sz : Nat) (hst : l.stackTraces = false) (x : Nat → Nat) (S : ST) (r v : Int32) (HX : repX cI cR g x S) : xMi l yMR_put cMR_put 4 .int (hRm 7 115 2 12) D (hT cI cR cJ) g sz [.ref (x 0), .int r, .int v] (fun o g1 => hfr g g1 (xS x) ∧ repX cI cR g1 x (o_put r v S).2.2 ∧ (o_put r v S).1 = 0 ∧ o = (o_put r v S).2.1) (fun E_ g1 => hfr g g1 (xS x) ∧ repX cI cR g1 x (o_put r v S).2.2 ∧ ((o_put r v S).1 = 1 ∧ E_ = eI ∨ (o_put r v S).1 = 2 ∧ E_ = eU)) := by
  refine xMi_of (by decide +kernel) rfl (Nat.le_of_ble_eq_true rfl) hst ⟨by decide, by decide⟩ ?_
  intro pX eV RX sX mX argsX belowX methX cX QX AX hR S0 hnm hsz hg hK hS hA0 hx hz hend hout hthr ls hl
  have hl : lv_has ls 4 [(0, .ref (x 0)), (1, .int r), (2, .int v)] := hl
  have HX0 := HX
  obtain ⟨hxi, hok, b, F, V, U, z, fq, FR, hb, hO, hfq, hrow, hv9, hA_, hB_, hv12, hH_, hv19, hZ_, hV_, hv22, hL_, hvm, hC_⟩ := HX
  have hO0 : g (x 0) = some (.inr (7, [.ref (x 1), .ref (x 9), .ref (x 12), .ref (x 16), .ref (x 19), .ref (x (24 + 7 * b)), .ref (x (31 - 7 * b))])) := hO 0 (by decide)
  have hO1 : g (x 1) = some (.inl (cR, 6, .inr (.inr (.inr (.inr fq))))) := hO 1 (by decide)
  have fr : hfr g g [] := hfr.rf
  refine lv_aload_n S0.1 S0.2.1 dMR_put_0 rfl (lv_at hl 0 rfl) ?_
  refine lv_iload_n S0.1 S0.2.1 dMR_put_1 rfl (lv_at hl 1 rfl) ?_
  refine hx_Vr (As := [.int r]) (rest := []) S0 hK hg hS hA0 hx hz hO0 rfl (c_MR_rowAt l D cI cR cJ g _ hst x fq r _ _ _ _ _ _ hO0 hO1 hfq) kMR_rowAt lm_MR_64 (hR.call rfl) rfl hl.1 rfl (Nat.le_of_ble_eq_true rfl) dMR_put_2 (hR.new (by decide) (by decide)) (fun E_ ce_ q_ g_1 H locs hpx hg hS hq1 hq2 hq3 => ?_) (fun r_2 g_1 H locs hp_2 hg hS => ?_)
  · skip
    obtain ⟨eE, eg, e_k⟩ := hpx
    subst eE
    rw [eg] at hg
    have eop : o_put r v S = (1, 0, S) := by unfold o_put; rw [e_k]
    have hrep : repX cI cR g x S := HX0
    have fr9 : hfr g g (xS x) := hfr.rf
    exact hout _ _ _ g _ _ _ _ _ _ _ (by decide) (by decide) (⟨fr9, by rw [eop]; exact hrep, Or.inl ⟨by rw [eop], rfl⟩⟩) hg hS hq1 hq2 hq3
  obtain ⟨eg, k, hk_k, ek, er⟩ := hp_2
  subst er
  subst ek
  rw [eg] at hg
  have e_k : ix (nI k) 6 = some k := ix_some hk_k (by decide)
  obtain ⟨ro_k, rl_k, rp_k⟩ := hrow k hk_k
  have hn_k := hok.1 k hk_k
  refine lv_astore_n (lv' := [(3, .ref (x (38 + k))), (0, .ref (x 0)), (1, .int (nI k)), (2, .int v)]) S0.1 S0.2.1 dMR_put_5 rfl hl (by decide) rfl (fun ls hl => ?_)
  refine lv_aload_n S0.1 S0.2.1 dMR_put_6 rfl (lv_at hl 0 rfl) ?_
  refine hw_get S0 hK hg ro_k rfl inRo 1 (by decide) lf_MR_68 rfl rfl dMR_put_7 ?_
  refine lv_bipush (v := nI 60) S0.1 S0.2.1 dMR_put_10 (by decide) ?_
  refine lv_icmp_lt (tgt := 25) S0.1 S0.2.1 dMR_put_12 (by decide) (fun c_12 => ?_) (fun c_12 => ?_)
  · skip
    have c_12 : ((S.1 k).length) < 60 := (nI_ltI (by omega) (by omega)).mp c_12
    have fr : hfr g g [x (38 + k), x (44 + k)] := hfr.rf
    refine lv_aload_n S0.1 S0.2.1 dMR_put_25 rfl (lv_at hl 0 rfl) ?_
    refine lv_iload_n S0.1 S0.2.1 dMR_put_26 rfl (lv_at hl 3 rfl) ?_
    refine hw_Vv (As := [.int v]) (rest := []) S0 hK hg hS hA0 ro_k rfl (c_Ro_add l D cI cR cJ g _ (x (38 + k)) (x (44 + k)) (S.1 k).length 60 (FR k) v ro_k rl_k (by omega) (by decide)) kRo_add lm_MR_79 (hR.call rfl) rfl hl.1 rfl (Nat.le_of_ble_eq_true rfl) dMR_put_27 (hR.new (by decide) (by decide)) (fun g_2 H locs hp_27 hg hS => ?_)
    obtain ⟨frA, a0, a1⟩ := hp_27
    have k2_0 := frA.at (h_nm (Ne.symm (xne38 hxi hk_k (by decide))) (h_nm (Ne.symm (xne44 hxi hk_k (by decide))) h_n0)) hO0
    have k2_1 := frA.at (h_nm (Ne.symm (xne38 hxi hk_k (by decide))) (h_nm (Ne.symm (xne44 hxi hk_k (by decide))) h_n0)) hO1
    have fr := fr.call frA (by simp)
    refine lv_aload_n S0.1 S0.2.1 dMR_put_30 rfl (lv_at hl 0 rfl) ?_
    refine hw_get S0 hK hg a0 rfl inRo 1 (by decide) lf_MR_68 rfl rfl dMR_put_31 ?_
    have el : (S.1 k ++ [v]).length = (S.1 k).length + 1 := by rw [List.length_append]; rfl
    have a9 : g_2 (x (38 + k)) = some (.inr (5, [.ref (x (44 + k)), .int (nI (S.1 k ++ [v]).length)])) := by rw [el]; exact a0
    have rp9 : rp (upd (FR k) (S.1 k).length v) (S.1 k ++ [v]) := rp_snoc rp_k v
    have eop : o_put (nI k) v S = (0, nI ((S.1 k).length + 1), (setR S.1 k (S.1 k ++ [v]), S.2)) := by simp only [o_put, e_k]; exact if_pos (by omega)
    have hO2 : ∀ i9, i9 < 38 → g_2 (x i9) = some (xcl cI cR x b F V U z fq i9) := by
      intro i9 hi9
      match i9, hi9 with
      | 0, _ => exact fr.at (h_nm (Ne.symm (xne38 hxi hk_k (by decide))) (h_nm (Ne.symm (xne44 hxi hk_k (by decide))) h_n0)) (hO 0 (by decide))
      | 1, _ => exact fr.at (h_nm (Ne.symm (xne38 hxi hk_k (by decide))) (h_nm (Ne.symm (xne44 hxi hk_k (by decide))) h_n0)) (hO 1 (by decide))
      | 2, _ => exact fr.at (h_nm (Ne.symm (xne38 hxi hk_k (by decide))) (h_nm (Ne.symm (xne44 hxi hk_k (by decide))) h_n0)) (hO 2 (by decide))
      | 3, _ => exact fr.at (h_nm (Ne.symm (xne38 hxi hk_k (by decide))) (h_nm (Ne.symm (xne44 hxi hk_k (by decide))) h_n0)) (hO 3 (by decide))
      | 4, _ => exact fr.at (h_nm (Ne.symm (xne38 hxi hk_k (by decide))) (h_nm (Ne.symm (xne44 hxi hk_k (by decide))) h_n0)) (hO 4 (by decide))
      | 5, _ => exact fr.at (h_nm (Ne.symm (xne38 hxi hk_k (by decide))) (h_nm (Ne.symm (xne44 hxi hk_k (by decide))) h_n0)) (hO 5 (by decide))
      | 6, _ => exact fr.at (h_nm (Ne.symm (xne38 hxi hk_k (by decide))) (h_nm (Ne.symm (xne44 hxi hk_k (by decide))) h_n0)) (hO 6 (by decide))
      | 7, _ => exact fr.at (h_nm (Ne.symm (xne38 hxi hk_k (by decide))) (h_nm (Ne.symm (xne44 hxi hk_k (by decide))) h_n0)) (hO 7 (by decide))
      | 8, _ => exact fr.at (h_nm (Ne.symm (xne38 hxi hk_k (by decide))) (h_nm (Ne.symm (xne44 hxi hk_k (by decide))) h_n0)) (hO 8 (by decide))
      | 9, _ => exact fr.at (h_nm (Ne.symm (xne38 hxi hk_k (by decide))) (h_nm (Ne.symm (xne44 hxi hk_k (by decide))) h_n0)) (hO 9 (by decide))
      | 10, _ => exact fr.at (h_nm (Ne.symm (xne38 hxi hk_k (by decide))) (h_nm (Ne.symm (xne44 hxi hk_k (by decide))) h_n0)) (hO 10 (by decide))
      | 11, _ => exact fr.at (h_nm (Ne.symm (xne38 hxi hk_k (by decide))) (h_nm (Ne.symm (xne44 hxi hk_k (by decide))) h_n0)) (hO 11 (by decide))
      | 12, _ => exact fr.at (h_nm (Ne.symm (xne38 hxi hk_k (by decide))) (h_nm (Ne.symm (xne44 hxi hk_k (by decide))) h_n0)) (hO 12 (by decide))
      | 13, _ => exact fr.at (h_nm (Ne.symm (xne38 hxi hk_k (by decide))) (h_nm (Ne.symm (xne44 hxi hk_k (by decide))) h_n0)) (hO 13 (by decide))
      | 14, _ => exact fr.at (h_nm (Ne.symm (xne38 hxi hk_k (by decide))) (h_nm (Ne.symm (xne44 hxi hk_k (by decide))) h_n0)) (hO 14 (by decide))
      | 15, _ => exact fr.at (h_nm (Ne.symm (xne38 hxi hk_k (by decide))) (h_nm (Ne.symm (xne44 hxi hk_k (by decide))) h_n0)) (hO 15 (by decide))
      | 16, _ => exact fr.at (h_nm (Ne.symm (xne38 hxi hk_k (by decide))) (h_nm (Ne.symm (xne44 hxi hk_k (by decide))) h_n0)) (hO 16 (by decide))
      | 17, _ => exact fr.at (h_nm (Ne.symm (xne38 hxi hk_k (by decide))) (h_nm (Ne.symm (xne44 hxi hk_k (by decide))) h_n0)) (hO 17 (by decide))
      | 18, _ => exact fr.at (h_nm (Ne.symm (xne38 hxi hk_k (by decide))) (h_nm (Ne.symm (xne44 hxi hk_k (by decide))) h_n0)) (hO 18 (by decide))
      | 19, _ => exact fr.at (h_nm (Ne.symm (xne38 hxi hk_k (by decide))) (h_nm (Ne.symm (xne44 hxi hk_k (by decide))) h_n0)) (hO 19 (by decide))
      | 20, _ => exact fr.at (h_nm (Ne.symm (xne38 hxi hk_k (by decide))) (h_nm (Ne.symm (xne44 hxi hk_k (by decide))) h_n0)) (hO 20 (by decide))
      | 21, _ => exact fr.at (h_nm (Ne.symm (xne38 hxi hk_k (by decide))) (h_nm (Ne.symm (xne44 hxi hk_k (by decide))) h_n0)) (hO 21 (by decide))
      | 22, _ => exact fr.at (h_nm (Ne.symm (xne38 hxi hk_k (by decide))) (h_nm (Ne.symm (xne44 hxi hk_k (by decide))) h_n0)) (hO 22 (by decide))
      | 23, _ => exact fr.at (h_nm (Ne.symm (xne38 hxi hk_k (by decide))) (h_nm (Ne.symm (xne44 hxi hk_k (by decide))) h_n0)) (hO 23 (by decide))
      | 24, _ => exact fr.at (h_nm (Ne.symm (xne38 hxi hk_k (by decide))) (h_nm (Ne.symm (xne44 hxi hk_k (by decide))) h_n0)) (hO 24 (by decide))
      | 25, _ => exact fr.at (h_nm (Ne.symm (xne38 hxi hk_k (by decide))) (h_nm (Ne.symm (xne44 hxi hk_k (by decide))) h_n0)) (hO 25 (by decide))
      | 26, _ => exact fr.at (h_nm (Ne.symm (xne38 hxi hk_k (by decide))) (h_nm (Ne.symm (xne44 hxi hk_k (by decide))) h_n0)) (hO 26 (by decide))
      | 27, _ => exact fr.at (h_nm (Ne.symm (xne38 hxi hk_k (by decide))) (h_nm (Ne.symm (xne44 hxi hk_k (by decide))) h_n0)) (hO 27 (by decide))
      | 28, _ => exact fr.at (h_nm (Ne.symm (xne38 hxi hk_k (by decide))) (h_nm (Ne.symm (xne44 hxi hk_k (by decide))) h_n0)) (hO 28 (by decide))
      | 29, _ => exact fr.at (h_nm (Ne.symm (xne38 hxi hk_k (by decide))) (h_nm (Ne.symm (xne44 hxi hk_k (by decide))) h_n0)) (hO 29 (by decide))
      | 30, _ => exact fr.at (h_nm (Ne.symm (xne38 hxi hk_k (by decide))) (h_nm (Ne.symm (xne44 hxi hk_k (by decide))) h_n0)) (hO 30 (by decide))
      | 31, _ => exact fr.at (h_nm (Ne.symm (xne38 hxi hk_k (by decide))) (h_nm (Ne.symm (xne44 hxi hk_k (by decide))) h_n0)) (hO 31 (by decide))
      | 32, _ => exact fr.at (h_nm (Ne.symm (xne38 hxi hk_k (by decide))) (h_nm (Ne.symm (xne44 hxi hk_k (by decide))) h_n0)) (hO 32 (by decide))
      | 33, _ => exact fr.at (h_nm (Ne.symm (xne38 hxi hk_k (by decide))) (h_nm (Ne.symm (xne44 hxi hk_k (by decide))) h_n0)) (hO 33 (by decide))
      | 34, _ => exact fr.at (h_nm (Ne.symm (xne38 hxi hk_k (by decide))) (h_nm (Ne.symm (xne44 hxi hk_k (by decide))) h_n0)) (hO 34 (by decide))
      | 35, _ => exact fr.at (h_nm (Ne.symm (xne38 hxi hk_k (by decide))) (h_nm (Ne.symm (xne44 hxi hk_k (by decide))) h_n0)) (hO 35 (by decide))
      | 36, _ => exact fr.at (h_nm (Ne.symm (xne38 hxi hk_k (by decide))) (h_nm (Ne.symm (xne44 hxi hk_k (by decide))) h_n0)) (hO 36 (by decide))
      | 37, _ => exact fr.at (h_nm (Ne.symm (xne38 hxi hk_k (by decide))) (h_nm (Ne.symm (xne44 hxi hk_k (by decide))) h_n0)) (hO 37 (by decide))
      | i9 + 38, h => omega
    have hrow2 : ∀ i9, i9 < 6 → g_2 (x (38 + i9)) = some (.inr (5, [.ref (x (44 + i9)), .int (nI ((setR S.1 k (S.1 k ++ [v]), S.2).1 i9).length)])) ∧ g_2 (x (44 + i9)) = some (.inl (cI, 60, .inl ((fun i9 => if i9 = k then (upd (FR k) (S.1 k).length v) else FR i9) i9))) ∧ rp ((fun i9 => if i9 = k then (upd (FR k) (S.1 k).length v) else FR i9) i9) ((setR S.1 k (S.1 k ++ [v]), S.2).1 i9) := by
      intro i9 hi9
      obtain ⟨d1, d2, d3⟩ := hrow i9 hi9
      by_cases e : i9 = k
      · rw [e]
        have e1 : setR S.1 k (S.1 k ++ [v]) k = (S.1 k ++ [v]) := setR_s _ _ _
        dsimp only; rw [if_pos rfl, e1]
        exact ⟨a9, a1, rp9⟩
      · have e1 : setR S.1 k (S.1 k ++ [v]) i9 = S.1 i9 := setR_n _ _ e
        dsimp only; rw [if_neg e, e1]
        exact ⟨fr.at (h_nm (xne hxi (by omega) (by omega) (by omega)) (h_nm (xneRL hxi hi9 hk_k) h_n0)) d1, fr.at (h_nm (Ne.symm (xneRL hxi hk_k hi9)) (h_nm (xne hxi (by omega) (by omega) (by omega)) h_n0)) d2, d3⟩
    have hrep : repX cI cR g_2 x (setR S.1 k (S.1 k ++ [v]), S.2) := ⟨hxi, (stok_setR hok (by rw [el]; omega)), b, F, V, U, z, fq, (fun i9 => if i9 = k then (upd (FR k) (S.1 k).length v) else FR i9), hb, hO2, hfq, hrow2, hv9, hA_, hB_, hv12, hH_, hv19, hZ_, hV_, hv22, hL_, (by rcases (show b = 0 ∨ b = 1 by omega) with rfl | rfl <;> exact hvm), (by rcases (show b = 0 ∨ b = 1 by omega) with rfl | rfl <;> exact hC_)⟩
    have fr9 : hfr g g_2 (xS x) := fr.mono (by intro q hq; simp only [List.mem_cons, List.not_mem_nil, or_false] at hq; rcases hq with rfl | rfl <;> exact xS_mem x (by first | decide | omega))
    exact hend _ _ _ _ _ _ _ _ (by decide) (by decide) rfl ⟨fr9, by rw [eop]; exact hrep, by rw [eop], by rw [eop]⟩ hg hS dMR_put_34
  · skip
    have c_12 : ¬ (((S.1 k).length) < 60) := fun h => c_12 ((nI_ltI (by omega) (by omega)).mpr h)
    have eop : o_put (nI k) v S = (2, 0, S) := by simp only [o_put, e_k]; exact if_neg (by omega)
    have hrep : repX cI cR g x S := HX0
    have fr9 : hfr g g (xS x) := hfr.rf
    exact hthr eU "the row is full" 72 74 76 15 g _ _ _ _ _ _ site_MR_put_15 (⟨fr9, by rw [eop]; exact hrep, Or.inr ⟨by rw [eop], rfl⟩⟩) hg hS hl.1 (Nat.le_of_ble_eq_true rfl) (by decide) (by decide)
set_option maxRecDepth 100000 in
set_option maxHeartbeats 4000000 in
theorem c_MR_clear (l : Launch) (D : va_G) (cI cR cJ : ClassId) (g : Nat → Option va_E) (sz : Nat) (hst : l.stackTraces = false) (x : Nat → Nat) (S : ST) (r : Int32) (HX : repX cI cR g x S) : xMv l yMR_clear cMR_clear 2 (hRm 7 115 1 6) D (hT cI cR cJ) g sz [.ref (x 0), .int r] (fun g1 => hfr g g1 (xS x) ∧ repX cI cR g1 x (o_clear r S).2.2 ∧ (o_clear r S).1 = 0) (fun E_ g1 => hfr g g1 (xS x) ∧ repX cI cR g1 x (o_clear r S).2.2 ∧ ((o_clear r S).1 = 1 ∧ E_ = eI ∨ (o_clear r S).1 = 2 ∧ E_ = eU)) := by
  refine xMv_of (by decide +kernel) rfl (Nat.le_of_ble_eq_true rfl) hst ⟨by decide, by decide⟩ ?_
  intro pX eV RX sX mX argsX belowX methX cX QX AX hR S0 hnm hsz hg hK hS hA0 hx hz hend hout hthr ls hl
  have hl : lv_has ls 2 [(0, .ref (x 0)), (1, .int r)] := hl
  have HX0 := HX
  obtain ⟨hxi, hok, b, F, V, U, z, fq, FR, hb, hO, hfq, hrow, hv9, hA_, hB_, hv12, hH_, hv19, hZ_, hV_, hv22, hL_, hvm, hC_⟩ := HX
  have hO0 : g (x 0) = some (.inr (7, [.ref (x 1), .ref (x 9), .ref (x 12), .ref (x 16), .ref (x 19), .ref (x (24 + 7 * b)), .ref (x (31 - 7 * b))])) := hO 0 (by decide)
  have hO1 : g (x 1) = some (.inl (cR, 6, .inr (.inr (.inr (.inr fq))))) := hO 1 (by decide)
  have fr : hfr g g [] := hfr.rf
  refine lv_aload_n S0.1 S0.2.1 dMR_clear_0 rfl (lv_at hl 0 rfl) ?_
  refine lv_iload_n S0.1 S0.2.1 dMR_clear_1 rfl (lv_at hl 1 rfl) ?_
  refine hx_Vr (As := [.int r]) (rest := []) S0 hK hg hS hA0 hx hz hO0 rfl (c_MR_rowAt l D cI cR cJ g _ hst x fq r _ _ _ _ _ _ hO0 hO1 hfq) kMR_rowAt lm_MR_64 (hR.call rfl) rfl hl.1 rfl (Nat.le_of_ble_eq_true rfl) dMR_clear_2 (hR.new (by decide) (by decide)) (fun E_ ce_ q_ g_1 H locs hpx hg hS hq1 hq2 hq3 => ?_) (fun r_2 g_1 H locs hp_2 hg hS => ?_)
  · skip
    obtain ⟨eE, eg, e_k⟩ := hpx
    subst eE
    rw [eg] at hg
    have eop : o_clear r S = (1, 0, S) := by unfold o_clear; rw [e_k]
    have hrep : repX cI cR g x S := HX0
    have fr9 : hfr g g (xS x) := hfr.rf
    exact hout _ _ _ g _ _ _ _ _ _ _ (by decide) (by decide) (⟨fr9, by rw [eop]; exact hrep, Or.inl ⟨by rw [eop], rfl⟩⟩) hg hS hq1 hq2 hq3
  obtain ⟨eg, k, hk_k, ek, er⟩ := hp_2
  subst er
  subst ek
  rw [eg] at hg
  have e_k : ix (nI k) 6 = some k := ix_some hk_k (by decide)
  obtain ⟨ro_k, rl_k, rp_k⟩ := hrow k hk_k
  have hn_k := hok.1 k hk_k
  have fr : hfr g g [x (38 + k)] := hfr.rf
  refine lv_iconst (v := nI 0) S0.1 S0.2.1 dMR_clear_5 (by decide) ?_
  refine hw_put S0 hK hg hS ro_k rfl inRo tyRo tokRo nmRo 1 (by decide) lf_MR_68 rfl rfl rfl rfl (Nat.le_of_ble_eq_true rfl) dMR_clear_6 (fun H locs hg hS => ?_)
  obtain ⟨g_2, eg_2⟩ : ∃ z, z = hs g (x (38 + k)) (.inr (5, [.ref (x (44 + k)), .int (nI 0)])) := ⟨_, rfl⟩
  have hg : hw D hC AX g_2 H := by rw [eg_2]; exact hg
  have f2_0 : g_2 (x 0) = some (.inr (7, [.ref (x 1), .ref (x 9), .ref (x 12), .ref (x 16), .ref (x 19), .ref (x (24 + 7 * b)), .ref (x (31 - 7 * b))])) := by rw [eg_2, hs_n _ _ (Ne.symm (xne38 hxi hk_k (by decide)))]; exact hO0
  have f2_1 : g_2 (x 1) = some (.inl (cR, 6, .inr (.inr (.inr (.inr fq))))) := by rw [eg_2, hs_n _ _ (Ne.symm (xne38 hxi hk_k (by decide)))]; exact hO1
  have f2_2 : g_2 (x (44 + k)) = some (.inl (cI, 60, .inl (FR k))) := by rw [eg_2, hs_n _ _ (Ne.symm (xneRL hxi hk_k hk_k))]; exact rl_k
  have f2_3 : g_2 (x (38 + k)) = some (.inr (5, [.ref (x (44 + k)), .int (nI 0)])) := by rw [eg_2]; exact hs_s _ _ _
  have fr := fr.put eg_2 (by simp)
  have eop : o_clear (nI k) S = (0, 0, (setR S.1 k [], S.2)) := by simp only [o_clear, e_k]
  have hO2 : ∀ i9, i9 < 38 → g_2 (x i9) = some (xcl cI cR x b F V U z fq i9) := by
    intro i9 hi9
    match i9, hi9 with
    | 0, _ => exact fr.at (h_nm (Ne.symm (xne38 hxi hk_k (by decide))) h_n0) (hO 0 (by decide))
    | 1, _ => exact fr.at (h_nm (Ne.symm (xne38 hxi hk_k (by decide))) h_n0) (hO 1 (by decide))
    | 2, _ => exact fr.at (h_nm (Ne.symm (xne38 hxi hk_k (by decide))) h_n0) (hO 2 (by decide))
    | 3, _ => exact fr.at (h_nm (Ne.symm (xne38 hxi hk_k (by decide))) h_n0) (hO 3 (by decide))
    | 4, _ => exact fr.at (h_nm (Ne.symm (xne38 hxi hk_k (by decide))) h_n0) (hO 4 (by decide))
    | 5, _ => exact fr.at (h_nm (Ne.symm (xne38 hxi hk_k (by decide))) h_n0) (hO 5 (by decide))
    | 6, _ => exact fr.at (h_nm (Ne.symm (xne38 hxi hk_k (by decide))) h_n0) (hO 6 (by decide))
    | 7, _ => exact fr.at (h_nm (Ne.symm (xne38 hxi hk_k (by decide))) h_n0) (hO 7 (by decide))
    | 8, _ => exact fr.at (h_nm (Ne.symm (xne38 hxi hk_k (by decide))) h_n0) (hO 8 (by decide))
    | 9, _ => exact fr.at (h_nm (Ne.symm (xne38 hxi hk_k (by decide))) h_n0) (hO 9 (by decide))
    | 10, _ => exact fr.at (h_nm (Ne.symm (xne38 hxi hk_k (by decide))) h_n0) (hO 10 (by decide))
    | 11, _ => exact fr.at (h_nm (Ne.symm (xne38 hxi hk_k (by decide))) h_n0) (hO 11 (by decide))
    | 12, _ => exact fr.at (h_nm (Ne.symm (xne38 hxi hk_k (by decide))) h_n0) (hO 12 (by decide))
    | 13, _ => exact fr.at (h_nm (Ne.symm (xne38 hxi hk_k (by decide))) h_n0) (hO 13 (by decide))
    | 14, _ => exact fr.at (h_nm (Ne.symm (xne38 hxi hk_k (by decide))) h_n0) (hO 14 (by decide))
    | 15, _ => exact fr.at (h_nm (Ne.symm (xne38 hxi hk_k (by decide))) h_n0) (hO 15 (by decide))
    | 16, _ => exact fr.at (h_nm (Ne.symm (xne38 hxi hk_k (by decide))) h_n0) (hO 16 (by decide))
    | 17, _ => exact fr.at (h_nm (Ne.symm (xne38 hxi hk_k (by decide))) h_n0) (hO 17 (by decide))
    | 18, _ => exact fr.at (h_nm (Ne.symm (xne38 hxi hk_k (by decide))) h_n0) (hO 18 (by decide))
    | 19, _ => exact fr.at (h_nm (Ne.symm (xne38 hxi hk_k (by decide))) h_n0) (hO 19 (by decide))
    | 20, _ => exact fr.at (h_nm (Ne.symm (xne38 hxi hk_k (by decide))) h_n0) (hO 20 (by decide))
    | 21, _ => exact fr.at (h_nm (Ne.symm (xne38 hxi hk_k (by decide))) h_n0) (hO 21 (by decide))
    | 22, _ => exact fr.at (h_nm (Ne.symm (xne38 hxi hk_k (by decide))) h_n0) (hO 22 (by decide))
    | 23, _ => exact fr.at (h_nm (Ne.symm (xne38 hxi hk_k (by decide))) h_n0) (hO 23 (by decide))
    | 24, _ => exact fr.at (h_nm (Ne.symm (xne38 hxi hk_k (by decide))) h_n0) (hO 24 (by decide))
    | 25, _ => exact fr.at (h_nm (Ne.symm (xne38 hxi hk_k (by decide))) h_n0) (hO 25 (by decide))
    | 26, _ => exact fr.at (h_nm (Ne.symm (xne38 hxi hk_k (by decide))) h_n0) (hO 26 (by decide))
    | 27, _ => exact fr.at (h_nm (Ne.symm (xne38 hxi hk_k (by decide))) h_n0) (hO 27 (by decide))
    | 28, _ => exact fr.at (h_nm (Ne.symm (xne38 hxi hk_k (by decide))) h_n0) (hO 28 (by decide))
    | 29, _ => exact fr.at (h_nm (Ne.symm (xne38 hxi hk_k (by decide))) h_n0) (hO 29 (by decide))
    | 30, _ => exact fr.at (h_nm (Ne.symm (xne38 hxi hk_k (by decide))) h_n0) (hO 30 (by decide))
    | 31, _ => exact fr.at (h_nm (Ne.symm (xne38 hxi hk_k (by decide))) h_n0) (hO 31 (by decide))
    | 32, _ => exact fr.at (h_nm (Ne.symm (xne38 hxi hk_k (by decide))) h_n0) (hO 32 (by decide))
    | 33, _ => exact fr.at (h_nm (Ne.symm (xne38 hxi hk_k (by decide))) h_n0) (hO 33 (by decide))
    | 34, _ => exact fr.at (h_nm (Ne.symm (xne38 hxi hk_k (by decide))) h_n0) (hO 34 (by decide))
    | 35, _ => exact fr.at (h_nm (Ne.symm (xne38 hxi hk_k (by decide))) h_n0) (hO 35 (by decide))
    | 36, _ => exact fr.at (h_nm (Ne.symm (xne38 hxi hk_k (by decide))) h_n0) (hO 36 (by decide))
    | 37, _ => exact fr.at (h_nm (Ne.symm (xne38 hxi hk_k (by decide))) h_n0) (hO 37 (by decide))
    | i9 + 38, h => omega
  have hrow2 : ∀ i9, i9 < 6 → g_2 (x (38 + i9)) = some (.inr (5, [.ref (x (44 + i9)), .int (nI ((setR S.1 k [], S.2).1 i9).length)])) ∧ g_2 (x (44 + i9)) = some (.inl (cI, 60, .inl ((fun i9 => if i9 = k then (FR k) else FR i9) i9))) ∧ rp ((fun i9 => if i9 = k then (FR k) else FR i9) i9) ((setR S.1 k [], S.2).1 i9) := by
    intro i9 hi9
    obtain ⟨d1, d2, d3⟩ := hrow i9 hi9
    by_cases e : i9 = k
    · rw [e]
      have e1 : setR S.1 k [] k = [] := setR_s _ _ _
      dsimp only; rw [if_pos rfl, e1]
      exact ⟨f2_3, f2_2, (rp_nil _)⟩
    · have e1 : setR S.1 k [] i9 = S.1 i9 := setR_n _ _ e
      dsimp only; rw [if_neg e, e1]
      exact ⟨fr.at (h_nm (xne hxi (by omega) (by omega) (by omega)) h_n0) d1, fr.at (h_nm (Ne.symm (xneRL hxi hk_k hi9)) h_n0) d2, d3⟩
  have hrep : repX cI cR g_2 x (setR S.1 k [], S.2) := ⟨hxi, (stok_setR hok (Nat.zero_le _)), b, F, V, U, z, fq, (fun i9 => if i9 = k then (FR k) else FR i9), hb, hO2, hfq, hrow2, hv9, hA_, hB_, hv12, hH_, hv19, hZ_, hV_, hv22, hL_, (by rcases (show b = 0 ∨ b = 1 by omega) with rfl | rfl <;> exact hvm), (by rcases (show b = 0 ∨ b = 1 by omega) with rfl | rfl <;> exact hC_)⟩
  have fr9 : hfr g g_2 (xS x) := fr.mono (by intro q hq; simp only [List.mem_cons, List.not_mem_nil, or_false] at hq; rcases hq with rfl <;> exact xS_mem x (by first | decide | omega))
  exact hend _ _ _ _ _ _ _ (by decide) (by decide) ⟨fr9, by rw [eop]; exact hrep, by rw [eop]⟩ hg hS dMR_clear_9
set_option maxRecDepth 100000 in
set_option maxHeartbeats 4000000 in
theorem c_MR_size (l : Launch) (D : va_G) (cI cR cJ : ClassId) (g : Nat → Option va_E) (sz : Nat) (hst : l.stackTraces = false) (x : Nat → Nat) (S : ST) (r : Int32) (HX : repX cI cR g x S) : xMi l yMR_size cMR_size 2 .int (hRm 7 115 1 6) D (hT cI cR cJ) g sz [.ref (x 0), .int r] (fun o g1 => hfr g g1 (xS x) ∧ repX cI cR g1 x (o_size r S).2.2 ∧ (o_size r S).1 = 0 ∧ o = (o_size r S).2.1) (fun E_ g1 => hfr g g1 (xS x) ∧ repX cI cR g1 x (o_size r S).2.2 ∧ ((o_size r S).1 = 1 ∧ E_ = eI ∨ (o_size r S).1 = 2 ∧ E_ = eU)) := by
  refine xMi_of (by decide +kernel) rfl (Nat.le_of_ble_eq_true rfl) hst ⟨by decide, by decide⟩ ?_
  intro pX eV RX sX mX argsX belowX methX cX QX AX hR S0 hnm hsz hg hK hS hA0 hx hz hend hout hthr ls hl
  have hl : lv_has ls 2 [(0, .ref (x 0)), (1, .int r)] := hl
  have HX0 := HX
  obtain ⟨hxi, hok, b, F, V, U, z, fq, FR, hb, hO, hfq, hrow, hv9, hA_, hB_, hv12, hH_, hv19, hZ_, hV_, hv22, hL_, hvm, hC_⟩ := HX
  have hO0 : g (x 0) = some (.inr (7, [.ref (x 1), .ref (x 9), .ref (x 12), .ref (x 16), .ref (x 19), .ref (x (24 + 7 * b)), .ref (x (31 - 7 * b))])) := hO 0 (by decide)
  have hO1 : g (x 1) = some (.inl (cR, 6, .inr (.inr (.inr (.inr fq))))) := hO 1 (by decide)
  have fr : hfr g g [] := hfr.rf
  refine lv_aload_n S0.1 S0.2.1 dMR_size_0 rfl (lv_at hl 0 rfl) ?_
  refine lv_iload_n S0.1 S0.2.1 dMR_size_1 rfl (lv_at hl 1 rfl) ?_
  refine hx_Vr (As := [.int r]) (rest := []) S0 hK hg hS hA0 hx hz hO0 rfl (c_MR_rowAt l D cI cR cJ g _ hst x fq r _ _ _ _ _ _ hO0 hO1 hfq) kMR_rowAt lm_MR_64 (hR.call rfl) rfl hl.1 rfl (Nat.le_of_ble_eq_true rfl) dMR_size_2 (hR.new (by decide) (by decide)) (fun E_ ce_ q_ g_1 H locs hpx hg hS hq1 hq2 hq3 => ?_) (fun r_2 g_1 H locs hp_2 hg hS => ?_)
  · skip
    obtain ⟨eE, eg, e_k⟩ := hpx
    subst eE
    rw [eg] at hg
    have eop : o_size r S = (1, 0, S) := by unfold o_size; rw [e_k]
    have hrep : repX cI cR g x S := HX0
    have fr9 : hfr g g (xS x) := hfr.rf
    exact hout _ _ _ g _ _ _ _ _ _ _ (by decide) (by decide) (⟨fr9, by rw [eop]; exact hrep, Or.inl ⟨by rw [eop], rfl⟩⟩) hg hS hq1 hq2 hq3
  obtain ⟨eg, k, hk_k, ek, er⟩ := hp_2
  subst er
  subst ek
  rw [eg] at hg
  have e_k : ix (nI k) 6 = some k := ix_some hk_k (by decide)
  obtain ⟨ro_k, rl_k, rp_k⟩ := hrow k hk_k
  have hn_k := hok.1 k hk_k
  refine hw_get S0 hK hg ro_k rfl inRo 1 (by decide) lf_MR_68 rfl rfl dMR_size_5 ?_
  have eop : o_size (nI k) S = (0, nI (S.1 k).length, S) := by simp only [o_size, e_k]
  have hO2 : ∀ i9, i9 < 38 → g (x i9) = some (xcl cI cR x b F V U z fq i9) := by
    intro i9 hi9
    match i9, hi9 with
    | 0, _ => exact fr.at h_n0 (hO 0 (by decide))
    | 1, _ => exact fr.at h_n0 (hO 1 (by decide))
    | 2, _ => exact fr.at h_n0 (hO 2 (by decide))
    | 3, _ => exact fr.at h_n0 (hO 3 (by decide))
    | 4, _ => exact fr.at h_n0 (hO 4 (by decide))
    | 5, _ => exact fr.at h_n0 (hO 5 (by decide))
    | 6, _ => exact fr.at h_n0 (hO 6 (by decide))
    | 7, _ => exact fr.at h_n0 (hO 7 (by decide))
    | 8, _ => exact fr.at h_n0 (hO 8 (by decide))
    | 9, _ => exact fr.at h_n0 (hO 9 (by decide))
    | 10, _ => exact fr.at h_n0 (hO 10 (by decide))
    | 11, _ => exact fr.at h_n0 (hO 11 (by decide))
    | 12, _ => exact fr.at h_n0 (hO 12 (by decide))
    | 13, _ => exact fr.at h_n0 (hO 13 (by decide))
    | 14, _ => exact fr.at h_n0 (hO 14 (by decide))
    | 15, _ => exact fr.at h_n0 (hO 15 (by decide))
    | 16, _ => exact fr.at h_n0 (hO 16 (by decide))
    | 17, _ => exact fr.at h_n0 (hO 17 (by decide))
    | 18, _ => exact fr.at h_n0 (hO 18 (by decide))
    | 19, _ => exact fr.at h_n0 (hO 19 (by decide))
    | 20, _ => exact fr.at h_n0 (hO 20 (by decide))
    | 21, _ => exact fr.at h_n0 (hO 21 (by decide))
    | 22, _ => exact fr.at h_n0 (hO 22 (by decide))
    | 23, _ => exact fr.at h_n0 (hO 23 (by decide))
    | 24, _ => exact fr.at h_n0 (hO 24 (by decide))
    | 25, _ => exact fr.at h_n0 (hO 25 (by decide))
    | 26, _ => exact fr.at h_n0 (hO 26 (by decide))
    | 27, _ => exact fr.at h_n0 (hO 27 (by decide))
    | 28, _ => exact fr.at h_n0 (hO 28 (by decide))
    | 29, _ => exact fr.at h_n0 (hO 29 (by decide))
    | 30, _ => exact fr.at h_n0 (hO 30 (by decide))
    | 31, _ => exact fr.at h_n0 (hO 31 (by decide))
    | 32, _ => exact fr.at h_n0 (hO 32 (by decide))
    | 33, _ => exact fr.at h_n0 (hO 33 (by decide))
    | 34, _ => exact fr.at h_n0 (hO 34 (by decide))
    | 35, _ => exact fr.at h_n0 (hO 35 (by decide))
    | 36, _ => exact fr.at h_n0 (hO 36 (by decide))
    | 37, _ => exact fr.at h_n0 (hO 37 (by decide))
    | i9 + 38, h => omega
  have hrow2 : ∀ i9, i9 < 6 → g (x (38 + i9)) = some (.inr (5, [.ref (x (44 + i9)), .int (nI (S.1 i9).length)])) ∧ g (x (44 + i9)) = some (.inl (cI, 60, .inl (FR i9))) ∧ rp (FR i9) (S.1 i9) := by
    intro i9 hi9
    obtain ⟨d1, d2, d3⟩ := hrow i9 hi9
    exact ⟨fr.at h_n0 d1, fr.at h_n0 d2, d3⟩
  have hrep : repX cI cR g x S := ⟨hxi, hok, b, F, V, U, z, fq, FR, hb, hO2, hfq, hrow2, hv9, hA_, hB_, hv12, hH_, hv19, hZ_, hV_, hv22, hL_, (by rcases (show b = 0 ∨ b = 1 by omega) with rfl | rfl <;> exact hvm), (by rcases (show b = 0 ∨ b = 1 by omega) with rfl | rfl <;> exact hC_)⟩
  have fr9 : hfr g g (xS x) := fr.mono (fun q hq => absurd hq List.not_mem_nil)
  exact hend _ _ _ _ _ _ _ _ (by decide) (by decide) rfl ⟨fr9, by rw [eop]; exact hrep, by rw [eop], by rw [eop]⟩ hg hS dMR_size_8
set_option maxRecDepth 100000 in
set_option maxHeartbeats 4000000 in
theorem c_MR_get (l : Launch) (D : va_G) (cI cR cJ : ClassId) (g : Nat → Option va_E) (sz : Nat) (hst : l.stackTraces = false) (x : Nat → Nat) (S : ST) (r j : Int32) (HX : repX cI cR g x S) : xMi l yMR_get cMR_get 4 .int (hRm 7 115 2 12) D (hT cI cR cJ) g sz [.ref (x 0), .int r, .int j] (fun o g1 => hfr g g1 (xS x) ∧ repX cI cR g1 x (o_get r j S).2.2 ∧ (o_get r j S).1 = 0 ∧ o = (o_get r j S).2.1) (fun E_ g1 => hfr g g1 (xS x) ∧ repX cI cR g1 x (o_get r j S).2.2 ∧ ((o_get r j S).1 = 1 ∧ E_ = eI ∨ (o_get r j S).1 = 2 ∧ E_ = eX)) := by
  refine xMi_of (by decide +kernel) rfl (Nat.le_of_ble_eq_true rfl) hst ⟨by decide, by decide⟩ ?_
  intro pX eV RX sX mX argsX belowX methX cX QX AX hR S0 hnm hsz hg hK hS hA0 hx hz hend hout hthr ls hl
  have hl : lv_has ls 4 [(0, .ref (x 0)), (1, .int r), (2, .int j)] := hl
  have HX0 := HX
  obtain ⟨hxi, hok, b, F, V, U, z, fq, FR, hb, hO, hfq, hrow, hv9, hA_, hB_, hv12, hH_, hv19, hZ_, hV_, hv22, hL_, hvm, hC_⟩ := HX
  have hO0 : g (x 0) = some (.inr (7, [.ref (x 1), .ref (x 9), .ref (x 12), .ref (x 16), .ref (x 19), .ref (x (24 + 7 * b)), .ref (x (31 - 7 * b))])) := hO 0 (by decide)
  have hO1 : g (x 1) = some (.inl (cR, 6, .inr (.inr (.inr (.inr fq))))) := hO 1 (by decide)
  have fr : hfr g g [] := hfr.rf
  refine lv_aload_n S0.1 S0.2.1 dMR_get_0 rfl (lv_at hl 0 rfl) ?_
  refine lv_iload_n S0.1 S0.2.1 dMR_get_1 rfl (lv_at hl 1 rfl) ?_
  refine hx_Vr (As := [.int r]) (rest := []) S0 hK hg hS hA0 hx hz hO0 rfl (c_MR_rowAt l D cI cR cJ g _ hst x fq r _ _ _ _ _ _ hO0 hO1 hfq) kMR_rowAt lm_MR_64 (hR.call rfl) rfl hl.1 rfl (Nat.le_of_ble_eq_true rfl) dMR_get_2 (hR.new (by decide) (by decide)) (fun E_ ce_ q_ g_1 H locs hpx hg hS hq1 hq2 hq3 => ?_) (fun r_2 g_1 H locs hp_2 hg hS => ?_)
  · skip
    obtain ⟨eE, eg, e_k⟩ := hpx
    subst eE
    rw [eg] at hg
    have eop : o_get r j S = (1, 0, S) := by unfold o_get; rw [e_k]
    have hrep : repX cI cR g x S := HX0
    have fr9 : hfr g g (xS x) := hfr.rf
    exact hout _ _ _ g _ _ _ _ _ _ _ (by decide) (by decide) (⟨fr9, by rw [eop]; exact hrep, Or.inl ⟨by rw [eop], rfl⟩⟩) hg hS hq1 hq2 hq3
  obtain ⟨eg, k, hk_k, ek, er⟩ := hp_2
  subst er
  subst ek
  rw [eg] at hg
  have e_k : ix (nI k) 6 = some k := ix_some hk_k (by decide)
  obtain ⟨ro_k, rl_k, rp_k⟩ := hrow k hk_k
  have hn_k := hok.1 k hk_k
  refine lv_astore_n (lv' := [(3, .ref (x (38 + k))), (0, .ref (x 0)), (1, .int (nI k)), (2, .int j)]) S0.1 S0.2.1 dMR_get_5 rfl hl (by decide) rfl (fun ls hl => ?_)
  refine lv_iload_n S0.1 S0.2.1 dMR_get_6 rfl (lv_at hl 3 rfl) ?_
  refine lv_if_lt (tgt := 18) S0.1 S0.2.1 dMR_get_7 (by decide) (fun c_7 => ?_) (fun c_7 => ?_)
  · skip
    have e_j : ix j (S.1 k).length = none := ix_neg c_7
    have eop : o_get (nI k) j S = (2, 0, S) := by simp only [o_get, e_k, e_j]
    have hrep : repX cI cR g x S := HX0
    have fr9 : hfr g g (xS x) := hfr.rf
    exact hthr eX "no such line" 82 84 86 18 g _ _ _ _ _ _ site_MR_get_18 (⟨fr9, by rw [eop]; exact hrep, Or.inr ⟨by rw [eop], rfl⟩⟩) hg hS hl.1 (Nat.le_of_ble_eq_true rfl) (by decide) (by decide)
  · skip
    obtain ⟨y, hy, rfl⟩ := nI_of c_7
    refine lv_iload_n S0.1 S0.2.1 dMR_get_10 rfl (lv_at hl 3 rfl) ?_
    refine lv_aload_n S0.1 S0.2.1 dMR_get_11 rfl (lv_at hl 0 rfl) ?_
    refine hw_get S0 hK hg ro_k rfl inRo 1 (by decide) lf_MR_68 rfl rfl dMR_get_12 ?_
    refine lv_icmp_lt (tgt := 28) S0.1 S0.2.1 dMR_get_15 (by decide) (fun c_15 => ?_) (fun c_15 => ?_)
    · skip
      have c_15 : y < ((S.1 k).length) := (nI_ltI (by omega) (by omega)).mp c_15
      have e_j : ix (nI y) (S.1 k).length = some y := ix_some c_15 (by omega)
      refine lv_aload_n S0.1 S0.2.1 dMR_get_28 rfl (lv_at hl 0 rfl) ?_
      refine hw_get S0 hK hg ro_k rfl inRo 0 (by decide) lf_MR_87 rfl rfl dMR_get_29 ?_
      refine lv_iload_n S0.1 S0.2.1 dMR_get_32 rfl (lv_at hl 3 rfl) ?_
      refine hw_iald S0 hK hg rl_k 0 rfl (by omega) (by omega) dMR_get_33 ?_
      have eop : o_get (nI k) (nI y) S = (0, (S.1 k).getD y 0, S) := by simp only [o_get, e_k, e_j]
      have hO2 : ∀ i9, i9 < 38 → g (x i9) = some (xcl cI cR x b F V U z fq i9) := by
        intro i9 hi9
        match i9, hi9 with
        | 0, _ => exact fr.at h_n0 (hO 0 (by decide))
        | 1, _ => exact fr.at h_n0 (hO 1 (by decide))
        | 2, _ => exact fr.at h_n0 (hO 2 (by decide))
        | 3, _ => exact fr.at h_n0 (hO 3 (by decide))
        | 4, _ => exact fr.at h_n0 (hO 4 (by decide))
        | 5, _ => exact fr.at h_n0 (hO 5 (by decide))
        | 6, _ => exact fr.at h_n0 (hO 6 (by decide))
        | 7, _ => exact fr.at h_n0 (hO 7 (by decide))
        | 8, _ => exact fr.at h_n0 (hO 8 (by decide))
        | 9, _ => exact fr.at h_n0 (hO 9 (by decide))
        | 10, _ => exact fr.at h_n0 (hO 10 (by decide))
        | 11, _ => exact fr.at h_n0 (hO 11 (by decide))
        | 12, _ => exact fr.at h_n0 (hO 12 (by decide))
        | 13, _ => exact fr.at h_n0 (hO 13 (by decide))
        | 14, _ => exact fr.at h_n0 (hO 14 (by decide))
        | 15, _ => exact fr.at h_n0 (hO 15 (by decide))
        | 16, _ => exact fr.at h_n0 (hO 16 (by decide))
        | 17, _ => exact fr.at h_n0 (hO 17 (by decide))
        | 18, _ => exact fr.at h_n0 (hO 18 (by decide))
        | 19, _ => exact fr.at h_n0 (hO 19 (by decide))
        | 20, _ => exact fr.at h_n0 (hO 20 (by decide))
        | 21, _ => exact fr.at h_n0 (hO 21 (by decide))
        | 22, _ => exact fr.at h_n0 (hO 22 (by decide))
        | 23, _ => exact fr.at h_n0 (hO 23 (by decide))
        | 24, _ => exact fr.at h_n0 (hO 24 (by decide))
        | 25, _ => exact fr.at h_n0 (hO 25 (by decide))
        | 26, _ => exact fr.at h_n0 (hO 26 (by decide))
        | 27, _ => exact fr.at h_n0 (hO 27 (by decide))
        | 28, _ => exact fr.at h_n0 (hO 28 (by decide))
        | 29, _ => exact fr.at h_n0 (hO 29 (by decide))
        | 30, _ => exact fr.at h_n0 (hO 30 (by decide))
        | 31, _ => exact fr.at h_n0 (hO 31 (by decide))
        | 32, _ => exact fr.at h_n0 (hO 32 (by decide))
        | 33, _ => exact fr.at h_n0 (hO 33 (by decide))
        | 34, _ => exact fr.at h_n0 (hO 34 (by decide))
        | 35, _ => exact fr.at h_n0 (hO 35 (by decide))
        | 36, _ => exact fr.at h_n0 (hO 36 (by decide))
        | 37, _ => exact fr.at h_n0 (hO 37 (by decide))
        | i9 + 38, h => omega
      have hrow2 : ∀ i9, i9 < 6 → g (x (38 + i9)) = some (.inr (5, [.ref (x (44 + i9)), .int (nI (S.1 i9).length)])) ∧ g (x (44 + i9)) = some (.inl (cI, 60, .inl (FR i9))) ∧ rp (FR i9) (S.1 i9) := by
        intro i9 hi9
        obtain ⟨d1, d2, d3⟩ := hrow i9 hi9
        exact ⟨fr.at h_n0 d1, fr.at h_n0 d2, d3⟩
      have hrep : repX cI cR g x S := ⟨hxi, hok, b, F, V, U, z, fq, FR, hb, hO2, hfq, hrow2, hv9, hA_, hB_, hv12, hH_, hv19, hZ_, hV_, hv22, hL_, (by rcases (show b = 0 ∨ b = 1 by omega) with rfl | rfl <;> exact hvm), (by rcases (show b = 0 ∨ b = 1 by omega) with rfl | rfl <;> exact hC_)⟩
      have fr9 : hfr g g (xS x) := fr.mono (fun q hq => absurd hq List.not_mem_nil)
      exact hend _ _ _ _ _ _ _ _ (by decide) (by decide) rfl ⟨fr9, by rw [eop]; exact hrep, by rw [eop], by rw [eop]; exact rp_k y c_15⟩ hg hS dMR_get_34
    · skip
      have c_15 : ¬ (y < ((S.1 k).length)) := fun h => c_15 ((nI_ltI (by omega) (by omega)).mpr h)
      have e_j : ix (nI y) (S.1 k).length = none := ix_ge (by omega) hy
      have eop : o_get (nI k) (nI y) S = (2, 0, S) := by simp only [o_get, e_k, e_j]
      have hrep : repX cI cR g x S := HX0
      have fr9 : hfr g g (xS x) := hfr.rf
      exact hthr eX "no such line" 82 84 86 18 g _ _ _ _ _ _ site_MR_get_18 (⟨fr9, by rw [eop]; exact hrep, Or.inr ⟨by rw [eop], rfl⟩⟩) hg hS hl.1 (Nat.le_of_ble_eq_true rfl) (by decide) (by decide)
set_option maxRecDepth 100000 in
set_option maxHeartbeats 4000000 in
theorem c_MR_pair (l : Launch) (D : va_G) (cI cR cJ : ClassId) (g : Nat → Option va_E) (sz : Nat) (hst : l.stackTraces = false) (x : Nat → Nat) (S : ST) (k w : Int32) (HX : repX cI cR g x S) : xMi l yMR_pair cMR_pair 3 .int (hRm 6 90 1 6) D (hT cI cR cJ) g sz [.ref (x 0), .int k, .int w] (fun o g1 => hfr g g1 (xS x) ∧ repX cI cR g1 x (o_pair k w S).2.2 ∧ (o_pair k w S).1 = 0 ∧ o = (o_pair k w S).2.1) (fun E_ g1 => hfr g g1 (xS x) ∧ repX cI cR g1 x (o_pair k w S).2.2 ∧ ((o_pair k w S).1 = 1 ∧ E_ = eX ∨ (o_pair k w S).1 = 2 ∧ E_ = eU)) := by
  refine xMi_of (by decide +kernel) rfl (Nat.le_of_ble_eq_true rfl) hst ⟨by decide, by decide⟩ ?_
  intro pX eV RX sX mX argsX belowX methX cX QX AX hR S0 hnm hsz hg hK hS hA0 hx hz hend hout hthr ls hl
  have hl : lv_has ls 3 [(0, .ref (x 0)), (1, .int k), (2, .int w)] := hl
  have HX0 := HX
  obtain ⟨hxi, hok, b, F, V, U, z, fq, FR, hb, hO, hfq, hrow, hv9, hA_, hB_, hv12, hH_, hv19, hZ_, hV_, hv22, hL_, hvm, hC_⟩ := HX
  have hO0 : g (x 0) = some (.inr (7, [.ref (x 1), .ref (x 9), .ref (x 12), .ref (x 16), .ref (x 19), .ref (x (24 + 7 * b)), .ref (x (31 - 7 * b))])) := hO 0 (by decide)
  have hO1 : g (x 1) = some (.inl (cR, 6, .inr (.inr (.inr (.inr fq))))) := hO 1 (by decide)
  have hO9 : g (x 9) = some (.inr (0, [.ref (x 10), .ref (x 11), .int (V 9), .ref (x 2)])) := hO 9 (by decide)
  rw [hv9] at hO9
  have hO10 : g (x 10) = some (.inl (cI, 60, .inl (F 10))) := hO 10 (by decide)
  have hO11 : g (x 11) = some (.inl (cI, 60, .inl (F 11))) := hO 11 (by decide)
  have fr : hfr g g [] := hfr.rf
  have hk60 : S.2.1.length ≤ 60 := by obtain ⟨o1, o2, o3, o4, o5⟩ := hok; omega
  refine lv_iload_n S0.1 S0.2.1 dMR_pair_0 rfl (lv_at hl 1 rfl) ?_
  refine lv_if_lt (tgt := 24) S0.1 S0.2.1 dMR_pair_1 (by decide) (fun c_1 => ?_) (fun c_1 => ?_)
  · skip
    have e_1 : ix k S.2.1.length = none := ix_neg c_1
    have eop : o_pair k w S = (1, 0, S) := by unfold o_pair; first | (rw [e_1]; done) | (rw [e_1, e_2]; done)
    have hrep : repX cI cR g x S := HX0
    have fr9 : hfr g g (xS x) := hfr.rf
    exact hthr eX "no such pair or side" 82 96 86 24 g _ _ _ _ _ _ site_MR_pair_24 (⟨fr9, by rw [eop]; exact hrep, Or.inl ⟨by rw [eop], rfl⟩⟩) hg hS hl.1 (Nat.le_of_ble_eq_true rfl) (by decide) (by decide)
  · skip
    obtain ⟨i, hi, rfl⟩ := nI_of c_1
    refine lv_iload_n S0.1 S0.2.1 dMR_pair_4 rfl (lv_at hl 1 rfl) ?_
    refine lv_aload_n S0.1 S0.2.1 dMR_pair_5 rfl (lv_at hl 0 rfl) ?_
    refine hw_get S0 hK hg hO0 rfl inMR 1 (by decide) lf_MR_23 rfl rfl dMR_pair_6 ?_
    refine hw_get S0 hK hg hO9 rfl inCo 2 (by decide) lf_MR_95 rfl rfl dMR_pair_9 ?_
    refine lv_icmp_ge (tgt := 24) S0.1 S0.2.1 dMR_pair_12 (by decide) (fun c_12 => ?_) (fun c_12 => ?_)
    · skip
      have c_12 : S.2.1.length ≤ i := (nI_leI (by omega) (by omega)).mp c_12
      have e_1 : ix (nI i) S.2.1.length = none := ix_ge c_12 hi
      have eop : o_pair (nI i) w S = (1, 0, S) := by unfold o_pair; first | (rw [e_1]; done) | (rw [e_1, e_2]; done)
      have hrep : repX cI cR g x S := HX0
      have fr9 : hfr g g (xS x) := hfr.rf
      exact hthr eX "no such pair or side" 82 96 86 24 g _ _ _ _ _ _ site_MR_pair_24 (⟨fr9, by rw [eop]; exact hrep, Or.inl ⟨by rw [eop], rfl⟩⟩) hg hS hl.1 (Nat.le_of_ble_eq_true rfl) (by decide) (by decide)
    · skip
      have c_12 : ¬ (S.2.1.length ≤ i) := fun h => c_12 ((nI_leI (by omega) (by omega)).mpr h)
      have e_1 : ix (nI i) S.2.1.length = some i := ix_some (by omega) (by omega)
      refine lv_iload_n S0.1 S0.2.1 dMR_pair_15 rfl (lv_at hl 2 rfl) ?_
      refine lv_if_lt (tgt := 24) S0.1 S0.2.1 dMR_pair_16 (by decide) (fun c_16 => ?_) (fun c_16 => ?_)
      · skip
        have e_2 : ix w 2 = none := ix_neg c_16
        have eop : o_pair (nI i) w S = (1, 0, S) := by unfold o_pair; first | (rw [e_1]; done) | (rw [e_1, e_2]; done)
        have hrep : repX cI cR g x S := HX0
        have fr9 : hfr g g (xS x) := hfr.rf
        exact hthr eX "no such pair or side" 82 96 86 24 g _ _ _ _ _ _ site_MR_pair_24 (⟨fr9, by rw [eop]; exact hrep, Or.inl ⟨by rw [eop], rfl⟩⟩) hg hS hl.1 (Nat.le_of_ble_eq_true rfl) (by decide) (by decide)
      · skip
        obtain ⟨j, hj, rfl⟩ := nI_of c_16
        refine lv_iload_n S0.1 S0.2.1 dMR_pair_19 rfl (lv_at hl 2 rfl) ?_
        refine lv_iconst (v := nI 1) S0.1 S0.2.1 dMR_pair_20 (by decide) ?_
        refine lv_icmp_le (tgt := 34) S0.1 S0.2.1 dMR_pair_21 (by decide) (fun c_21 => ?_) (fun c_21 => ?_)
        · skip
          have c_21 : j ≤ 1 := (nI_leI (by omega) (by omega)).mp c_21
          have e_2 : ix (nI j) 2 = some j := ix_some (by omega) (by decide)
          refine lv_iload_n S0.1 S0.2.1 dMR_pair_34 rfl (lv_at hl 2 rfl) ?_
          refine lv_if_ne (tgt := 50) S0.1 S0.2.1 dMR_pair_35 (by decide) (fun c_35 => ?_) (fun c_35 => ?_)
          · skip
            rw [← nI_0] at c_35
            have c_35 : ¬ (j = 0) := fun h => c_35 ((nI_eq (by omega) (by omega)).mpr h)
            refine lv_aload_n S0.1 S0.2.1 dMR_pair_50 rfl (lv_at hl 0 rfl) ?_
            refine hw_get S0 hK hg hO0 rfl inMR 1 (by decide) lf_MR_23 rfl rfl dMR_pair_51 ?_
            refine hw_get S0 hK hg hO9 rfl inCo 1 (by decide) lf_MR_101 rfl rfl dMR_pair_54 ?_
            refine lv_iload_n S0.1 S0.2.1 dMR_pair_57 rfl (lv_at hl 1 rfl) ?_
            refine hw_iald S0 hK hg hO11 0 rfl (by omega) (by omega) dMR_pair_58 ?_
            have eop : o_pair (nI i) (nI j) S = (0, nI (if j = 0 then (S.2.1.getD i (0, 0)).1 else (S.2.1.getD i (0, 0)).2), S) := by unfold o_pair; rw [e_1, e_2]
            have hO2 : ∀ i9, i9 < 38 → g (x i9) = some (xcl cI cR x b F V U z fq i9) := by
              intro i9 hi9
              match i9, hi9 with
              | 0, _ => exact fr.at h_n0 (hO 0 (by decide))
              | 1, _ => exact fr.at h_n0 (hO 1 (by decide))
              | 2, _ => exact fr.at h_n0 (hO 2 (by decide))
              | 3, _ => exact fr.at h_n0 (hO 3 (by decide))
              | 4, _ => exact fr.at h_n0 (hO 4 (by decide))
              | 5, _ => exact fr.at h_n0 (hO 5 (by decide))
              | 6, _ => exact fr.at h_n0 (hO 6 (by decide))
              | 7, _ => exact fr.at h_n0 (hO 7 (by decide))
              | 8, _ => exact fr.at h_n0 (hO 8 (by decide))
              | 9, _ => exact fr.at h_n0 (hO 9 (by decide))
              | 10, _ => exact fr.at h_n0 (hO 10 (by decide))
              | 11, _ => exact fr.at h_n0 (hO 11 (by decide))
              | 12, _ => exact fr.at h_n0 (hO 12 (by decide))
              | 13, _ => exact fr.at h_n0 (hO 13 (by decide))
              | 14, _ => exact fr.at h_n0 (hO 14 (by decide))
              | 15, _ => exact fr.at h_n0 (hO 15 (by decide))
              | 16, _ => exact fr.at h_n0 (hO 16 (by decide))
              | 17, _ => exact fr.at h_n0 (hO 17 (by decide))
              | 18, _ => exact fr.at h_n0 (hO 18 (by decide))
              | 19, _ => exact fr.at h_n0 (hO 19 (by decide))
              | 20, _ => exact fr.at h_n0 (hO 20 (by decide))
              | 21, _ => exact fr.at h_n0 (hO 21 (by decide))
              | 22, _ => exact fr.at h_n0 (hO 22 (by decide))
              | 23, _ => exact fr.at h_n0 (hO 23 (by decide))
              | 24, _ => exact fr.at h_n0 (hO 24 (by decide))
              | 25, _ => exact fr.at h_n0 (hO 25 (by decide))
              | 26, _ => exact fr.at h_n0 (hO 26 (by decide))
              | 27, _ => exact fr.at h_n0 (hO 27 (by decide))
              | 28, _ => exact fr.at h_n0 (hO 28 (by decide))
              | 29, _ => exact fr.at h_n0 (hO 29 (by decide))
              | 30, _ => exact fr.at h_n0 (hO 30 (by decide))
              | 31, _ => exact fr.at h_n0 (hO 31 (by decide))
              | 32, _ => exact fr.at h_n0 (hO 32 (by decide))
              | 33, _ => exact fr.at h_n0 (hO 33 (by decide))
              | 34, _ => exact fr.at h_n0 (hO 34 (by decide))
              | 35, _ => exact fr.at h_n0 (hO 35 (by decide))
              | 36, _ => exact fr.at h_n0 (hO 36 (by decide))
              | 37, _ => exact fr.at h_n0 (hO 37 (by decide))
              | i9 + 38, h => omega
            have hrow2 : ∀ i9, i9 < 6 → g (x (38 + i9)) = some (.inr (5, [.ref (x (44 + i9)), .int (nI (S.1 i9).length)])) ∧ g (x (44 + i9)) = some (.inl (cI, 60, .inl (FR i9))) ∧ rp (FR i9) (S.1 i9) := by
              intro i9 hi9
              obtain ⟨d1, d2, d3⟩ := hrow i9 hi9
              exact ⟨fr.at h_n0 d1, fr.at h_n0 d2, d3⟩
            have hrep : repX cI cR g x S := ⟨hxi, hok, b, F, V, U, z, fq, FR, hb, hO2, hfq, hrow2, hv9, hA_, hB_, hv12, hH_, hv19, hZ_, hV_, hv22, hL_, (by rcases (show b = 0 ∨ b = 1 by omega) with rfl | rfl <;> exact hvm), (by rcases (show b = 0 ∨ b = 1 by omega) with rfl | rfl <;> exact hC_)⟩
            have fr9 : hfr g g (xS x) := fr.mono (fun q hq => absurd hq List.not_mem_nil)
            exact hend _ _ _ _ _ _ _ _ (by decide) (by decide) rfl ⟨fr9, by rw [eop]; exact hrep, by rw [eop], by rw [eop]; dsimp only; rw [if_neg c_35, hB_ i (by rw [List.length_map]; omega), map_getD (by omega)]⟩ hg hS dMR_pair_59
          · skip
            rw [← nI_0] at c_35
            have c_35 : j = 0 := (nI_eq (by omega) (by omega)).mp c_35
            refine lv_aload_n S0.1 S0.2.1 dMR_pair_38 rfl (lv_at hl 0 rfl) ?_
            refine hw_get S0 hK hg hO0 rfl inMR 1 (by decide) lf_MR_23 rfl rfl dMR_pair_39 ?_
            refine hw_get S0 hK hg hO9 rfl inCo 0 (by decide) lf_MR_98 rfl rfl dMR_pair_42 ?_
            refine lv_iload_n S0.1 S0.2.1 dMR_pair_45 rfl (lv_at hl 1 rfl) ?_
            refine hw_iald S0 hK hg hO10 0 rfl (by omega) (by omega) dMR_pair_46 ?_
            refine lv_goto (tgt := 59) S0.1 S0.2.1 dMR_pair_47 (by decide) ?_
            have eop : o_pair (nI i) (nI j) S = (0, nI (if j = 0 then (S.2.1.getD i (0, 0)).1 else (S.2.1.getD i (0, 0)).2), S) := by unfold o_pair; rw [e_1, e_2]
            have hO2 : ∀ i9, i9 < 38 → g (x i9) = some (xcl cI cR x b F V U z fq i9) := by
              intro i9 hi9
              match i9, hi9 with
              | 0, _ => exact fr.at h_n0 (hO 0 (by decide))
              | 1, _ => exact fr.at h_n0 (hO 1 (by decide))
              | 2, _ => exact fr.at h_n0 (hO 2 (by decide))
              | 3, _ => exact fr.at h_n0 (hO 3 (by decide))
              | 4, _ => exact fr.at h_n0 (hO 4 (by decide))
              | 5, _ => exact fr.at h_n0 (hO 5 (by decide))
              | 6, _ => exact fr.at h_n0 (hO 6 (by decide))
              | 7, _ => exact fr.at h_n0 (hO 7 (by decide))
              | 8, _ => exact fr.at h_n0 (hO 8 (by decide))
              | 9, _ => exact fr.at h_n0 (hO 9 (by decide))
              | 10, _ => exact fr.at h_n0 (hO 10 (by decide))
              | 11, _ => exact fr.at h_n0 (hO 11 (by decide))
              | 12, _ => exact fr.at h_n0 (hO 12 (by decide))
              | 13, _ => exact fr.at h_n0 (hO 13 (by decide))
              | 14, _ => exact fr.at h_n0 (hO 14 (by decide))
              | 15, _ => exact fr.at h_n0 (hO 15 (by decide))
              | 16, _ => exact fr.at h_n0 (hO 16 (by decide))
              | 17, _ => exact fr.at h_n0 (hO 17 (by decide))
              | 18, _ => exact fr.at h_n0 (hO 18 (by decide))
              | 19, _ => exact fr.at h_n0 (hO 19 (by decide))
              | 20, _ => exact fr.at h_n0 (hO 20 (by decide))
              | 21, _ => exact fr.at h_n0 (hO 21 (by decide))
              | 22, _ => exact fr.at h_n0 (hO 22 (by decide))
              | 23, _ => exact fr.at h_n0 (hO 23 (by decide))
              | 24, _ => exact fr.at h_n0 (hO 24 (by decide))
              | 25, _ => exact fr.at h_n0 (hO 25 (by decide))
              | 26, _ => exact fr.at h_n0 (hO 26 (by decide))
              | 27, _ => exact fr.at h_n0 (hO 27 (by decide))
              | 28, _ => exact fr.at h_n0 (hO 28 (by decide))
              | 29, _ => exact fr.at h_n0 (hO 29 (by decide))
              | 30, _ => exact fr.at h_n0 (hO 30 (by decide))
              | 31, _ => exact fr.at h_n0 (hO 31 (by decide))
              | 32, _ => exact fr.at h_n0 (hO 32 (by decide))
              | 33, _ => exact fr.at h_n0 (hO 33 (by decide))
              | 34, _ => exact fr.at h_n0 (hO 34 (by decide))
              | 35, _ => exact fr.at h_n0 (hO 35 (by decide))
              | 36, _ => exact fr.at h_n0 (hO 36 (by decide))
              | 37, _ => exact fr.at h_n0 (hO 37 (by decide))
              | i9 + 38, h => omega
            have hrow2 : ∀ i9, i9 < 6 → g (x (38 + i9)) = some (.inr (5, [.ref (x (44 + i9)), .int (nI (S.1 i9).length)])) ∧ g (x (44 + i9)) = some (.inl (cI, 60, .inl (FR i9))) ∧ rp (FR i9) (S.1 i9) := by
              intro i9 hi9
              obtain ⟨d1, d2, d3⟩ := hrow i9 hi9
              exact ⟨fr.at h_n0 d1, fr.at h_n0 d2, d3⟩
            have hrep : repX cI cR g x S := ⟨hxi, hok, b, F, V, U, z, fq, FR, hb, hO2, hfq, hrow2, hv9, hA_, hB_, hv12, hH_, hv19, hZ_, hV_, hv22, hL_, (by rcases (show b = 0 ∨ b = 1 by omega) with rfl | rfl <;> exact hvm), (by rcases (show b = 0 ∨ b = 1 by omega) with rfl | rfl <;> exact hC_)⟩
            have fr9 : hfr g g (xS x) := fr.mono (fun q hq => absurd hq List.not_mem_nil)
            exact hend _ _ _ _ _ _ _ _ (by decide) (by decide) rfl ⟨fr9, by rw [eop]; exact hrep, by rw [eop], by rw [eop]; dsimp only; rw [if_pos c_35, hA_ i (by rw [List.length_map]; omega), map_getD (by omega)]⟩ hg hS dMR_pair_59
        · skip
          have c_21 : ¬ (j ≤ 1) := fun h => c_21 ((nI_leI (by omega) (by omega)).mpr h)
          have e_2 : ix (nI j) 2 = none := ix_ge (by omega) hj
          have eop : o_pair (nI i) (nI j) S = (1, 0, S) := by unfold o_pair; first | (rw [e_1]; done) | (rw [e_1, e_2]; done)
          have hrep : repX cI cR g x S := HX0
          have fr9 : hfr g g (xS x) := hfr.rf
          exact hthr eX "no such pair or side" 82 96 86 24 g _ _ _ _ _ _ site_MR_pair_24 (⟨fr9, by rw [eop]; exact hrep, Or.inl ⟨by rw [eop], rfl⟩⟩) hg hS hl.1 (Nat.le_of_ble_eq_true rfl) (by decide) (by decide)
set_option maxRecDepth 100000 in
set_option maxHeartbeats 4000000 in
theorem c_MR_hunk (l : Launch) (D : va_G) (cI cR cJ : ClassId) (g : Nat → Option va_E) (sz : Nat) (hst : l.stackTraces = false) (x : Nat → Nat) (S : ST) (k w : Int32) (HX : repX cI cR g x S) : xMi l yMR_hunk cMR_hunk 3 .int (hRm 6 90 1 6) D (hT cI cR cJ) g sz [.ref (x 0), .int k, .int w] (fun o g1 => hfr g g1 (xS x) ∧ repX cI cR g1 x (o_hunk k w S).2.2 ∧ (o_hunk k w S).1 = 0 ∧ o = (o_hunk k w S).2.1) (fun E_ g1 => hfr g g1 (xS x) ∧ repX cI cR g1 x (o_hunk k w S).2.2 ∧ ((o_hunk k w S).1 = 1 ∧ E_ = eX ∨ (o_hunk k w S).1 = 2 ∧ E_ = eU)) := by
  refine xMi_of (by decide +kernel) rfl (Nat.le_of_ble_eq_true rfl) hst ⟨by decide, by decide⟩ ?_
  intro pX eV RX sX mX argsX belowX methX cX QX AX hR S0 hnm hsz hg hK hS hA0 hx hz hend hout hthr ls hl
  have hl : lv_has ls 3 [(0, .ref (x 0)), (1, .int k), (2, .int w)] := hl
  have HX0 := HX
  obtain ⟨hxi, hok, b, F, V, U, z, fq, FR, hb, hO, hfq, hrow, hv9, hA_, hB_, hv12, hH_, hv19, hZ_, hV_, hv22, hL_, hvm, hC_⟩ := HX
  have hO0 : g (x 0) = some (.inr (7, [.ref (x 1), .ref (x 9), .ref (x 12), .ref (x 16), .ref (x 19), .ref (x (24 + 7 * b)), .ref (x (31 - 7 * b))])) := hO 0 (by decide)
  have hO1 : g (x 1) = some (.inl (cR, 6, .inr (.inr (.inr (.inr fq))))) := hO 1 (by decide)
  have hO12 : g (x 12) = some (.inr (1, [.ref (x 13), .int (V 12), .ref (x 3)])) := hO 12 (by decide)
  rw [hv12] at hO12
  have hO13 : g (x 13) = some (.inl (cI, 244, .inl (F 13))) := hO 13 (by decide)
  have fr : hfr g g [] := hfr.rf
  have hk60 : S.2.2.1.length ≤ 61 := by obtain ⟨o1, o2, o3, o4, o5⟩ := hok; omega
  refine lv_iload_n S0.1 S0.2.1 dMR_hunk_0 rfl (lv_at hl 1 rfl) ?_
  refine lv_if_lt (tgt := 24) S0.1 S0.2.1 dMR_hunk_1 (by decide) (fun c_1 => ?_) (fun c_1 => ?_)
  · skip
    have e_1 : ix k S.2.2.1.length = none := ix_neg c_1
    have eop : o_hunk k w S = (1, 0, S) := by unfold o_hunk; first | (rw [e_1]; done) | (rw [e_1, e_2]; done)
    have hrep : repX cI cR g x S := HX0
    have fr9 : hfr g g (xS x) := hfr.rf
    exact hthr eX "no such hunk or what" 82 106 86 24 g _ _ _ _ _ _ site_MR_hunk_24 (⟨fr9, by rw [eop]; exact hrep, Or.inl ⟨by rw [eop], rfl⟩⟩) hg hS hl.1 (Nat.le_of_ble_eq_true rfl) (by decide) (by decide)
  · skip
    obtain ⟨i, hi, rfl⟩ := nI_of c_1
    refine lv_iload_n S0.1 S0.2.1 dMR_hunk_4 rfl (lv_at hl 1 rfl) ?_
    refine lv_aload_n S0.1 S0.2.1 dMR_hunk_5 rfl (lv_at hl 0 rfl) ?_
    refine hw_get S0 hK hg hO0 rfl inMR 2 (by decide) lf_MR_32 rfl rfl dMR_hunk_6 ?_
    refine hw_get S0 hK hg hO12 rfl inHu 1 (by decide) lf_MR_105 rfl rfl dMR_hunk_9 ?_
    refine lv_icmp_ge (tgt := 24) S0.1 S0.2.1 dMR_hunk_12 (by decide) (fun c_12 => ?_) (fun c_12 => ?_)
    · skip
      have c_12 : S.2.2.1.length ≤ i := (nI_leI (by omega) (by omega)).mp c_12
      have e_1 : ix (nI i) S.2.2.1.length = none := ix_ge c_12 hi
      have eop : o_hunk (nI i) w S = (1, 0, S) := by unfold o_hunk; first | (rw [e_1]; done) | (rw [e_1, e_2]; done)
      have hrep : repX cI cR g x S := HX0
      have fr9 : hfr g g (xS x) := hfr.rf
      exact hthr eX "no such hunk or what" 82 106 86 24 g _ _ _ _ _ _ site_MR_hunk_24 (⟨fr9, by rw [eop]; exact hrep, Or.inl ⟨by rw [eop], rfl⟩⟩) hg hS hl.1 (Nat.le_of_ble_eq_true rfl) (by decide) (by decide)
    · skip
      have c_12 : ¬ (S.2.2.1.length ≤ i) := fun h => c_12 ((nI_leI (by omega) (by omega)).mpr h)
      have e_1 : ix (nI i) S.2.2.1.length = some i := ix_some (by omega) (by omega)
      refine lv_iload_n S0.1 S0.2.1 dMR_hunk_15 rfl (lv_at hl 2 rfl) ?_
      refine lv_if_lt (tgt := 24) S0.1 S0.2.1 dMR_hunk_16 (by decide) (fun c_16 => ?_) (fun c_16 => ?_)
      · skip
        have e_2 : ix w 4 = none := ix_neg c_16
        have eop : o_hunk (nI i) w S = (1, 0, S) := by unfold o_hunk; first | (rw [e_1]; done) | (rw [e_1, e_2]; done)
        have hrep : repX cI cR g x S := HX0
        have fr9 : hfr g g (xS x) := hfr.rf
        exact hthr eX "no such hunk or what" 82 106 86 24 g _ _ _ _ _ _ site_MR_hunk_24 (⟨fr9, by rw [eop]; exact hrep, Or.inl ⟨by rw [eop], rfl⟩⟩) hg hS hl.1 (Nat.le_of_ble_eq_true rfl) (by decide) (by decide)
      · skip
        obtain ⟨j, hj, rfl⟩ := nI_of c_16
        refine lv_iload_n S0.1 S0.2.1 dMR_hunk_19 rfl (lv_at hl 2 rfl) ?_
        refine lv_iconst (v := nI 4) S0.1 S0.2.1 dMR_hunk_20 (by decide) ?_
        refine lv_icmp_lt (tgt := 34) S0.1 S0.2.1 dMR_hunk_21 (by decide) (fun c_21 => ?_) (fun c_21 => ?_)
        · skip
          have c_21 : j < 4 := (nI_ltI (by omega) (by omega)).mp c_21
          have e_2 : ix (nI j) 4 = some j := ix_some (by omega) (by decide)
          refine lv_aload_n S0.1 S0.2.1 dMR_hunk_34 rfl (lv_at hl 0 rfl) ?_
          refine hw_get S0 hK hg hO0 rfl inMR 2 (by decide) lf_MR_32 rfl rfl dMR_hunk_35 ?_
          refine hw_get S0 hK hg hO12 rfl inHu 0 (by decide) lf_MR_108 rfl rfl dMR_hunk_38 ?_
          refine lv_iload_n S0.1 S0.2.1 dMR_hunk_41 rfl (lv_at hl 1 rfl) ?_
          refine lv_iconst (v := nI 4) S0.1 S0.2.1 dMR_hunk_42 (by decide) ?_
          refine lv_imul S0.1 S0.2.1 dMR_hunk_43 ?_
          refine hw_top (nI (i * 4)) (pk_mul _ _) ?_
          refine lv_iload_n S0.1 S0.2.1 dMR_hunk_44 rfl (lv_at hl 2 rfl) ?_
          refine lv_iadd S0.1 S0.2.1 dMR_hunk_45 ?_
          refine hw_top (nI ((i * 4) + j)) (nI_add _ _) ?_
          refine hw_iald S0 hK hg hO13 0 rfl (by omega) (by omega) dMR_hunk_46 ?_
          have eop : o_hunk (nI i) (nI j) S = (0, nI ((fl4 S.2.2.1).getD (4 * i + j) 0), S) := by unfold o_hunk; rw [e_1, e_2]
          have hO2 : ∀ i9, i9 < 38 → g (x i9) = some (xcl cI cR x b F V U z fq i9) := by
            intro i9 hi9
            match i9, hi9 with
            | 0, _ => exact fr.at h_n0 (hO 0 (by decide))
            | 1, _ => exact fr.at h_n0 (hO 1 (by decide))
            | 2, _ => exact fr.at h_n0 (hO 2 (by decide))
            | 3, _ => exact fr.at h_n0 (hO 3 (by decide))
            | 4, _ => exact fr.at h_n0 (hO 4 (by decide))
            | 5, _ => exact fr.at h_n0 (hO 5 (by decide))
            | 6, _ => exact fr.at h_n0 (hO 6 (by decide))
            | 7, _ => exact fr.at h_n0 (hO 7 (by decide))
            | 8, _ => exact fr.at h_n0 (hO 8 (by decide))
            | 9, _ => exact fr.at h_n0 (hO 9 (by decide))
            | 10, _ => exact fr.at h_n0 (hO 10 (by decide))
            | 11, _ => exact fr.at h_n0 (hO 11 (by decide))
            | 12, _ => exact fr.at h_n0 (hO 12 (by decide))
            | 13, _ => exact fr.at h_n0 (hO 13 (by decide))
            | 14, _ => exact fr.at h_n0 (hO 14 (by decide))
            | 15, _ => exact fr.at h_n0 (hO 15 (by decide))
            | 16, _ => exact fr.at h_n0 (hO 16 (by decide))
            | 17, _ => exact fr.at h_n0 (hO 17 (by decide))
            | 18, _ => exact fr.at h_n0 (hO 18 (by decide))
            | 19, _ => exact fr.at h_n0 (hO 19 (by decide))
            | 20, _ => exact fr.at h_n0 (hO 20 (by decide))
            | 21, _ => exact fr.at h_n0 (hO 21 (by decide))
            | 22, _ => exact fr.at h_n0 (hO 22 (by decide))
            | 23, _ => exact fr.at h_n0 (hO 23 (by decide))
            | 24, _ => exact fr.at h_n0 (hO 24 (by decide))
            | 25, _ => exact fr.at h_n0 (hO 25 (by decide))
            | 26, _ => exact fr.at h_n0 (hO 26 (by decide))
            | 27, _ => exact fr.at h_n0 (hO 27 (by decide))
            | 28, _ => exact fr.at h_n0 (hO 28 (by decide))
            | 29, _ => exact fr.at h_n0 (hO 29 (by decide))
            | 30, _ => exact fr.at h_n0 (hO 30 (by decide))
            | 31, _ => exact fr.at h_n0 (hO 31 (by decide))
            | 32, _ => exact fr.at h_n0 (hO 32 (by decide))
            | 33, _ => exact fr.at h_n0 (hO 33 (by decide))
            | 34, _ => exact fr.at h_n0 (hO 34 (by decide))
            | 35, _ => exact fr.at h_n0 (hO 35 (by decide))
            | 36, _ => exact fr.at h_n0 (hO 36 (by decide))
            | 37, _ => exact fr.at h_n0 (hO 37 (by decide))
            | i9 + 38, h => omega
          have hrow2 : ∀ i9, i9 < 6 → g (x (38 + i9)) = some (.inr (5, [.ref (x (44 + i9)), .int (nI (S.1 i9).length)])) ∧ g (x (44 + i9)) = some (.inl (cI, 60, .inl (FR i9))) ∧ rp (FR i9) (S.1 i9) := by
            intro i9 hi9
            obtain ⟨d1, d2, d3⟩ := hrow i9 hi9
            exact ⟨fr.at h_n0 d1, fr.at h_n0 d2, d3⟩
          have hrep : repX cI cR g x S := ⟨hxi, hok, b, F, V, U, z, fq, FR, hb, hO2, hfq, hrow2, hv9, hA_, hB_, hv12, hH_, hv19, hZ_, hV_, hv22, hL_, (by rcases (show b = 0 ∨ b = 1 by omega) with rfl | rfl <;> exact hvm), (by rcases (show b = 0 ∨ b = 1 by omega) with rfl | rfl <;> exact hC_)⟩
          have fr9 : hfr g g (xS x) := fr.mono (fun q hq => absurd hq List.not_mem_nil)
          exact hend _ _ _ _ _ _ _ _ (by decide) (by decide) rfl ⟨fr9, by rw [eop]; exact hrep, by rw [eop], by rw [eop]; rw [show (i * 4) + j = 4 * i + j by omega]; exact hH_ _ (by rw [fl4_len]; omega)⟩ hg hS dMR_hunk_47
        · skip
          have c_21 : ¬ (j < 4) := fun h => c_21 ((nI_ltI (by omega) (by omega)).mpr h)
          have e_2 : ix (nI j) 4 = none := ix_ge (by omega) hj
          have eop : o_hunk (nI i) (nI j) S = (1, 0, S) := by unfold o_hunk; first | (rw [e_1]; done) | (rw [e_1, e_2]; done)
          have hrep : repX cI cR g x S := HX0
          have fr9 : hfr g g (xS x) := hfr.rf
          exact hthr eX "no such hunk or what" 82 106 86 24 g _ _ _ _ _ _ site_MR_hunk_24 (⟨fr9, by rw [eop]; exact hrep, Or.inl ⟨by rw [eop], rfl⟩⟩) hg hS hl.1 (Nat.le_of_ble_eq_true rfl) (by decide) (by decide)
