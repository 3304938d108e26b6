/-! PATCHING, on -/
set_option maxRecDepth 100000 in
set_option maxHeartbeats 4000000 in
theorem c_Pg_run (l : Launch) (D : va_G) (cI cR cJ : ClassId) (g : Nat → Option va_E) (sz : Nat) (pg oc lo hu ce cm pa pb len : Nat) (ra la ca rb lb cb rc lc cc : Nat) (a b c : List Int32) (fa fb fc fo fh fp0 fq0 fl : Nat → Int32) (rj0 on0 hc0 cnt : Int32) (hra : g ra = some (.inr (5, [.ref la, .int (nI a.length)]))) (hla : g la = some (.inl (cI, ca, .inl fa))) (ea : rp fa a) (hna : a.length ≤ 60) (hca : a.length ≤ ca) (hda : ca < 4000) (hrb : g rb = some (.inr (5, [.ref lb, .int (nI b.length)]))) (hlb : g lb = some (.inl (cI, cb, .inl fb))) (eb : rp fb b) (hnb : b.length ≤ 60) (hcb : b.length ≤ cb) (hdb : cb < 4000) (hrc : g rc = some (.inr (5, [.ref lc, .int (nI c.length)]))) (hlc : g lc = some (.inl (cI, cc, .inl fc))) (ec : rp fc c) (hnc : c.length ≤ 60) (hcc : c.length ≤ cc) (hdc : cc < 4000) (h0 : g pg = some (.inr (4, [.ref oc, .int rj0, .ref hu]))) (h1 : g oc = some (.inr (5, [.ref lo, .int on0]))) (h2 : g lo = some (.inl (cI, 120, .inl fo))) (h3 : g hu = some (.inr (1, [.ref ce, .int hc0, .ref cm]))) (h4 : g ce = some (.inl (cI, 244, .inl fh))) (h5 : g cm = some (.inr (0, [.ref pa, .ref pb, .int cnt, .ref len]))) (h6 : g pa = some (.inl (cI, 60, .inl fp0))) (h7 : g pb = some (.inl (cI, 60, .inl fq0))) (h8 : g len = some (.inl (cI, 3721, .inl fl))) (n_la_pa : la ≠ pa) (n_la_pb : la ≠ pb) (n_la_len : la ≠ len) (n_la_ce : la ≠ ce) (n_la_lo : la ≠ lo) (n_lb_pa : lb ≠ pa) (n_lb_pb : lb ≠ pb) (n_lb_len : lb ≠ len) (n_lb_ce : lb ≠ ce) (n_lb_lo : lb ≠ lo) (n_lc_pa : lc ≠ pa) (n_lc_pb : lc ≠ pb) (n_lc_len : lc ≠ len) (n_lc_ce : lc ≠ ce) (n_lc_lo : lc ≠ lo) (n_pa_pb : pa ≠ pb) (n_pa_len : pa ≠ len) (n_pa_ce : pa ≠ ce) (n_pa_lo : pa ≠ lo) (n_pb_len : pb ≠ len) (n_pb_ce : pb ≠ ce) (n_pb_lo : pb ≠ lo) (n_len_ce : len ≠ ce) (n_len_lo : len ≠ lo) (n_ce_lo : ce ≠ lo) (n_ra_oc : ra ≠ oc) (n_rb_oc : rb ≠ oc) (n_rc_oc : rc ≠ oc) : hMv l yPg_run cPg_run 12 (hRm 4 98 0 0) D (hT cI cR cJ) g sz [.ref pg, .ref ra, .ref rb, .ref rc] (fun g1 => hfr g g1 [pg, oc, lo, hu, ce, cm, pa, pb, len] ∧ ∃ (fox fhx gp gq gl : Nat → Int32) (k1 k2 : Int32), g1 pg = some (.inr (4, [.ref oc, .int (nI (patF a b c).2), .ref hu])) ∧ g1 oc = some (.inr (5, [.ref lo, .int (nI (patF a b c).1.length)])) ∧ g1 lo = some (.inl (cI, 120, .inl fox)) ∧ g1 hu = some (.inr (1, [.ref ce, .int k1, .ref cm])) ∧ g1 ce = some (.inl (cI, 244, .inl fhx)) ∧ g1 cm = some (.inr (0, [.ref pa, .ref pb, .int k2, .ref len])) ∧ g1 pa = some (.inl (cI, 60, .inl gp)) ∧ g1 pb = some (.inl (cI, 60, .inl gq)) ∧ g1 len = some (.inl (cI, 3721, .inl gl)) ∧ rp fox (patF a b c).1 ∧ (patF a b c).1.length ≤ 120) := by
  refine hMv_of (by decide +kernel) (Nat.le_of_ble_eq_true rfl) ?_
  intro pX eX RX sX mX argsX belowX methX cX QX AX hR S0 hnm hsz hg hK hS hA0 hend ls hl
  have hl : lv_has ls 12 [(0, .ref pg), (1, .ref ra), (2, .ref rb), (3, .ref rc)] := hl
  have fr : hfr g g [pg, oc, lo, hu, ce, cm, pa, pb, len] := hfr.rf
  refine lv_aload_n S0.1 S0.2.1 dPg_run_0 rfl (lv_at hl 0 rfl) ?_
  refine hw_get S0 hK hg h0 rfl inPg 2 (by decide) lf_Pg_24 rfl rfl dPg_run_1 ?_
  refine lv_aload_n S0.1 S0.2.1 dPg_run_4 rfl (lv_at hl 1 rfl) ?_
  refine lv_aload_n S0.1 S0.2.1 dPg_run_5 rfl (lv_at hl 2 rfl) ?_
  refine hw_Vv (As := [.ref ra, .ref rb]) (rest := []) S0 hK hg hS hA0 h3 rfl (c_Hu_find l D cI cR cJ g _ cm pa pb len ra la ca rb lb cb cnt a b fa fb fl h5 h8 hra hla hrb hlb ea eb n_la_len n_lb_len hna hnb hca hcb hda hdb fp0 fq0 h6 h7 n_la_pa n_la_pb n_lb_pa n_lb_pb n_pa_pb n_pa_len n_pb_len hu ce hc0 fh h3 h4 n_la_ce n_lb_ce n_pa_ce n_pb_ce n_len_ce) kHu_find lm_Pg_28 (hR.call rfl) rfl hl.1 rfl (Nat.le_of_ble_eq_true rfl) dPg_run_6 (hR.new (by decide) (by decide)) (fun g_1 H locs hp_6 hg hS => ?_)
  obtain ⟨fr1, n1, gA, gB, gL, gc, a0, a1, a2, a3, a4, a5, hcr⟩ := hp_6
  have hok := hunks_ok a b
  have hpf : ∀ k, k ≤ (hunksOf a b).length → hkok a b ((hunksOf a b).take k) := fun k _ h hh => hok.1 h (List.mem_of_mem_take hh)
  have hpat : patF a b c = ((pfold a b c (hunksOf a b)).2.2.1 ++ pt c (pfold a b c (hunksOf a b)).1 c.length, (pfold a b c (hunksOf a b)).2.2.2) := rfl
  generalize hunksOf a b = Hs at a4 hcr hok hpf hpat
  have k1_0 := fr1.at (h_nm (h_ne hra h3 (fun h => by simp at h)) (h_nm (h_ne hra h4 (fun h => by cases h)) (h_nm (h_ne hra h5 (fun h => by simp at h)) (h_nm (h_ne hra h6 (fun h => by cases h)) (h_nm (h_ne hra h7 (fun h => by cases h)) (h_nm (h_ne hra h8 (fun h => by cases h)) h_n0)))))) hra
  have k1_1 := fr1.at (h_nm (h_ne hla h3 (fun h => by cases h)) (h_nm n_la_ce (h_nm (h_ne hla h5 (fun h => by cases h)) (h_nm n_la_pa (h_nm n_la_pb (h_nm n_la_len h_n0)))))) hla
  have k1_2 := fr1.at (h_nm (h_ne hrb h3 (fun h => by simp at h)) (h_nm (h_ne hrb h4 (fun h => by cases h)) (h_nm (h_ne hrb h5 (fun h => by simp at h)) (h_nm (h_ne hrb h6 (fun h => by cases h)) (h_nm (h_ne hrb h7 (fun h => by cases h)) (h_nm (h_ne hrb h8 (fun h => by cases h)) h_n0)))))) hrb
  have k1_3 := fr1.at (h_nm (h_ne hlb h3 (fun h => by cases h)) (h_nm n_lb_ce (h_nm (h_ne hlb h5 (fun h => by cases h)) (h_nm n_lb_pa (h_nm n_lb_pb (h_nm n_lb_len h_n0)))))) hlb
  have k1_4 := fr1.at (h_nm (h_ne hrc h3 (fun h => by simp at h)) (h_nm (h_ne hrc h4 (fun h => by cases h)) (h_nm (h_ne hrc h5 (fun h => by simp at h)) (h_nm (h_ne hrc h6 (fun h => by cases h)) (h_nm (h_ne hrc h7 (fun h => by cases h)) (h_nm (h_ne hrc h8 (fun h => by cases h)) h_n0)))))) hrc
  have k1_5 := fr1.at (h_nm (h_ne hlc h3 (fun h => by cases h)) (h_nm n_lc_ce (h_nm (h_ne hlc h5 (fun h => by cases h)) (h_nm n_lc_pa (h_nm n_lc_pb (h_nm n_lc_len h_n0)))))) hlc
  have k1_6 := fr1.at (h_nm (h_ne h0 h3 (fun h => by simp at h)) (h_nm (h_ne h0 h4 (fun h => by cases h)) (h_nm (h_ne h0 h5 (fun h => by simp at h)) (h_nm (h_ne h0 h6 (fun h => by cases h)) (h_nm (h_ne h0 h7 (fun h => by cases h)) (h_nm (h_ne h0 h8 (fun h => by cases h)) h_n0)))))) h0
  have k1_7 := fr1.at (h_nm (h_ne h1 h3 (fun h => by simp at h)) (h_nm (h_ne h1 h4 (fun h => by cases h)) (h_nm (h_ne h1 h5 (fun h => by simp at h)) (h_nm (h_ne h1 h6 (fun h => by cases h)) (h_nm (h_ne h1 h7 (fun h => by cases h)) (h_nm (h_ne h1 h8 (fun h => by cases h)) h_n0)))))) h1
  have k1_8 := fr1.at (h_nm (h_ne h2 h3 (fun h => by cases h)) (h_nm (Ne.symm n_ce_lo) (h_nm (h_ne h2 h5 (fun h => by cases h)) (h_nm (Ne.symm n_pa_lo) (h_nm (Ne.symm n_pb_lo) (h_nm (Ne.symm n_len_lo) h_n0)))))) h2
  have fr := fr.call fr1 (by simp)
  refine lv_aload_n S0.1 S0.2.1 dPg_run_9 rfl (lv_at hl 0 rfl) ?_
  refine hw_get S0 hK hg k1_6 rfl inPg 0 (by decide) lf_Pg_14 rfl rfl dPg_run_10 ?_
  refine lv_iconst (v := nI 0) S0.1 S0.2.1 dPg_run_13 (by decide) ?_
  refine hw_put S0 hK hg hS k1_7 rfl inRo tyRo tokRo nmRo 1 (by decide) lf_Pg_34 rfl rfl rfl rfl (Nat.le_of_ble_eq_true rfl) dPg_run_14 (fun H locs hg hS => ?_)
  obtain ⟨g_2, eg_2⟩ : ∃ z, z = hs g_1 oc (.inr (5, [.ref lo, .int (nI 0)])) := ⟨_, rfl⟩
  have hg : hw D hC AX g_2 H := by rw [eg_2]; exact hg
  have f2_0 : g_2 ra = some (.inr (5, [.ref la, .int (nI a.length)])) := by rw [eg_2, hs_n _ _ n_ra_oc]; exact k1_0
  have f2_1 : g_2 la = some (.inl (cI, ca, .inl fa)) := by rw [eg_2, hs_n _ _ (h_ne k1_1 k1_7 (fun h => by cases h))]; exact k1_1
  have f2_2 : g_2 rb = some (.inr (5, [.ref lb, .int (nI b.length)])) := by rw [eg_2, hs_n _ _ n_rb_oc]; exact k1_2
  have f2_3 : g_2 lb = some (.inl (cI, cb, .inl fb)) := by rw [eg_2, hs_n _ _ (h_ne k1_3 k1_7 (fun h => by cases h))]; exact k1_3
  have f2_4 : g_2 rc = some (.inr (5, [.ref lc, .int (nI c.length)])) := by rw [eg_2, hs_n _ _ n_rc_oc]; exact k1_4
  have f2_5 : g_2 lc = some (.inl (cI, cc, .inl fc)) := by rw [eg_2, hs_n _ _ (h_ne k1_5 k1_7 (fun h => by cases h))]; exact k1_5
  have f2_6 : g_2 pg = some (.inr (4, [.ref oc, .int rj0, .ref hu])) := by rw [eg_2, hs_n _ _ (h_ne k1_6 k1_7 (fun h => by simp at h))]; exact k1_6
  have f2_7 : g_2 lo = some (.inl (cI, 120, .inl fo)) := by rw [eg_2, hs_n _ _ (h_ne k1_8 k1_7 (fun h => by cases h))]; exact k1_8
  have f2_8 : g_2 cm = some (.inr (0, [.ref pa, .ref pb, .int (nI n1), .ref len])) := by rw [eg_2, hs_n _ _ (h_ne a0 k1_7 (fun h => by simp at h))]; exact a0
  have f2_9 : g_2 pa = some (.inl (cI, 60, .inl gA)) := by rw [eg_2, hs_n _ _ (h_ne a1 k1_7 (fun h => by cases h))]; exact a1
  have f2_10 : g_2 pb = some (.inl (cI, 60, .inl gB)) := by rw [eg_2, hs_n _ _ (h_ne a2 k1_7 (fun h => by cases h))]; exact a2
  have f2_11 : g_2 len = some (.inl (cI, 3721, .inl gL)) := by rw [eg_2, hs_n _ _ (h_ne a3 k1_7 (fun h => by cases h))]; exact a3
  have f2_12 : g_2 hu = some (.inr (1, [.ref ce, .int (nI Hs.length), .ref cm])) := by rw [eg_2, hs_n _ _ (h_ne a4 k1_7 (fun h => by simp at h))]; exact a4
  have f2_13 : g_2 ce = some (.inl (cI, 244, .inl gc)) := by rw [eg_2, hs_n _ _ (h_ne a5 k1_7 (fun h => by cases h))]; exact a5
  have f2_14 : g_2 oc = some (.inr (5, [.ref lo, .int (nI 0)])) := by rw [eg_2]; exact hs_s _ _ _
  have fr := fr.put eg_2 (by simp)
  refine lv_aload_n S0.1 S0.2.1 dPg_run_17 rfl (lv_at hl 0 rfl) ?_
  refine lv_iconst (v := nI 0) S0.1 S0.2.1 dPg_run_18 (by decide) ?_
  refine hw_put S0 hK hg hS f2_6 rfl inPg tyPg tokPg nmPg 1 (by decide) lf_Pg_20 rfl rfl rfl rfl (Nat.le_of_ble_eq_true rfl) dPg_run_19 (fun H locs hg hS => ?_)
  obtain ⟨g_3, eg_3⟩ : ∃ z, z = hs g_2 pg (.inr (4, [.ref oc, .int (nI 0), .ref hu])) := ⟨_, rfl⟩
  have hg : hw D hC AX g_3 H := by rw [eg_3]; exact hg
  have f3_0 : g_3 ra = some (.inr (5, [.ref la, .int (nI a.length)])) := by rw [eg_3, hs_n _ _ (h_ne f2_0 f2_6 (fun h => by simp at h))]; exact f2_0
  have f3_1 : g_3 la = some (.inl (cI, ca, .inl fa)) := by rw [eg_3, hs_n _ _ (h_ne f2_1 f2_6 (fun h => by cases h))]; exact f2_1
  have f3_2 : g_3 rb = some (.inr (5, [.ref lb, .int (nI b.length)])) := by rw [eg_3, hs_n _ _ (h_ne f2_2 f2_6 (fun h => by simp at h))]; exact f2_2
  have f3_3 : g_3 lb = some (.inl (cI, cb, .inl fb)) := by rw [eg_3, hs_n _ _ (h_ne f2_3 f2_6 (fun h => by cases h))]; exact f2_3
  have f3_4 : g_3 rc = some (.inr (5, [.ref lc, .int (nI c.length)])) := by rw [eg_3, hs_n _ _ (h_ne f2_4 f2_6 (fun h => by simp at h))]; exact f2_4
  have f3_5 : g_3 lc = some (.inl (cI, cc, .inl fc)) := by rw [eg_3, hs_n _ _ (h_ne f2_5 f2_6 (fun h => by cases h))]; exact f2_5
  have f3_6 : g_3 lo = some (.inl (cI, 120, .inl fo)) := by rw [eg_3, hs_n _ _ (h_ne f2_7 f2_6 (fun h => by cases h))]; exact f2_7
  have f3_7 : g_3 cm = some (.inr (0, [.ref pa, .ref pb, .int (nI n1), .ref len])) := by rw [eg_3, hs_n _ _ (h_ne f2_8 f2_6 (fun h => by simp at h))]; exact f2_8
  have f3_8 : g_3 pa = some (.inl (cI, 60, .inl gA)) := by rw [eg_3, hs_n _ _ (h_ne f2_9 f2_6 (fun h => by cases h))]; exact f2_9
  have f3_9 : g_3 pb = some (.inl (cI, 60, .inl gB)) := by rw [eg_3, hs_n _ _ (h_ne f2_10 f2_6 (fun h => by cases h))]; exact f2_10
  have f3_10 : g_3 len = some (.inl (cI, 3721, .inl gL)) := by rw [eg_3, hs_n _ _ (h_ne f2_11 f2_6 (fun h => by cases h))]; exact f2_11
  have f3_11 : g_3 hu = some (.inr (1, [.ref ce, .int (nI Hs.length), .ref cm])) := by rw [eg_3, hs_n _ _ (h_ne f2_12 f2_6 (fun h => by simp at h))]; exact f2_12
  have f3_12 : g_3 ce = some (.inl (cI, 244, .inl gc)) := by rw [eg_3, hs_n _ _ (h_ne f2_13 f2_6 (fun h => by cases h))]; exact f2_13
  have f3_13 : g_3 oc = some (.inr (5, [.ref lo, .int (nI 0)])) := by rw [eg_3, hs_n _ _ (h_ne f2_14 f2_6 (fun h => by simp at h))]; exact f2_14
  have f3_14 : g_3 pg = some (.inr (4, [.ref oc, .int (nI 0), .ref hu])) := by rw [eg_3]; exact hs_s _ _ _
  have fr := fr.put eg_3 (by simp)
  refine lv_iconst (v := nI 0) S0.1 S0.2.1 dPg_run_22 (by decide) ?_
  refine lv_istore (lv' := [(4, .int (nI 0)), (0, .ref pg), (1, .ref ra), (2, .ref rb), (3, .ref rc)]) S0.1 S0.2.1 dPg_run_23 hl (by decide) rfl (fun ls hl => ?_)
  refine lv_iconst (v := nI 0) S0.1 S0.2.1 dPg_run_25 (by decide) ?_
  refine lv_istore (lv' := [(5, .int (nI 0)), (4, .int (nI 0)), (0, .ref pg), (1, .ref ra), (2, .ref rb), (3, .ref rc)]) S0.1 S0.2.1 dPg_run_26 hl (by decide) rfl (fun ls hl => ?_)
  refine lv_iconst (v := nI 0) S0.1 S0.2.1 dPg_run_28 (by decide) ?_
  refine lv_istore (lv' := [(6, .int (nI 0)), (5, .int (nI 0)), (4, .int (nI 0)), (0, .ref pg), (1, .ref ra), (2, .ref rb), (3, .ref rc)]) S0.1 S0.2.1 dPg_run_29 hl (by decide) rfl (fun ls hl => ?_)
  have hl : lv_has ls 12 [(6, .int (nI 0)), (5, .int (iZ 0)), (4, .int (nI 0)), (0, .ref pg), (1, .ref ra), (2, .ref rb), (3, .ref rc)] := hl
  have loop_31 : ∀ (n_31 : Nat) (k : Nat) (s : PS) (fx : Nat → Int32) (gl : Nat → Option va_E) (H : Heap) (locs : List Loc) (ls : Array Slot), Hs.length - k < n_31 → (k ≤ Hs.length) → (s = pfold a b c (Hs.take k)) → (rp fx s.2.2.1) → (hfr g gl [pg, oc, lo, hu, ce, cm, pa, pb, len]) → (gl pg = some (.inr (4, [.ref oc, .int (nI s.2.2.2), .ref hu]))) → (gl oc = some (.inr (5, [.ref lo, .int (nI s.2.2.1.length)]))) → (gl lo = some (.inl (cI, 120, .inl fx))) → (gl hu = some (.inr (1, [.ref ce, .int (nI Hs.length), .ref cm]))) → (gl ce = some (.inl (cI, 244, .inl gc))) → (gl cm = some (.inr (0, [.ref pa, .ref pb, .int (nI n1), .ref len]))) → (gl pa = some (.inl (cI, 60, .inl gA))) → (gl pb = some (.inl (cI, 60, .inl gB))) → (gl len = some (.inl (cI, 3721, .inl gL))) → hw D hC AX gl H → va_S AX sX.heap H locs → lv_has ls 12 [(0, .ref pg), (1, .ref ra), (2, .ref rb), (3, .ref rc), (4, .int (nI s.1)), (5, .int (iZ s.2.1)), (6, .int (nI k))] → W pX l eX RX sX mX argsX belowX methX cX H locs 0 0 QX (F0 mX 31 ls []) := by
    intro n_31
    induction n_31 with
    | zero => intros; omega
    | succ n_31 ih_31 =>
      intro k s fx gl H locs ls hm_31 hk hs_ eo fr i_pg i_oc i_lo i_hu i_ce i_cm i_pa i_pb i_len hg hS hl
      have q31_ra := fr.at (h_nm (h_ne f3_0 f3_14 (fun h => by simp at h)) (h_nm n_ra_oc (h_nm (h_ne f3_0 f3_6 (fun h => by cases h)) (h_nm (h_ne f3_0 f3_11 (fun h => by simp at h)) (h_nm (h_ne f3_0 f3_12 (fun h => by cases h)) (h_nm (h_ne f3_0 f3_7 (fun h => by simp at h)) (h_nm (h_ne f3_0 f3_8 (fun h => by cases h)) (h_nm (h_ne f3_0 f3_9 (fun h => by cases h)) (h_nm (h_ne f3_0 f3_10 (fun h => by cases h)) h_n0))))))))) hra
      have q31_la := fr.at (h_nm (h_ne f3_1 f3_14 (fun h => by cases h)) (h_nm (h_ne f3_1 f3_13 (fun h => by cases h)) (h_nm n_la_lo (h_nm (h_ne f3_1 f3_11 (fun h => by cases h)) (h_nm n_la_ce (h_nm (h_ne f3_1 f3_7 (fun h => by cases h)) (h_nm n_la_pa (h_nm n_la_pb (h_nm n_la_len h_n0))))))))) hla
      have q31_rb := fr.at (h_nm (h_ne f3_2 f3_14 (fun h => by simp at h)) (h_nm n_rb_oc (h_nm (h_ne f3_2 f3_6 (fun h => by cases h)) (h_nm (h_ne f3_2 f3_11 (fun h => by simp at h)) (h_nm (h_ne f3_2 f3_12 (fun h => by cases h)) (h_nm (h_ne f3_2 f3_7 (fun h => by simp at h)) (h_nm (h_ne f3_2 f3_8 (fun h => by cases h)) (h_nm (h_ne f3_2 f3_9 (fun h => by cases h)) (h_nm (h_ne f3_2 f3_10 (fun h => by cases h)) h_n0))))))))) hrb
      have q31_lb := fr.at (h_nm (h_ne f3_3 f3_14 (fun h => by cases h)) (h_nm (h_ne f3_3 f3_13 (fun h => by cases h)) (h_nm n_lb_lo (h_nm (h_ne f3_3 f3_11 (fun h => by cases h)) (h_nm n_lb_ce (h_nm (h_ne f3_3 f3_7 (fun h => by cases h)) (h_nm n_lb_pa (h_nm n_lb_pb (h_nm n_lb_len h_n0))))))))) hlb
      have q31_rc := fr.at (h_nm (h_ne f3_4 f3_14 (fun h => by simp at h)) (h_nm n_rc_oc (h_nm (h_ne f3_4 f3_6 (fun h => by cases h)) (h_nm (h_ne f3_4 f3_11 (fun h => by simp at h)) (h_nm (h_ne f3_4 f3_12 (fun h => by cases h)) (h_nm (h_ne f3_4 f3_7 (fun h => by simp at h)) (h_nm (h_ne f3_4 f3_8 (fun h => by cases h)) (h_nm (h_ne f3_4 f3_9 (fun h => by cases h)) (h_nm (h_ne f3_4 f3_10 (fun h => by cases h)) h_n0))))))))) hrc
      have q31_lc := fr.at (h_nm (h_ne f3_5 f3_14 (fun h => by cases h)) (h_nm (h_ne f3_5 f3_13 (fun h => by cases h)) (h_nm n_lc_lo (h_nm (h_ne f3_5 f3_11 (fun h => by cases h)) (h_nm n_lc_ce (h_nm (h_ne f3_5 f3_7 (fun h => by cases h)) (h_nm n_lc_pa (h_nm n_lc_pb (h_nm n_lc_len h_n0))))))))) hlc
      refine lv_iload S0.1 S0.2.1 dPg_run_31 (lv_at hl 6 rfl) ?_
      refine lv_aload_n S0.1 S0.2.1 dPg_run_33 rfl (lv_at hl 0 rfl) ?_
      refine hw_get S0 hK hg i_pg rfl inPg 2 (by decide) lf_Pg_24 rfl rfl dPg_run_34 ?_
      refine hw_get S0 hK hg i_hu rfl inHu 1 (by decide) lf_Pg_37 rfl rfl dPg_run_37 ?_
      refine lv_icmp_ge (tgt := 185) S0.1 S0.2.1 dPg_run_40 (by decide) (fun c_40 => ?_) (fun c_40 => ?_)
      · skip
        have c_40 : Hs.length ≤ k := (nI_leI (by omega) (by omega)).mp c_40
        have ek : k = Hs.length := by omega
        rw [ek, List.take_length] at hs_
        have hpo := pfold_ok (a := a) (b := b) (c := c) hok.1 hna hnc
        rw [← hs_] at hpo hpat
        refine lv_aload_n S0.1 S0.2.1 dPg_run_185 rfl (lv_at hl 0 rfl) ?_
        refine hw_get S0 hK hg i_pg rfl inPg 0 (by decide) lf_Pg_14 rfl rfl dPg_run_186 ?_
        refine lv_aload_n S0.1 S0.2.1 dPg_run_189 rfl (lv_at hl 3 rfl) ?_
        refine lv_iload S0.1 S0.2.1 dPg_run_190 (lv_at hl 4 rfl) ?_
        refine lv_aload_n S0.1 S0.2.1 dPg_run_192 rfl (lv_at hl 3 rfl) ?_
        refine hw_get S0 hK hg q31_rc rfl inRo 1 (by decide) lf_Pg_34 rfl rfl dPg_run_193 ?_
        refine hw_Vv (As := [.ref rc, .int (nI s.1), .int (nI c.length)]) (rest := []) S0 hK hg hS hA0 i_oc rfl (c_Ro_addPart l D cI cR cJ gl _ oc lo s.2.2.1.length 120 rc lc c.length cc s.1 c.length fx fc i_oc i_lo q31_rc q31_lc n_rc_oc n_lc_lo (by omega) (by omega) (by first | omega | (rw [List.length_append, pt_len (by omega)]; omega)) (by omega) (by omega) (by omega) (by omega)) kRo_addPart lm_Pg_46 (hR.call rfl) rfl hl.1 rfl (Nat.le_of_ble_eq_true rfl) dPg_run_196 (hR.new (by decide) (by decide)) (fun g_4 H locs hp_196 hg hS => ?_)
        obtain ⟨frA196, z0196, fz196, z1196, z2196, z3196⟩ := hp_196
        have eo3 : rp fz196 (s.2.2.1 ++ pt c s.1 c.length) := rp_app eo ec (by omega) z2196 z3196
        have z0196 : g_4 oc = some (.inr (5, [.ref lo, .int (nI (s.2.2.1 ++ pt c s.1 c.length).length)])) := by rw [List.length_append, pt_len (by omega)]; exact z0196
        have k4_0 := frA196.at (h_nm n_ra_oc (h_nm (h_ne q31_ra i_lo (fun h => by cases h)) h_n0)) q31_ra
        have k4_1 := frA196.at (h_nm (h_ne q31_la i_oc (fun h => by cases h)) (h_nm n_la_lo h_n0)) q31_la
        have k4_2 := frA196.at (h_nm n_rb_oc (h_nm (h_ne q31_rb i_lo (fun h => by cases h)) h_n0)) q31_rb
        have k4_3 := frA196.at (h_nm (h_ne q31_lb i_oc (fun h => by cases h)) (h_nm n_lb_lo h_n0)) q31_lb
        have k4_4 := frA196.at (h_nm n_rc_oc (h_nm (h_ne q31_rc i_lo (fun h => by cases h)) h_n0)) q31_rc
        have k4_5 := frA196.at (h_nm (h_ne q31_lc i_oc (fun h => by cases h)) (h_nm n_lc_lo h_n0)) q31_lc
        have k4_6 := frA196.at (h_nm (h_ne i_pg i_oc (fun h => by simp at h)) (h_nm (h_ne i_pg i_lo (fun h => by cases h)) h_n0)) i_pg
        have k4_7 := frA196.at (h_nm (h_ne i_hu i_oc (fun h => by simp at h)) (h_nm (h_ne i_hu i_lo (fun h => by cases h)) h_n0)) i_hu
        have k4_8 := frA196.at (h_nm (h_ne i_ce i_oc (fun h => by cases h)) (h_nm n_ce_lo h_n0)) i_ce
        have k4_9 := frA196.at (h_nm (h_ne i_cm i_oc (fun h => by simp at h)) (h_nm (h_ne i_cm i_lo (fun h => by cases h)) h_n0)) i_cm
        have k4_10 := frA196.at (h_nm (h_ne i_pa i_oc (fun h => by cases h)) (h_nm n_pa_lo h_n0)) i_pa
        have k4_11 := frA196.at (h_nm (h_ne i_pb i_oc (fun h => by cases h)) (h_nm n_pb_lo h_n0)) i_pb
        have k4_12 := frA196.at (h_nm (h_ne i_len i_oc (fun h => by cases h)) (h_nm n_len_lo h_n0)) i_len
        have fr := fr.call frA196 (by simp)
        have hbt : s.2.2.1.length + (c.length - s.1) ≤ 120 := by omega
        exact hend _ _ _ _ _ _ _ (by decide) (by decide) (by rw [hpat]; exact ⟨fr, _, _, _, _, _, _, _, k4_6, z0196, z1196, k4_7, k4_8, k4_9, k4_10, k4_11, k4_12, eo3, by dsimp only; rw [List.length_append, pt_len (Nat.le_refl _)]; exact hbt⟩) hg hS dPg_run_199
      · skip
        have c_40 : ¬ (Hs.length ≤ k) := fun h => c_40 ((nI_leI (by omega) (by omega)).mpr h)
        have hkl : k < Hs.length := by omega
        obtain ⟨h, hget⟩ : ∃ h, Hs[k]? = some h := ⟨_, List.getElem?_eq_getElem hkl⟩
        obtain ⟨q0, q1, q2, q3⟩ := rp4_at hcr hget
        have hho := hok.1 h (List.mem_of_getElem? hget)
        have hpo := pfold_ok (a := a) (b := b) (c := c) (hpf k (by omega)) hna hnc
        rw [← hs_] at hpo
        have hbs := bsum_take Hs (k + 1)
        rw [take_snoc hget, bsum_app, show bsum [h] = h.2.2.2 by simp [bsum]] at hbs
        refine lv_iload S0.1 S0.2.1 dPg_run_43 (lv_at hl 6 rfl) ?_
        refine lv_iconst (v := nI 4) S0.1 S0.2.1 dPg_run_45 (by decide) ?_
        refine lv_imul S0.1 S0.2.1 dPg_run_46 ?_
        refine hw_top (nI (k * 4)) (pk_mul _ _) ?_
        refine lv_istore (lv' := [(7, .int (nI (k * 4))), (0, .ref pg), (1, .ref ra), (2, .ref rb), (3, .ref rc), (4, .int (nI s.1)), (5, .int (iZ s.2.1)), (6, .int (nI k))]) S0.1 S0.2.1 dPg_run_47 hl (by decide) rfl (fun ls hl => ?_)
        refine lv_aload_n S0.1 S0.2.1 dPg_run_49 rfl (lv_at hl 1 rfl) ?_
        refine hw_get S0 hK hg i_pg rfl inPg 2 (by decide) lf_Pg_24 rfl rfl dPg_run_50 ?_
        refine hw_get S0 hK hg i_hu rfl inHu 0 (by decide) lf_Pg_38 rfl rfl dPg_run_53 ?_
        refine lv_iload S0.1 S0.2.1 dPg_run_56 (lv_at hl 0 rfl) ?_
        refine lv_iconst (v := nI 0) S0.1 S0.2.1 dPg_run_58 (by decide) ?_
        refine lv_iadd S0.1 S0.2.1 dPg_run_59 ?_
        refine hw_top (nI ((k * 4) + 0)) (nI_add _ _) ?_
        refine hw_iald S0 hK hg i_ce 0 rfl (by omega) (by omega) dPg_run_60 ?_
        refine hw_top (nI h.1) q0 ?_
        refine lv_istore (lv' := [(8, .int (nI h.1)), (7, .int (nI (k * 4))), (0, .ref pg), (1, .ref ra), (2, .ref rb), (3, .ref rc), (4, .int (nI s.1)), (5, .int (iZ s.2.1)), (6, .int (nI k))]) S0.1 S0.2.1 dPg_run_61 hl (by decide) rfl (fun ls hl => ?_)
        refine lv_aload_n S0.1 S0.2.1 dPg_run_63 rfl (lv_at hl 2 rfl) ?_
        refine hw_get S0 hK hg i_pg rfl inPg 2 (by decide) lf_Pg_24 rfl rfl dPg_run_64 ?_
        refine hw_get S0 hK hg i_hu rfl inHu 0 (by decide) lf_Pg_38 rfl rfl dPg_run_67 ?_
        refine lv_iload S0.1 S0.2.1 dPg_run_70 (lv_at hl 1 rfl) ?_
        refine lv_iconst (v := nI 1) S0.1 S0.2.1 dPg_run_72 (by decide) ?_
        refine lv_iadd S0.1 S0.2.1 dPg_run_73 ?_
        refine hw_top (nI ((k * 4) + 1)) (nI_add _ _) ?_
        refine hw_iald S0 hK hg i_ce 0 rfl (by omega) (by omega) dPg_run_74 ?_
        refine hw_top (nI h.2.1) q1 ?_
        refine lv_istore (lv' := [(9, .int (nI h.2.1)), (8, .int (nI h.1)), (7, .int (nI (k * 4))), (0, .ref pg), (1, .ref ra), (2, .ref rb), (3, .ref rc), (4, .int (nI s.1)), (5, .int (iZ s.2.1)), (6, .int (nI k))]) S0.1 S0.2.1 dPg_run_75 hl (by decide) rfl (fun ls hl => ?_)
        refine lv_aload_n S0.1 S0.2.1 dPg_run_77 rfl (lv_at hl 3 rfl) ?_
        refine hw_get S0 hK hg i_pg rfl inPg 2 (by decide) lf_Pg_24 rfl rfl dPg_run_78 ?_
        refine hw_get S0 hK hg i_hu rfl inHu 0 (by decide) lf_Pg_38 rfl rfl dPg_run_81 ?_
        refine lv_iload S0.1 S0.2.1 dPg_run_84 (lv_at hl 2 rfl) ?_
        refine lv_iconst (v := nI 2) S0.1 S0.2.1 dPg_run_86 (by decide) ?_
        refine lv_iadd S0.1 S0.2.1 dPg_run_87 ?_
        refine hw_top (nI ((k * 4) + 2)) (nI_add _ _) ?_
        refine hw_iald S0 hK hg i_ce 0 rfl (by omega) (by omega) dPg_run_88 ?_
        refine hw_top (nI h.2.2.1) q2 ?_
        refine lv_istore (lv' := [(10, .int (nI h.2.2.1)), (9, .int (nI h.2.1)), (8, .int (nI h.1)), (7, .int (nI (k * 4))), (0, .ref pg), (1, .ref ra), (2, .ref rb), (3, .ref rc), (4, .int (nI s.1)), (5, .int (iZ s.2.1)), (6, .int (nI k))]) S0.1 S0.2.1 dPg_run_89 hl (by decide) rfl (fun ls hl => ?_)
        refine lv_aload_n S0.1 S0.2.1 dPg_run_91 rfl (lv_at hl 5 rfl) ?_
        refine lv_iload S0.1 S0.2.1 dPg_run_92 (lv_at hl 2 rfl) ?_
        refine lv_iload S0.1 S0.2.1 dPg_run_94 (lv_at hl 1 rfl) ?_
        refine lv_aload_n S0.1 S0.2.1 dPg_run_96 rfl (lv_at hl 7 rfl) ?_
        refine lv_iload S0.1 S0.2.1 dPg_run_97 (lv_at hl 8 rfl) ?_
        refine lv_iload S0.1 S0.2.1 dPg_run_99 (lv_at hl 2 rfl) ?_
        refine lv_iload S0.1 S0.2.1 dPg_run_101 (lv_at hl 9 rfl) ?_
        refine lv_iadd S0.1 S0.2.1 dPg_run_103 ?_
        refine hw_top (iZ ((h.1 : Int) + s.2.1)) (by rw [iZ_nat, iZ_add]) ?_
        refine hw_Si (As := [.ref ra, .int (nI h.1), .int (nI h.2.1), .ref rc, .int (nI s.1), .int (iZ ((h.1 : Int) + s.2.1))]) (rest := []) S0 hK hg hS hA0 (c_Pg_nearestFit l D cI cR cJ gl _ ra la ca rc lc cc a c fa fc q31_ra q31_la q31_rc q31_lc ea ec hna hnc hca hcc hda hdc h.1 h.2.1 s.1 ((h.1 : Int) + s.2.1) (by omega) (by omega) (by omega) (by omega)) kPg_nearestFit lm_Pg_42 (hR.call rfl) rfl hl.1 rfl (Nat.le_of_ble_eq_true rfl) dPg_run_104 (hR.new (by decide) (by decide)) (fun r_104 g_5 H locs hp_104 hg hS => ?_)
        rw [hp_104.1] at hg
        replace hp_104 := hp_104.2
        have hp_104 : r_104 = oI (pwh a c s h) := hp_104
        rcases e9 : pwh a c s h with _ | p
        · skip
          have hp_104 : r_104 = -1 := by rw [hp_104, e9]; rfl
          subst hp_104
          refine lv_istore (lv' := [(11, .int (-1)), (10, .int (nI h.2.2.1)), (9, .int (nI h.2.1)), (8, .int (nI h.1)), (7, .int (nI (k * 4))), (0, .ref pg), (1, .ref ra), (2, .ref rb), (3, .ref rc), (4, .int (nI s.1)), (5, .int (iZ s.2.1)), (6, .int (nI k))]) S0.1 S0.2.1 dPg_run_107 hl (by decide) rfl (fun ls hl => ?_)
          refine lv_iload S0.1 S0.2.1 dPg_run_109 (lv_at hl 0 rfl) ?_
          refine lv_iconst (v := (-1)) S0.1 S0.2.1 dPg_run_111 (by decide) ?_
          refine lv_icmp_ne (tgt := 128) S0.1 S0.2.1 dPg_run_112 (by decide) (fun c_112 => ?_) (fun c_112 => ?_)
          · skip
            exact absurd rfl c_112
          · skip
            refine lv_aload_n S0.1 S0.2.1 dPg_run_115 rfl (lv_at hl 5 rfl) ?_
            refine lv_dup S0.1 S0.2.1 dPg_run_116 rfl ?_
            refine hw_get S0 hK hg i_pg rfl inPg 1 (by decide) lf_Pg_20 rfl rfl dPg_run_117 ?_
            refine lv_iconst (v := nI 1) S0.1 S0.2.1 dPg_run_120 (by decide) ?_
            refine lv_iadd S0.1 S0.2.1 dPg_run_121 ?_
            refine hw_top (nI (s.2.2.2 + 1)) (nI_add _ _) ?_
            refine hw_put S0 hK hg hS i_pg rfl inPg tyPg tokPg nmPg 1 (by decide) lf_Pg_20 rfl rfl rfl rfl (Nat.le_of_ble_eq_true rfl) dPg_run_122 (fun H locs hg hS => ?_)
            obtain ⟨g_6, eg_6⟩ : ∃ z, z = hs gl pg (.inr (4, [.ref oc, .int (nI (s.2.2.2 + 1)), .ref hu])) := ⟨_, rfl⟩
            have hg : hw D hC AX g_6 H := by rw [eg_6]; exact hg
            have f6_0 : g_6 ra = some (.inr (5, [.ref la, .int (nI a.length)])) := by rw [eg_6, hs_n _ _ (h_ne q31_ra i_pg (fun h => by simp at h))]; exact q31_ra
            have f6_1 : g_6 la = some (.inl (cI, ca, .inl fa)) := by rw [eg_6, hs_n _ _ (h_ne q31_la i_pg (fun h => by cases h))]; exact q31_la
            have f6_2 : g_6 rb = some (.inr (5, [.ref lb, .int (nI b.length)])) := by rw [eg_6, hs_n _ _ (h_ne q31_rb i_pg (fun h => by simp at h))]; exact q31_rb
            have f6_3 : g_6 lb = some (.inl (cI, cb, .inl fb)) := by rw [eg_6, hs_n _ _ (h_ne q31_lb i_pg (fun h => by cases h))]; exact q31_lb
            have f6_4 : g_6 rc = some (.inr (5, [.ref lc, .int (nI c.length)])) := by rw [eg_6, hs_n _ _ (h_ne q31_rc i_pg (fun h => by simp at h))]; exact q31_rc
            have f6_5 : g_6 lc = some (.inl (cI, cc, .inl fc)) := by rw [eg_6, hs_n _ _ (h_ne q31_lc i_pg (fun h => by cases h))]; exact q31_lc
            have f6_6 : g_6 oc = some (.inr (5, [.ref lo, .int (nI s.2.2.1.length)])) := by rw [eg_6, hs_n _ _ (h_ne i_oc i_pg (fun h => by simp at h))]; exact i_oc
            have f6_7 : g_6 lo = some (.inl (cI, 120, .inl fx)) := by rw [eg_6, hs_n _ _ (h_ne i_lo i_pg (fun h => by cases h))]; exact i_lo
            have f6_8 : g_6 hu = some (.inr (1, [.ref ce, .int (nI Hs.length), .ref cm])) := by rw [eg_6, hs_n _ _ (h_ne i_hu i_pg (fun h => by simp at h))]; exact i_hu
            have f6_9 : g_6 ce = some (.inl (cI, 244, .inl gc)) := by rw [eg_6, hs_n _ _ (h_ne i_ce i_pg (fun h => by cases h))]; exact i_ce
            have f6_10 : g_6 cm = some (.inr (0, [.ref pa, .ref pb, .int (nI n1), .ref len])) := by rw [eg_6, hs_n _ _ (h_ne i_cm i_pg (fun h => by simp at h))]; exact i_cm
            have f6_11 : g_6 pa = some (.inl (cI, 60, .inl gA)) := by rw [eg_6, hs_n _ _ (h_ne i_pa i_pg (fun h => by cases h))]; exact i_pa
            have f6_12 : g_6 pb = some (.inl (cI, 60, .inl gB)) := by rw [eg_6, hs_n _ _ (h_ne i_pb i_pg (fun h => by cases h))]; exact i_pb
            have f6_13 : g_6 len = some (.inl (cI, 3721, .inl gL)) := by rw [eg_6, hs_n _ _ (h_ne i_len i_pg (fun h => by cases h))]; exact i_len
            have f6_14 : g_6 pg = some (.inr (4, [.ref oc, .int (nI (s.2.2.2 + 1)), .ref hu])) := by rw [eg_6]; exact hs_s _ _ _
            have fr := fr.put eg_6 (by simp)
            refine lv_goto (tgt := 179) S0.1 S0.2.1 dPg_run_125 (by decide) ?_
            refine lv_iinc (v := nI (k + 1)) (lv' := [(6, .int (nI (k + 1))), (11, .int (-1)), (10, .int (nI h.2.2.1)), (9, .int (nI h.2.1)), (8, .int (nI h.1)), (7, .int (nI (k * 4))), (0, .ref pg), (1, .ref ra), (2, .ref rb), (3, .ref rc), (4, .int (nI s.1)), (5, .int (iZ s.2.1))]) S0.1 S0.2.1 dPg_run_179 hl (k := 11) rfl (by exact nI_add _ 1) (by decide) rfl (fun ls hl => ?_)
            refine lv_goto (tgt := 31) S0.1 S0.2.1 dPg_run_182 (by decide) ?_
            exact ih_31 (k + 1) (s.1, s.2.1, s.2.2.1, s.2.2.2 + 1) fx g_6 _ _ _ (by omega) (by omega) (by rw [take_snoc hget, pfold_snoc, ← hs_, pstep_none e9]) eo fr f6_14 f6_6 f6_7 f6_8 f6_9 f6_10 f6_11 f6_12 f6_13 hg hS (lv_sub hl [6, 7, 8, 9, 10, 11, 0] rfl)
        · skip
          have hp_104 : r_104 = nI p := by rw [hp_104, e9]; rfl
          subst hp_104
          have hin := nrst_in e9
          have hfi := (fitB_iff.mp hin.2.2).1
          refine lv_istore (lv' := [(11, .int (nI p)), (10, .int (nI h.2.2.1)), (9, .int (nI h.2.1)), (8, .int (nI h.1)), (7, .int (nI (k * 4))), (0, .ref pg), (1, .ref ra), (2, .ref rb), (3, .ref rc), (4, .int (nI s.1)), (5, .int (iZ s.2.1)), (6, .int (nI k))]) S0.1 S0.2.1 dPg_run_107 hl (by decide) rfl (fun ls hl => ?_)
          refine lv_iload S0.1 S0.2.1 dPg_run_109 (lv_at hl 0 rfl) ?_
          refine lv_iconst (v := (-1)) S0.1 S0.2.1 dPg_run_111 (by decide) ?_
          refine lv_icmp_ne (tgt := 128) S0.1 S0.2.1 dPg_run_112 (by decide) (fun c_112 => ?_) (fun c_112 => ?_)
          · skip
            refine lv_aload_n S0.1 S0.2.1 dPg_run_128 rfl (lv_at hl 5 rfl) ?_
            refine hw_get S0 hK hg i_pg rfl inPg 0 (by decide) lf_Pg_14 rfl rfl dPg_run_129 ?_
            refine lv_aload_n S0.1 S0.2.1 dPg_run_132 rfl (lv_at hl 8 rfl) ?_
            refine lv_iload S0.1 S0.2.1 dPg_run_133 (lv_at hl 9 rfl) ?_
            refine lv_iload S0.1 S0.2.1 dPg_run_135 (lv_at hl 0 rfl) ?_
            refine hw_Vv (As := [.ref rc, .int (nI s.1), .int (nI p)]) (rest := []) S0 hK hg hS hA0 i_oc rfl (c_Ro_addPart l D cI cR cJ gl _ oc lo s.2.2.1.length 120 rc lc c.length cc s.1 p fx fc i_oc i_lo q31_rc q31_lc n_rc_oc n_lc_lo (by omega) (by omega) (by first | omega | (rw [List.length_append, pt_len (by omega)]; omega)) (by omega) (by omega) (by omega) (by omega)) kRo_addPart lm_Pg_46 (hR.call rfl) rfl hl.1 rfl (Nat.le_of_ble_eq_true rfl) dPg_run_137 (hR.new (by decide) (by decide)) (fun g_7 H locs hp_137 hg hS => ?_)
            obtain ⟨frA137, z0137, fz137, z1137, z2137, z3137⟩ := hp_137
            have eo1 : rp fz137 (s.2.2.1 ++ pt c s.1 p) := rp_app eo ec (by omega) z2137 z3137
            have z0137 : g_7 oc = some (.inr (5, [.ref lo, .int (nI (s.2.2.1 ++ pt c s.1 p).length)])) := by rw [List.length_append, pt_len (by omega)]; exact z0137
            have k7_0 := frA137.at (h_nm n_ra_oc (h_nm (h_ne q31_ra i_lo (fun h => by cases h)) h_n0)) q31_ra
            have k7_1 := frA137.at (h_nm (h_ne q31_la i_oc (fun h => by cases h)) (h_nm n_la_lo h_n0)) q31_la
            have k7_2 := frA137.at (h_nm n_rb_oc (h_nm (h_ne q31_rb i_lo (fun h => by cases h)) h_n0)) q31_rb
            have k7_3 := frA137.at (h_nm (h_ne q31_lb i_oc (fun h => by cases h)) (h_nm n_lb_lo h_n0)) q31_lb
            have k7_4 := frA137.at (h_nm n_rc_oc (h_nm (h_ne q31_rc i_lo (fun h => by cases h)) h_n0)) q31_rc
            have k7_5 := frA137.at (h_nm (h_ne q31_lc i_oc (fun h => by cases h)) (h_nm n_lc_lo h_n0)) q31_lc
            have k7_6 := frA137.at (h_nm (h_ne i_pg i_oc (fun h => by simp at h)) (h_nm (h_ne i_pg i_lo (fun h => by cases h)) h_n0)) i_pg
            have k7_7 := frA137.at (h_nm (h_ne i_hu i_oc (fun h => by simp at h)) (h_nm (h_ne i_hu i_lo (fun h => by cases h)) h_n0)) i_hu
            have k7_8 := frA137.at (h_nm (h_ne i_ce i_oc (fun h => by cases h)) (h_nm n_ce_lo h_n0)) i_ce
            have k7_9 := frA137.at (h_nm (h_ne i_cm i_oc (fun h => by simp at h)) (h_nm (h_ne i_cm i_lo (fun h => by cases h)) h_n0)) i_cm
            have k7_10 := frA137.at (h_nm (h_ne i_pa i_oc (fun h => by cases h)) (h_nm n_pa_lo h_n0)) i_pa
            have k7_11 := frA137.at (h_nm (h_ne i_pb i_oc (fun h => by cases h)) (h_nm n_pb_lo h_n0)) i_pb
            have k7_12 := frA137.at (h_nm (h_ne i_len i_oc (fun h => by cases h)) (h_nm n_len_lo h_n0)) i_len
            have fr := fr.call frA137 (by simp)
            refine lv_aload_n S0.1 S0.2.1 dPg_run_140 rfl (lv_at hl 5 rfl) ?_
            refine hw_get S0 hK hg k7_6 rfl inPg 0 (by decide) lf_Pg_14 rfl rfl dPg_run_141 ?_
            refine lv_aload_n S0.1 S0.2.1 dPg_run_144 rfl (lv_at hl 7 rfl) ?_
            refine lv_iload S0.1 S0.2.1 dPg_run_145 (lv_at hl 1 rfl) ?_
            refine lv_iload S0.1 S0.2.1 dPg_run_147 (lv_at hl 1 rfl) ?_
            refine lv_aload_n S0.1 S0.2.1 dPg_run_149 rfl (lv_at hl 5 rfl) ?_
            refine hw_get S0 hK hg k7_6 rfl inPg 2 (by decide) lf_Pg_24 rfl rfl dPg_run_150 ?_
            refine hw_get S0 hK hg k7_7 rfl inHu 0 (by decide) lf_Pg_38 rfl rfl dPg_run_153 ?_
            refine lv_iload S0.1 S0.2.1 dPg_run_156 (lv_at hl 4 rfl) ?_
            refine lv_iconst (v := nI 3) S0.1 S0.2.1 dPg_run_158 (by decide) ?_
            refine lv_iadd S0.1 S0.2.1 dPg_run_159 ?_
            refine hw_top (nI ((k * 4) + 3)) (nI_add _ _) ?_
            refine hw_iald S0 hK hg k7_8 0 rfl (by omega) (by omega) dPg_run_160 ?_
            refine hw_top (nI h.2.2.2) q3 ?_
            refine lv_iadd S0.1 S0.2.1 dPg_run_161 ?_
            refine hw_top (nI (h.2.2.1 + h.2.2.2)) (nI_add _ _) ?_
            refine hw_Vv (As := [.ref rb, .int (nI h.2.2.1), .int (nI (h.2.2.1 + h.2.2.2))]) (rest := []) S0 hK hg hS hA0 z0137 rfl (c_Ro_addPart l D cI cR cJ g_7 _ oc lo (s.2.2.1 ++ pt c s.1 p).length 120 rb lb b.length cb h.2.2.1 (h.2.2.1 + h.2.2.2) fz137 fb z0137 z1137 k7_2 k7_3 n_rb_oc n_lb_lo (by omega) (by omega) (by first | omega | (rw [List.length_append, pt_len (by omega)]; omega)) (by omega) (by omega) (by omega) (by omega)) kRo_addPart lm_Pg_46 (hR.call rfl) rfl hl.1 rfl (Nat.le_of_ble_eq_true rfl) dPg_run_162 (hR.new (by decide) (by decide)) (fun g_8 H locs hp_162 hg hS => ?_)
            obtain ⟨frA162, z0162, fz162, z1162, z2162, z3162⟩ := hp_162
            have eo2 : rp fz162 ((s.2.2.1 ++ pt c s.1 p) ++ pt b h.2.2.1 (h.2.2.1 + h.2.2.2)) := rp_app eo1 eb (by omega) z2162 z3162
            have z0162 : g_8 oc = some (.inr (5, [.ref lo, .int (nI ((s.2.2.1 ++ pt c s.1 p) ++ pt b h.2.2.1 (h.2.2.1 + h.2.2.2)).length)])) := by rw [List.length_append, pt_len (by omega)]; exact z0162
            have k8_0 := frA162.at (h_nm n_ra_oc (h_nm (h_ne k7_0 z1137 (fun h => by cases h)) h_n0)) k7_0
            have k8_1 := frA162.at (h_nm (h_ne k7_1 z0137 (fun h => by cases h)) (h_nm n_la_lo h_n0)) k7_1
            have k8_2 := frA162.at (h_nm n_rb_oc (h_nm (h_ne k7_2 z1137 (fun h => by cases h)) h_n0)) k7_2
            have k8_3 := frA162.at (h_nm (h_ne k7_3 z0137 (fun h => by cases h)) (h_nm n_lb_lo h_n0)) k7_3
            have k8_4 := frA162.at (h_nm n_rc_oc (h_nm (h_ne k7_4 z1137 (fun h => by cases h)) h_n0)) k7_4
            have k8_5 := frA162.at (h_nm (h_ne k7_5 z0137 (fun h => by cases h)) (h_nm n_lc_lo h_n0)) k7_5
            have k8_6 := frA162.at (h_nm (h_ne k7_6 z0137 (fun h => by simp at h)) (h_nm (h_ne k7_6 z1137 (fun h => by cases h)) h_n0)) k7_6
            have k8_7 := frA162.at (h_nm (h_ne k7_7 z0137 (fun h => by simp at h)) (h_nm (h_ne k7_7 z1137 (fun h => by cases h)) h_n0)) k7_7
            have k8_8 := frA162.at (h_nm (h_ne k7_8 z0137 (fun h => by cases h)) (h_nm n_ce_lo h_n0)) k7_8
            have k8_9 := frA162.at (h_nm (h_ne k7_9 z0137 (fun h => by simp at h)) (h_nm (h_ne k7_9 z1137 (fun h => by cases h)) h_n0)) k7_9
            have k8_10 := frA162.at (h_nm (h_ne k7_10 z0137 (fun h => by cases h)) (h_nm n_pa_lo h_n0)) k7_10
            have k8_11 := frA162.at (h_nm (h_ne k7_11 z0137 (fun h => by cases h)) (h_nm n_pb_lo h_n0)) k7_11
            have k8_12 := frA162.at (h_nm (h_ne k7_12 z0137 (fun h => by cases h)) (h_nm n_len_lo h_n0)) k7_12
            have fr := fr.call frA162 (by simp)
            refine lv_iload S0.1 S0.2.1 dPg_run_165 (lv_at hl 0 rfl) ?_
            refine lv_iload S0.1 S0.2.1 dPg_run_167 (lv_at hl 2 rfl) ?_
            refine lv_iadd S0.1 S0.2.1 dPg_run_169 ?_
            refine hw_top (nI (p + h.2.1)) (nI_add _ _) ?_
            refine lv_istore (lv' := [(4, .int (nI (p + h.2.1))), (11, .int (nI p)), (10, .int (nI h.2.2.1)), (9, .int (nI h.2.1)), (8, .int (nI h.1)), (7, .int (nI (k * 4))), (0, .ref pg), (1, .ref ra), (2, .ref rb), (3, .ref rc), (5, .int (iZ s.2.1)), (6, .int (nI k))]) S0.1 S0.2.1 dPg_run_170 hl (by decide) rfl (fun ls hl => ?_)
            refine lv_iload S0.1 S0.2.1 dPg_run_172 (lv_at hl 1 rfl) ?_
            refine lv_iload S0.1 S0.2.1 dPg_run_174 (lv_at hl 4 rfl) ?_
            refine lv_isub S0.1 S0.2.1 dPg_run_176 ?_
            refine hw_top (iZ ((p : Int) - (h.1 : Int))) (nI_subI _ _) ?_
            refine lv_istore (lv' := [(5, .int (iZ ((p : Int) - (h.1 : Int)))), (4, .int (nI (p + h.2.1))), (11, .int (nI p)), (10, .int (nI h.2.2.1)), (9, .int (nI h.2.1)), (8, .int (nI h.1)), (7, .int (nI (k * 4))), (0, .ref pg), (1, .ref ra), (2, .ref rb), (3, .ref rc), (6, .int (nI k))]) S0.1 S0.2.1 dPg_run_177 hl (by decide) rfl (fun ls hl => ?_)
            refine lv_iinc (v := nI (k + 1)) (lv' := [(6, .int (nI (k + 1))), (5, .int (iZ ((p : Int) - (h.1 : Int)))), (4, .int (nI (p + h.2.1))), (11, .int (nI p)), (10, .int (nI h.2.2.1)), (9, .int (nI h.2.1)), (8, .int (nI h.1)), (7, .int (nI (k * 4))), (0, .ref pg), (1, .ref ra), (2, .ref rb), (3, .ref rc)]) S0.1 S0.2.1 dPg_run_179 hl (k := 11) rfl (by exact nI_add _ 1) (by decide) rfl (fun ls hl => ?_)
            refine lv_goto (tgt := 31) S0.1 S0.2.1 dPg_run_182 (by decide) ?_
            exact ih_31 (k + 1) (p + h.2.1, (p : Int) - (h.1 : Int), (s.2.2.1 ++ pt c s.1 p) ++ pt b h.2.2.1 (h.2.2.1 + h.2.2.2), s.2.2.2) fz162 g_8 _ _ _ (by omega) (by omega) (by rw [take_snoc hget, pfold_snoc, ← hs_, pstep_some e9]) eo2 fr k8_6 z0162 z1162 k8_7 k8_8 k8_9 k8_10 k8_11 k8_12 hg hS (lv_sub hl [8, 9, 10, 11, 2, 1, 0] rfl)
          · skip
            exact absurd c_112 (nI_m1 (by omega))
  exact loop_31 _ 0 (0, 0, [], 0) fo g_3 _ _ _ (Nat.lt_succ_self _) (Nat.zero_le _) rfl (rp_nil _) fr f3_14 f3_13 f3_6 f3_11 f3_12 f3_7 f3_8 f3_9 f3_10 hg hS (lv_sub hl [3, 4, 5, 6, 2, 1, 0] rfl)
