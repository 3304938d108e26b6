/-! THE COMMON of two rows -/
theorem ms_eq {a b : List Int32} {fi : Nat → Int32} {i j : Nat} (hi : i < a.length) (hj : j < b.length) (hrow : ∀ x y, i + 1 ≤ x → x ≤ a.length → y ≤ b.length → fi (x * 61 + y) = nI (Lc a b x y)) (h : a.getD i 0 = b.getD j 0) : nI 1 + fi (i * 61 + j + 61 + 1) = nI (Lc a b i j) := by
  rw [show i * 61 + j + 61 + 1 = (i + 1) * 61 + (j + 1) by omega, hrow (i + 1) (j + 1) (by omega) (by omega) (by omega), Lc_step hi hj, if_pos h, nI_add, Nat.add_comm]
theorem ms_ne {a b : List Int32} {fi : Nat → Int32} {i j : Nat} (hi : i < a.length) (hj : j < b.length) (ha : a.length ≤ 60) (hrow : ∀ x y, i + 1 ≤ x → x ≤ a.length → y ≤ b.length → fi (x * 61 + y) = nI (Lc a b x y)) (hin : ∀ y, j + 1 ≤ y → y ≤ b.length → fi (i * 61 + y) = nI (Lc a b i y)) (h : ¬ a.getD i 0 = b.getD j 0) : (if fi (i * 61 + j + 61) < fi (i * 61 + j + 1) then fi (i * 61 + j + 1) else fi (i * 61 + j + 61)) = nI (Lc a b i j) := by
  have h1 := Lc_le a b (i + 1) j
  have h2 := Lc_le a b i (j + 1)
  rw [show i * 61 + j + 61 = (i + 1) * 61 + j by omega, show i * 61 + j + 1 = i * 61 + (j + 1) by omega, hrow (i + 1) j (by omega) (by omega) (by omega), hin (j + 1) (by omega) (by omega), nI_max (by omega) (by omega), Lc_step hi hj, if_neg h]
theorem ms_step {a b : List Int32} {fi : Nat → Int32} {i j : Nat} {v : Int32} (hi : i < a.length) (hj : j < b.length) (hb : b.length ≤ 60) (hv : v = nI (Lc a b i j)) (hrow : ∀ x y, i + 1 ≤ x → x ≤ a.length → y ≤ b.length → fi (x * 61 + y) = nI (Lc a b x y)) (hcol : ∀ x, x ≤ a.length → fi (x * 61 + b.length) = nI 0) (hin : ∀ y, j + 1 ≤ y → y ≤ b.length → fi (i * 61 + y) = nI (Lc a b i y)) :
    (∀ x y, i + 1 ≤ x → x ≤ a.length → y ≤ b.length → upd fi (i * 61 + j) v (x * 61 + y) = nI (Lc a b x y)) ∧ (∀ x, x ≤ a.length → upd fi (i * 61 + j) v (x * 61 + b.length) = nI 0) ∧ ∀ y, j ≤ y → y ≤ b.length → upd fi (i * 61 + j) v (i * 61 + y) = nI (Lc a b i y) := by
  refine ⟨fun x y h1 h2 h3 => ?_, fun x h1 => ?_, fun y h1 h2 => ?_⟩
  · rw [pk_un (by omega)]; exact hrow x y h1 h2 h3
  · rw [pk_un (by omega)]; exact hcol x h1
  · by_cases e : y = j
    · subst e; rw [pk_us]; exact hv
    · rw [pk_un (by omega)]; exact hin y (by omega) h2
theorem nI_m1 {k : Nat} (h : k < 2 ^ 31) : ¬ nI k = -1 := fun e => nI_pos h (by rw [e]; decide +kernel)
set_option maxRecDepth 100000 in
set_option maxHeartbeats 4000000 in
theorem c_Co_clearEnds (l : Launch) (D : va_G) (cI cR cJ : ClassId) (g : Nat → Option va_E) (sz : Nat) (cm pa pb len ea eb : Nat) (cnt : Int32) (fl : Nat → Int32) (h0 : g cm = some (.inr (0, [.ref pa, .ref pb, .int cnt, .ref len]))) (h1 : g len = some (.inl (cI, 3721, .inl fl))) (ha : ea ≤ 60) (hb : eb ≤ 60) : hMv l yCo_clearEnds cCo_clearEnds 4 (hRm 0 0 0 0) D (hT cI cR cJ) g sz [.ref cm, .int (nI ea), .int (nI eb)] (fun g1 => hfr g g1 [len] ∧ ∃ f1, g1 len = some (.inl (cI, 3721, .inl f1)) ∧ (∀ x, x ≤ ea → f1 (x * 61 + eb) = nI 0) ∧ ∀ y, y ≤ eb → f1 (ea * 61 + y) = nI 0) := by
  refine hMv_of (by decide +kernel) (Nat.le_of_ble_eq_true rfl) ?_
  intro pX eX RX sX mX argsX belowX methX cX QX AX hR S0 hnm hsz hg hK hS hA0 hend ls hl
  have hl : lv_has ls 4 [(0, .ref cm), (1, .int (nI ea)), (2, .int (nI eb))] := hl
  have fr : hfr g g [len] := hfr.rf
  refine lv_iconst (v := nI 0) S0.1 S0.2.1 dCo_clearEnds_0 (by decide) ?_
  refine lv_istore_n (lv' := [(3, .int (nI 0)), (0, .ref cm), (1, .int (nI ea)), (2, .int (nI eb))]) S0.1 S0.2.1 dCo_clearEnds_1 rfl hl (by decide) rfl (fun ls hl => ?_)
  have loop_2 : ∀ (n_2 : Nat) (x : Nat) (fx : Nat → Int32) (gl : Nat → Option va_E) (H : Heap) (locs : List Loc) (ls : Array Slot), ea + 1 - x < n_2 → (x ≤ ea + 1) → (∀ q, q < x → fx (q * 61 + eb) = nI 0) → (hfr g gl [len]) → (gl len = some (.inl (cI, 3721, .inl fx))) → hw D hC AX gl H → va_S AX sX.heap H locs → lv_has ls 4 [(0, .ref cm), (1, .int (nI ea)), (2, .int (nI eb)), (3, .int (nI x))] → W pX l eX RX sX mX argsX belowX methX cX H locs 0 0 QX (F0 mX 2 ls []) := by
    intro n_2
    induction n_2 with
    | zero => intros; omega
    | succ n_2 ih_2 =>
      intro x fx gl H locs ls hm_2 hx hz fr e1 hg hS hl
      have q2_cm := fr.at (h_nm (h_ne h0 h1 (fun h => by cases h)) h_n0) h0
      refine lv_iload_n S0.1 S0.2.1 dCo_clearEnds_2 rfl (lv_at hl 3 rfl) ?_
      refine lv_iload_n S0.1 S0.2.1 dCo_clearEnds_3 rfl (lv_at hl 1 rfl) ?_
      refine lv_icmp_gt (tgt := 25) S0.1 S0.2.1 dCo_clearEnds_4 (by decide) (fun c_4 => ?_) (fun c_4 => ?_)
      · skip
        have c_4 : ea < x := (nI_ltI (by omega) (by omega)).mp c_4
        refine lv_iconst (v := nI 0) S0.1 S0.2.1 dCo_clearEnds_25 (by decide) ?_
        refine lv_istore_n (lv' := [(3, .int (nI 0)), (0, .ref cm), (1, .int (nI ea)), (2, .int (nI eb))]) S0.1 S0.2.1 dCo_clearEnds_26 rfl hl (by decide) rfl (fun ls hl => ?_)
        have loop_27 : ∀ (n_27 : Nat) (y : Nat) (fy : Nat → Int32) (gm : Nat → Option va_E) (H : Heap) (locs : List Loc) (ls : Array Slot), eb + 1 - y < n_27 → (y ≤ eb + 1) → (∀ q, q ≤ ea → fy (q * 61 + eb) = nI 0) → (∀ q, q < y → fy (ea * 61 + q) = nI 0) → (hfr g gm [len]) → (gm len = some (.inl (cI, 3721, .inl fy))) → hw D hC AX gm H → va_S AX sX.heap H locs → lv_has ls 4 [(0, .ref cm), (1, .int (nI ea)), (2, .int (nI eb)), (3, .int (nI y))] → W pX l eX RX sX mX argsX belowX methX cX H locs 0 0 QX (F0 mX 27 ls []) := by
          intro n_27
          induction n_27 with
          | zero => intros; omega
          | succ n_27 ih_27 =>
            intro y fy gm H locs ls hm_27 hy hz1 hz2 fr e2 hg hS hl
            have q27_cm := fr.at (h_nm (h_ne q2_cm e1 (fun h => by cases h)) h_n0) h0
            refine lv_iload_n S0.1 S0.2.1 dCo_clearEnds_27 rfl (lv_at hl 3 rfl) ?_
            refine lv_iload_n S0.1 S0.2.1 dCo_clearEnds_28 rfl (lv_at hl 2 rfl) ?_
            refine lv_icmp_gt (tgt := 50) S0.1 S0.2.1 dCo_clearEnds_29 (by decide) (fun c_29 => ?_) (fun c_29 => ?_)
            · skip
              have c_29 : eb < y := (nI_ltI (by omega) (by omega)).mp c_29
              exact hend _ _ _ _ _ _ _ (by decide) (by decide) (⟨fr, fy, e2, hz1, fun q h => hz2 q (by omega)⟩) hg hS dCo_clearEnds_50
            · skip
              have c_29 : ¬ (eb < y) := fun h => c_29 ((nI_ltI (by omega) (by omega)).mpr h)
              refine lv_aload_n S0.1 S0.2.1 dCo_clearEnds_32 rfl (lv_at hl 0 rfl) ?_
              refine hw_get S0 hK hg q27_cm rfl inCo 3 (by decide) lf_Co_22 rfl rfl dCo_clearEnds_33 ?_
              refine lv_iload_n S0.1 S0.2.1 dCo_clearEnds_36 rfl (lv_at hl 1 rfl) ?_
              refine lv_bipush (v := nI 61) S0.1 S0.2.1 dCo_clearEnds_37 (by decide) ?_
              refine lv_imul S0.1 S0.2.1 dCo_clearEnds_39 ?_
              refine hw_top (nI (ea * 61)) (pk_mul _ _) ?_
              refine lv_iload_n S0.1 S0.2.1 dCo_clearEnds_40 rfl (lv_at hl 3 rfl) ?_
              refine lv_iadd S0.1 S0.2.1 dCo_clearEnds_41 ?_
              refine hw_top (nI ((ea * 61) + y)) (nI_add _ _) ?_
              refine lv_iconst (v := nI 0) S0.1 S0.2.1 dCo_clearEnds_42 (by decide) ?_
              refine hw_iast S0 hK hg hS e2 0 rfl (by omega) (by omega) dCo_clearEnds_43 (fun H locs hg hS => ?_)
              obtain ⟨g_1, eg_1⟩ : ∃ z, z = hs gm len (.inl (cI, 3721, .inl (upd fy ((ea * 61) + y) (nI 0)))) := ⟨_, rfl⟩
              have hg : hw D hC AX g_1 H := by rw [eg_1]; exact hg
              have f1_0 : g_1 cm = some (.inr (0, [.ref pa, .ref pb, .int cnt, .ref len])) := by rw [eg_1, hs_n _ _ (h_ne q27_cm e2 (fun h => by cases h))]; exact q27_cm
              have f1_1 : g_1 len = some (.inl (cI, 3721, .inl (upd fy ((ea * 61) + y) (nI 0)))) := by rw [eg_1]; exact hs_s _ _ _
              have fr := fr.put eg_1 (by simp)
              refine lv_iinc (v := nI (y + 1)) (lv' := [(3, .int (nI (y + 1))), (0, .ref cm), (1, .int (nI ea)), (2, .int (nI eb))]) S0.1 S0.2.1 dCo_clearEnds_44 hl (k := 3) rfl (by exact nI_add _ 1) (by decide) rfl (fun ls hl => ?_)
              refine lv_goto (tgt := 27) S0.1 S0.2.1 dCo_clearEnds_47 (by decide) ?_
              exact ih_27 (y + 1) (upd fy ((ea * 61) + y) (nI 0)) g_1 _ _ _ (by omega) (by omega) (fun q h => by by_cases h9 : q * 61 + eb = ea * 61 + y; rw [h9, pk_us]; rw [pk_un h9]; exact hz1 q h) (fun q h => by rcases Nat.lt_or_ge q y with h9 | h9; rw [pk_un (by omega)]; exact hz2 q h9; rw [show q = y by omega, pk_us]) fr f1_1 hg hS (lv_sub hl [1, 2, 3, 0] rfl)
        exact loop_27 _ 0 fx gl _ _ _ (Nat.lt_succ_self _) (by omega) (fun q h => hz q (by omega)) (fun q h => absurd h (Nat.not_lt_zero q)) fr e1 hg hS (lv_sub hl [1, 2, 3, 0] rfl)
      · skip
        have c_4 : ¬ (ea < x) := fun h => c_4 ((nI_ltI (by omega) (by omega)).mpr h)
        refine lv_aload_n S0.1 S0.2.1 dCo_clearEnds_7 rfl (lv_at hl 0 rfl) ?_
        refine hw_get S0 hK hg q2_cm rfl inCo 3 (by decide) lf_Co_22 rfl rfl dCo_clearEnds_8 ?_
        refine lv_iload_n S0.1 S0.2.1 dCo_clearEnds_11 rfl (lv_at hl 3 rfl) ?_
        refine lv_bipush (v := nI 61) S0.1 S0.2.1 dCo_clearEnds_12 (by decide) ?_
        refine lv_imul S0.1 S0.2.1 dCo_clearEnds_14 ?_
        refine hw_top (nI (x * 61)) (pk_mul _ _) ?_
        refine lv_iload_n S0.1 S0.2.1 dCo_clearEnds_15 rfl (lv_at hl 2 rfl) ?_
        refine lv_iadd S0.1 S0.2.1 dCo_clearEnds_16 ?_
        refine hw_top (nI ((x * 61) + eb)) (nI_add _ _) ?_
        refine lv_iconst (v := nI 0) S0.1 S0.2.1 dCo_clearEnds_17 (by decide) ?_
        refine hw_iast S0 hK hg hS e1 0 rfl (by omega) (by omega) dCo_clearEnds_18 (fun H locs hg hS => ?_)
        obtain ⟨g_2, eg_2⟩ : ∃ z, z = hs gl len (.inl (cI, 3721, .inl (upd fx ((x * 61) + eb) (nI 0)))) := ⟨_, rfl⟩
        have hg : hw D hC AX g_2 H := by rw [eg_2]; exact hg
        have f2_0 : g_2 cm = some (.inr (0, [.ref pa, .ref pb, .int cnt, .ref len])) := by rw [eg_2, hs_n _ _ (h_ne q2_cm e1 (fun h => by cases h))]; exact q2_cm
        have f2_1 : g_2 len = some (.inl (cI, 3721, .inl (upd fx ((x * 61) + eb) (nI 0)))) := by rw [eg_2]; exact hs_s _ _ _
        have fr := fr.put eg_2 (by simp)
        refine lv_iinc (v := nI (x + 1)) (lv' := [(3, .int (nI (x + 1))), (0, .ref cm), (1, .int (nI ea)), (2, .int (nI eb))]) S0.1 S0.2.1 dCo_clearEnds_19 hl (k := 3) rfl (by exact nI_add _ 1) (by decide) rfl (fun ls hl => ?_)
        refine lv_goto (tgt := 2) S0.1 S0.2.1 dCo_clearEnds_22 (by decide) ?_
        exact ih_2 (x + 1) (upd fx ((x * 61) + eb) (nI 0)) g_2 _ _ _ (by omega) (by omega) (fun q h => by rcases Nat.lt_or_ge q x with h9 | h9; rw [pk_un (by omega)]; exact hz q h9; rw [show q = x by omega, pk_us]) fr f2_1 hg hS (lv_sub hl [1, 2, 3, 0] rfl)
  exact loop_2 _ 0 fl g _ _ _ (Nat.lt_succ_self _) (by omega) (fun q h => absurd h (Nat.not_lt_zero q)) fr h1 hg hS (lv_sub hl [1, 2, 3, 0] rfl)
set_option maxRecDepth 100000 in
set_option maxHeartbeats 4000000 in
theorem c_Co_measure (l : Launch) (D : va_G) (cI cR cJ : ClassId) (g : Nat → Option va_E) (sz : Nat) (cm pa pb len ra la ca rb lb cb : Nat) (cnt : Int32) (a b : List Int32) (fa fb fl : Nat → Int32) (h0 : g cm = some (.inr (0, [.ref pa, .ref pb, .int cnt, .ref len]))) (h1 : g len = some (.inl (cI, 3721, .inl fl))) (h2 : g ra = some (.inr (5, [.ref la, .int (nI a.length)]))) (h3 : g la = some (.inl (cI, ca, .inl fa))) (h4 : g rb = some (.inr (5, [.ref lb, .int (nI b.length)]))) (h5 : g lb = some (.inl (cI, cb, .inl fb))) (ea : rp fa a) (eb : rp fb b) (hla : la ≠ len) (hlb : lb ≠ len) (hna : a.length ≤ 60) (hnb : b.length ≤ 60) (hca : a.length ≤ ca) (hcb : b.length ≤ cb) (hca4 : ca < 4000) (hcb4 : cb < 4000) : hMv l yCo_measure cCo_measure 6 (hRm 1 23 0 0) D (hT cI cR cJ) g sz [.ref cm, .ref ra, .ref rb] (fun g1 => hfr g g1 [len] ∧ ∃ f1, g1 len = some (.inl (cI, 3721, .inl f1)) ∧ ∀ x y, x ≤ a.length → y ≤ b.length → f1 (x * 61 + y) = nI (Lc a b x y)) := by
  refine hMv_of (by decide +kernel) (Nat.le_of_ble_eq_true rfl) ?_
  intro pX eX RX sX mX argsX belowX methX cX QX AX hR S0 hnm hsz hg hK hS hA0 hend ls hl
  have hl : lv_has ls 6 [(0, .ref cm), (1, .ref ra), (2, .ref rb)] := hl
  have fr : hfr g g [len] := hfr.rf
  refine lv_aload_n S0.1 S0.2.1 dCo_measure_0 rfl (lv_at hl 0 rfl) ?_
  refine lv_aload_n S0.1 S0.2.1 dCo_measure_1 rfl (lv_at hl 1 rfl) ?_
  refine hw_get S0 hK hg h2 rfl inRo 1 (by decide) lf_Co_29 rfl rfl dCo_measure_2 ?_
  refine lv_aload_n S0.1 S0.2.1 dCo_measure_5 rfl (lv_at hl 2 rfl) ?_
  refine hw_get S0 hK hg h4 rfl inRo 1 (by decide) lf_Co_29 rfl rfl dCo_measure_6 ?_
  refine hw_Vv (As := [.int (nI a.length), .int (nI b.length)]) (rest := []) S0 hK hg hS hA0 h0 rfl (c_Co_clearEnds l D cI cR cJ g _ cm pa pb len a.length b.length cnt fl h0 h1 hna hnb) kCo_clearEnds lm_Co_47 (hR.call rfl) rfl hl.1 rfl (Nat.le_of_ble_eq_true rfl) dCo_measure_9 (hR.new (by decide) (by decide)) (fun g_1 H locs hp_9 hg hS => ?_)
  obtain ⟨fr1, f1, a1, a2, a3⟩ := hp_9
  have k1_0 := fr1.at (h_nm (h_ne h0 h1 (fun h => by cases h)) h_n0) h0
  have k1_1 := fr1.at (h_nm (h_ne h2 h1 (fun h => by cases h)) h_n0) h2
  have k1_2 := fr1.at (h_nm hla h_n0) h3
  have k1_3 := fr1.at (h_nm (h_ne h4 h1 (fun h => by cases h)) h_n0) h4
  have k1_4 := fr1.at (h_nm hlb h_n0) h5
  have fr := fr.call fr1 (by simp)
  refine lv_aload_n S0.1 S0.2.1 dCo_measure_12 rfl (lv_at hl 1 rfl) ?_
  refine hw_get S0 hK hg k1_1 rfl inRo 1 (by decide) lf_Co_29 rfl rfl dCo_measure_13 ?_
  refine lv_iconst (v := nI 1) S0.1 S0.2.1 dCo_measure_16 (by decide) ?_
  refine lv_isub S0.1 S0.2.1 dCo_measure_17 ?_
  refine lv_istore_n (lv' := [(3, .int ((nI a.length) - (nI 1))), (0, .ref cm), (1, .ref ra), (2, .ref rb)]) S0.1 S0.2.1 dCo_measure_18 rfl hl (by decide) rfl (fun ls hl => ?_)
  have loop_19 : ∀ (n_19 : Nat) (t : Nat) (fo : Nat → Int32) (gl : Nat → Option va_E) (H : Heap) (locs : List Loc) (ls : Array Slot), t < n_19 → (t ≤ a.length) → (∀ x y, t ≤ x → x ≤ a.length → y ≤ b.length → fo (x * 61 + y) = nI (Lc a b x y)) → (∀ x, x ≤ a.length → fo (x * 61 + b.length) = nI 0) → (hfr g gl [len]) → (gl len = some (.inl (cI, 3721, .inl fo))) → hw D hC AX gl H → va_S AX sX.heap H locs → lv_has ls 6 [(0, .ref cm), (1, .ref ra), (2, .ref rb), (3, .int (nJ t))] → W pX l eX RX sX mX argsX belowX methX cX H locs 0 0 QX (F0 mX 19 ls []) := by
    intro n_19
    induction n_19 with
    | zero => intros; omega
    | succ n_19 ih_19 =>
      intro t fo gl H locs ls hm_19 ht hrow hcol fr e1 hg hS hl
      have q19_cm := fr.at (h_nm (h_ne k1_0 a1 (fun h => by cases h)) h_n0) h0
      have q19_ra := fr.at (h_nm (h_ne k1_1 a1 (fun h => by cases h)) h_n0) h2
      have q19_la := fr.at (h_nm hla h_n0) h3
      have q19_rb := fr.at (h_nm (h_ne k1_3 a1 (fun h => by cases h)) h_n0) h4
      have q19_lb := fr.at (h_nm hlb h_n0) h5
      refine lv_iload_n S0.1 S0.2.1 dCo_measure_19 rfl (lv_at hl 3 rfl) ?_
      refine lv_if_lt (tgt := 119) S0.1 S0.2.1 dCo_measure_20 (by decide) (fun c_20 => ?_) (fun c_20 => ?_)
      · skip
        have c_20 : t = 0 := (nJ_neg (by omega)).mp c_20
        exact hend _ _ _ _ _ _ _ (by decide) (by decide) (⟨fr, fo, e1, fun x y h1 h2 => hrow x y (by omega) h1 h2⟩) hg hS dCo_measure_119
      · skip
        obtain ⟨i, rfl⟩ : ∃ i, t = i + 1 := ⟨t - 1, by have : ¬ t = 0 := fun h => c_20 ((nJ_neg (by omega)).mpr h); omega⟩
        rw [nJ_succ] at hl
        refine lv_aload_n S0.1 S0.2.1 dCo_measure_23 rfl (lv_at hl 2 rfl) ?_
        refine hw_get S0 hK hg q19_rb rfl inRo 1 (by decide) lf_Co_29 rfl rfl dCo_measure_24 ?_
        refine lv_iconst (v := nI 1) S0.1 S0.2.1 dCo_measure_27 (by decide) ?_
        refine lv_isub S0.1 S0.2.1 dCo_measure_28 ?_
        refine lv_istore (lv' := [(4, .int ((nI b.length) - (nI 1))), (0, .ref cm), (1, .ref ra), (2, .ref rb), (3, .int (nI i))]) S0.1 S0.2.1 dCo_measure_29 hl (by decide) rfl (fun ls hl => ?_)
        have loop_31 : ∀ (n_31 : Nat) (u : Nat) (fi : Nat → Int32) (gi : Nat → Option va_E) (H : Heap) (locs : List Loc) (ls : Array Slot), u < n_31 → (u ≤ b.length) → (∀ x y, i + 1 ≤ x → x ≤ a.length → y ≤ b.length → fi (x * 61 + y) = nI (Lc a b x y)) → (∀ x, x ≤ a.length → fi (x * 61 + b.length) = nI 0) → (∀ y, u ≤ y → y ≤ b.length → fi (i * 61 + y) = nI (Lc a b i y)) → (hfr g gi [len]) → (gi len = some (.inl (cI, 3721, .inl fi))) → hw D hC AX gi H → va_S AX sX.heap H locs → lv_has ls 6 [(0, .ref cm), (1, .ref ra), (2, .ref rb), (3, .int (nI i)), (4, .int (nJ u))] → W pX l eX RX sX mX argsX belowX methX cX H locs 0 0 QX (F0 mX 31 ls []) := by
          intro n_31
          induction n_31 with
          | zero => intros; omega
          | succ n_31 ih_31 =>
            intro u fi gi H locs ls hm_31 hu hrow hcol hin fr e2 hg hS hl
            have q31_cm := fr.at (h_nm (h_ne q19_cm e1 (fun h => by cases h)) h_n0) h0
            have q31_ra := fr.at (h_nm (h_ne q19_ra e1 (fun h => by cases h)) h_n0) h2
            have q31_la := fr.at (h_nm hla h_n0) h3
            have q31_rb := fr.at (h_nm (h_ne q19_rb e1 (fun h => by cases h)) h_n0) h4
            have q31_lb := fr.at (h_nm hlb h_n0) h5
            refine lv_iload S0.1 S0.2.1 dCo_measure_31 (lv_at hl 4 rfl) ?_
            refine lv_if_lt (tgt := 113) S0.1 S0.2.1 dCo_measure_33 (by decide) (fun c_33 => ?_) (fun c_33 => ?_)
            · skip
              have c_33 : u = 0 := (nJ_neg (by omega)).mp c_33
              refine lv_iinc (v := nJ i) (lv' := [(3, .int (nJ i)), (0, .ref cm), (1, .ref ra), (2, .ref rb), (4, .int (nJ u))]) S0.1 S0.2.1 dCo_measure_113 hl (k := 3) rfl (by exact nJ_dec _) (by decide) rfl (fun ls hl => ?_)
              refine lv_goto (tgt := 19) S0.1 S0.2.1 dCo_measure_116 (by decide) ?_
              exact ih_19 i fi gi _ _ _ (by omega) (by omega) (fun x y h1 h2 h3 => by by_cases e : x = i; rw [e]; exact hin y (by omega) h3; exact hrow x y (by omega) h2 h3) hcol fr e2 hg hS (lv_sub hl [1, 2, 3, 0] rfl)
            · skip
              obtain ⟨j, rfl⟩ : ∃ j, u = j + 1 := ⟨u - 1, by have : ¬ u = 0 := fun h => c_33 ((nJ_neg (by omega)).mpr h); omega⟩
              rw [nJ_succ] at hl
              refine lv_iload_n S0.1 S0.2.1 dCo_measure_36 rfl (lv_at hl 3 rfl) ?_
              refine lv_bipush (v := nI 61) S0.1 S0.2.1 dCo_measure_37 (by decide) ?_
              refine lv_imul S0.1 S0.2.1 dCo_measure_39 ?_
              refine hw_top (nI (i * 61)) (pk_mul _ _) ?_
              refine lv_iload S0.1 S0.2.1 dCo_measure_40 (lv_at hl 4 rfl) ?_
              refine lv_iadd S0.1 S0.2.1 dCo_measure_42 ?_
              refine hw_top (nI ((i * 61) + j)) (nI_add _ _) ?_
              refine lv_istore (lv' := [(5, .int (nI ((i * 61) + j))), (0, .ref cm), (1, .ref ra), (2, .ref rb), (3, .int (nI i)), (4, .int (nI j))]) S0.1 S0.2.1 dCo_measure_43 hl (by decide) rfl (fun ls hl => ?_)
              refine lv_aload_n S0.1 S0.2.1 dCo_measure_45 rfl (lv_at hl 1 rfl) ?_
              refine hw_get S0 hK hg q31_cm rfl inCo 3 (by decide) lf_Co_22 rfl rfl dCo_measure_46 ?_
              refine lv_iload S0.1 S0.2.1 dCo_measure_49 (lv_at hl 0 rfl) ?_
              refine lv_aload_n S0.1 S0.2.1 dCo_measure_51 rfl (lv_at hl 2 rfl) ?_
              refine hw_get S0 hK hg q31_ra rfl inRo 0 (by decide) lf_Co_32 rfl rfl dCo_measure_52 ?_
              refine lv_iload_n S0.1 S0.2.1 dCo_measure_55 rfl (lv_at hl 4 rfl) ?_
              refine hw_iald S0 hK hg q31_la 0 rfl (by omega) (by omega) dCo_measure_56 ?_
              refine lv_aload_n S0.1 S0.2.1 dCo_measure_57 rfl (lv_at hl 3 rfl) ?_
              refine hw_get S0 hK hg q31_rb rfl inRo 0 (by decide) lf_Co_32 rfl rfl dCo_measure_58 ?_
              refine lv_iload S0.1 S0.2.1 dCo_measure_61 (lv_at hl 5 rfl) ?_
              refine hw_iald S0 hK hg q31_lb 0 rfl (by omega) (by omega) dCo_measure_63 ?_
              refine lv_icmp_ne (tgt := 84) S0.1 S0.2.1 dCo_measure_64 (by decide) (fun c_64 => ?_) (fun c_64 => ?_)
              · skip
                rw [ea i (by omega), eb j (by omega)] at c_64
                refine lv_aload_n S0.1 S0.2.1 dCo_measure_84 rfl (lv_at hl 1 rfl) ?_
                refine hw_get S0 hK hg q31_cm rfl inCo 3 (by decide) lf_Co_22 rfl rfl dCo_measure_85 ?_
                refine lv_iload S0.1 S0.2.1 dCo_measure_88 (lv_at hl 0 rfl) ?_
                refine lv_bipush (v := nI 61) S0.1 S0.2.1 dCo_measure_90 (by decide) ?_
                refine lv_iadd S0.1 S0.2.1 dCo_measure_92 ?_
                refine hw_top (nI (((i * 61) + j) + 61)) (nI_add _ _) ?_
                refine hw_iald S0 hK hg e2 0 rfl (by omega) (by omega) dCo_measure_93 ?_
                refine lv_aload_n S0.1 S0.2.1 dCo_measure_94 rfl (lv_at hl 1 rfl) ?_
                refine hw_get S0 hK hg q31_cm rfl inCo 3 (by decide) lf_Co_22 rfl rfl dCo_measure_95 ?_
                refine lv_iload S0.1 S0.2.1 dCo_measure_98 (lv_at hl 0 rfl) ?_
                refine lv_iconst (v := nI 1) S0.1 S0.2.1 dCo_measure_100 (by decide) ?_
                refine lv_iadd S0.1 S0.2.1 dCo_measure_101 ?_
                refine hw_top (nI (((i * 61) + j) + 1)) (nI_add _ _) ?_
                refine hw_iald S0 hK hg e2 0 rfl (by omega) (by omega) dCo_measure_102 ?_
                refine hw_max S0 hR hl.1 lm_Co_50 rfl ⟨Nat.zero_le _, Nat.zero_le _⟩ dCo_measure_103 ?_
                refine hw_iast S0 hK hg hS e2 0 rfl (by omega) (by omega) dCo_measure_106 (fun H locs hg hS => ?_)
                obtain ⟨g_2, eg_2⟩ : ∃ z, z = hs gi len (.inl (cI, 3721, .inl (upd fi ((i * 61) + j) (if fi (((i * 61) + j) + 61) < fi (((i * 61) + j) + 1) then fi (((i * 61) + j) + 1) else fi (((i * 61) + j) + 61))))) := ⟨_, rfl⟩
                have hg : hw D hC AX g_2 H := by rw [eg_2]; exact hg
                have f2_0 : g_2 cm = some (.inr (0, [.ref pa, .ref pb, .int cnt, .ref len])) := by rw [eg_2, hs_n _ _ (h_ne q31_cm e2 (fun h => by cases h))]; exact q31_cm
                have f2_1 : g_2 ra = some (.inr (5, [.ref la, .int (nI a.length)])) := by rw [eg_2, hs_n _ _ (h_ne q31_ra e2 (fun h => by cases h))]; exact q31_ra
                have f2_2 : g_2 la = some (.inl (cI, ca, .inl fa)) := by rw [eg_2, hs_n _ _ hla]; exact q31_la
                have f2_3 : g_2 rb = some (.inr (5, [.ref lb, .int (nI b.length)])) := by rw [eg_2, hs_n _ _ (h_ne q31_rb e2 (fun h => by cases h))]; exact q31_rb
                have f2_4 : g_2 lb = some (.inl (cI, cb, .inl fb)) := by rw [eg_2, hs_n _ _ hlb]; exact q31_lb
                have f2_5 : g_2 len = some (.inl (cI, 3721, .inl (upd fi ((i * 61) + j) (if fi (((i * 61) + j) + 61) < fi (((i * 61) + j) + 1) then fi (((i * 61) + j) + 1) else fi (((i * 61) + j) + 61))))) := by rw [eg_2]; exact hs_s _ _ _
                have fr := fr.put eg_2 (by simp)
                refine lv_iinc (v := nJ j) (lv' := [(4, .int (nJ j)), (5, .int (nI ((i * 61) + j))), (0, .ref cm), (1, .ref ra), (2, .ref rb), (3, .int (nI i))]) S0.1 S0.2.1 dCo_measure_107 hl (k := 5) rfl (by exact nJ_dec _) (by decide) rfl (fun ls hl => ?_)
                refine lv_goto (tgt := 31) S0.1 S0.2.1 dCo_measure_110 (by decide) ?_
                have st := ms_step (a := a) (b := b) (by omega) (by omega) hnb (ms_ne (by omega) (by omega) hna hrow hin c_64) hrow hcol hin
                exact ih_31 j (upd fi ((i * 61) + j) (if fi (((i * 61) + j) + 61) < fi (((i * 61) + j) + 1) then fi (((i * 61) + j) + 1) else fi (((i * 61) + j) + 61))) g_2 _ _ _ (by omega) (by omega) st.1 st.2.1 st.2.2 fr f2_5 hg hS (lv_sub hl [2, 3, 4, 5, 0] rfl)
              · skip
                rw [ea i (by omega), eb j (by omega)] at c_64
                refine lv_iconst (v := nI 1) S0.1 S0.2.1 dCo_measure_67 (by decide) ?_
                refine lv_aload_n S0.1 S0.2.1 dCo_measure_68 rfl (lv_at hl 1 rfl) ?_
                refine hw_get S0 hK hg q31_cm rfl inCo 3 (by decide) lf_Co_22 rfl rfl dCo_measure_69 ?_
                refine lv_iload S0.1 S0.2.1 dCo_measure_72 (lv_at hl 0 rfl) ?_
                refine lv_bipush (v := nI 61) S0.1 S0.2.1 dCo_measure_74 (by decide) ?_
                refine lv_iadd S0.1 S0.2.1 dCo_measure_76 ?_
                refine hw_top (nI (((i * 61) + j) + 61)) (nI_add _ _) ?_
                refine lv_iconst (v := nI 1) S0.1 S0.2.1 dCo_measure_77 (by decide) ?_
                refine lv_iadd S0.1 S0.2.1 dCo_measure_78 ?_
                refine hw_top (nI ((((i * 61) + j) + 61) + 1)) (nI_add _ _) ?_
                refine hw_iald S0 hK hg e2 0 rfl (by omega) (by omega) dCo_measure_79 ?_
                refine lv_iadd S0.1 S0.2.1 dCo_measure_80 ?_
                refine lv_goto (tgt := 106) S0.1 S0.2.1 dCo_measure_81 (by decide) ?_
                refine hw_iast S0 hK hg hS e2 0 rfl (by omega) (by omega) dCo_measure_106 (fun H locs hg hS => ?_)
                obtain ⟨g_3, eg_3⟩ : ∃ z, z = hs gi len (.inl (cI, 3721, .inl (upd fi ((i * 61) + j) ((nI 1) + (fi ((((i * 61) + j) + 61) + 1)))))) := ⟨_, rfl⟩
                have hg : hw D hC AX g_3 H := by rw [eg_3]; exact hg
                have f3_0 : g_3 cm = some (.inr (0, [.ref pa, .ref pb, .int cnt, .ref len])) := by rw [eg_3, hs_n _ _ (h_ne q31_cm e2 (fun h => by cases h))]; exact q31_cm
                have f3_1 : g_3 ra = some (.inr (5, [.ref la, .int (nI a.length)])) := by rw [eg_3, hs_n _ _ (h_ne q31_ra e2 (fun h => by cases h))]; exact q31_ra
                have f3_2 : g_3 la = some (.inl (cI, ca, .inl fa)) := by rw [eg_3, hs_n _ _ hla]; exact q31_la
                have f3_3 : g_3 rb = some (.inr (5, [.ref lb, .int (nI b.length)])) := by rw [eg_3, hs_n _ _ (h_ne q31_rb e2 (fun h => by cases h))]; exact q31_rb
                have f3_4 : g_3 lb = some (.inl (cI, cb, .inl fb)) := by rw [eg_3, hs_n _ _ hlb]; exact q31_lb
                have f3_5 : g_3 len = some (.inl (cI, 3721, .inl (upd fi ((i * 61) + j) ((nI 1) + (fi ((((i * 61) + j) + 61) + 1)))))) := by rw [eg_3]; exact hs_s _ _ _
                have fr := fr.put eg_3 (by simp)
                refine lv_iinc (v := nJ j) (lv' := [(4, .int (nJ j)), (5, .int (nI ((i * 61) + j))), (0, .ref cm), (1, .ref ra), (2, .ref rb), (3, .int (nI i))]) S0.1 S0.2.1 dCo_measure_107 hl (k := 5) rfl (by exact nJ_dec _) (by decide) rfl (fun ls hl => ?_)
                refine lv_goto (tgt := 31) S0.1 S0.2.1 dCo_measure_110 (by decide) ?_
                have st := ms_step (a := a) (b := b) (by omega) (by omega) hnb (ms_eq (by omega) (by omega) hrow c_64) hrow hcol hin
                exact ih_31 j (upd fi ((i * 61) + j) ((nI 1) + (fi ((((i * 61) + j) + 61) + 1)))) g_3 _ _ _ (by omega) (by omega) st.1 st.2.1 st.2.2 fr f3_5 hg hS (lv_sub hl [2, 3, 4, 5, 0] rfl)
        exact loop_31 _ b.length fo gl _ _ _ (Nat.lt_succ_self _) (Nat.le_refl _) (fun x y h1 h2 h3 => hrow x y h1 h2 h3) hcol (fun y h1 h2 => by rw [show y = b.length by omega, hcol i (by omega), Lc_endB]) fr e1 hg hS (lv_sub hl [1, 2, 3, 4, 0] rfl)
  exact loop_19 _ a.length f1 g_1 _ _ _ (Nat.lt_succ_self _) (Nat.le_refl _) (fun x y h1 h2 h3 => by rw [show x = a.length by omega, a3 y h3, Lc_endA]) a2 fr a1 hg hS (lv_sub hl [1, 2, 3, 0] rfl)
set_option maxRecDepth 100000 in
set_option maxHeartbeats 4000000 in
theorem c_Co_losesNoPair (l : Launch) (D : va_G) (cI cR cJ : ClassId) (g : Nat → Option va_E) (sz : Nat) (cm pa pb len i fr j : Nat) (cnt : Int32) (a b : List Int32) (fl : Nat → Int32) (h0 : g cm = some (.inr (0, [.ref pa, .ref pb, .int cnt, .ref len]))) (h1 : g len = some (.inl (cI, 3721, .inl fl))) (hsp : ∀ x y, x ≤ a.length → y ≤ b.length → fl (x * 61 + y) = nI (Lc a b x y)) (hi : i < a.length) (hj : j < b.length) (hf : fr ≤ b.length) (hna : a.length ≤ 60) (hnb : b.length ≤ 60) : hMi l yCo_losesNoPair cCo_losesNoPair 5 .boolean (hRm 0 0 0 0) D (hT cI cR cJ) g sz [.ref cm, .int (nI i), .int (nI fr), .int (nI j)] (fun o g1 => g1 = g ∧ ((o = nI 1 ∧ Lc a b (i + 1) (j + 1) + 1 = Lc a b i fr) ∨ (o = nI 0 ∧ ¬ Lc a b (i + 1) (j + 1) + 1 = Lc a b i fr))) := by
  refine hMi_of (by decide +kernel) (Nat.le_of_ble_eq_true rfl) ?_
  intro pX eX RX sX mX argsX belowX methX cX QX AX hR S0 hnm hsz hg hK hS hA0 hend ls hl
  have hl : lv_has ls 5 [(0, .ref cm), (1, .int (nI i)), (2, .int (nI fr)), (3, .int (nI j))] := hl
  have b1 := Lc_le a b (i + 1) (j + 1)
  have b2 := Lc_le a b i fr
  have e1 : fl (i * 61 + fr) = nI (Lc a b i fr) := hsp i fr (by omega) hf
  have e2 : fl ((i + 1) * 61 + j + 1) = nI (Lc a b (i + 1) (j + 1)) := hsp (i + 1) (j + 1) (by omega) (by omega)
  refine lv_aload_n S0.1 S0.2.1 dCo_losesNoPair_0 rfl (lv_at hl 0 rfl) ?_
  refine hw_get S0 hK hg h0 rfl inCo 3 (by decide) lf_Co_22 rfl rfl dCo_losesNoPair_1 ?_
  refine lv_iload_n S0.1 S0.2.1 dCo_losesNoPair_4 rfl (lv_at hl 1 rfl) ?_
  refine lv_bipush (v := nI 61) S0.1 S0.2.1 dCo_losesNoPair_5 (by decide) ?_
  refine lv_imul S0.1 S0.2.1 dCo_losesNoPair_7 ?_
  refine hw_top (nI (i * 61)) (pk_mul _ _) ?_
  refine lv_iload_n S0.1 S0.2.1 dCo_losesNoPair_8 rfl (lv_at hl 2 rfl) ?_
  refine lv_iadd S0.1 S0.2.1 dCo_losesNoPair_9 ?_
  refine hw_top (nI ((i * 61) + fr)) (nI_add _ _) ?_
  refine hw_iald S0 hK hg h1 0 rfl (by omega) (by omega) dCo_losesNoPair_10 ?_
  refine lv_istore (lv' := [(4, .int (fl ((i * 61) + fr))), (0, .ref cm), (1, .int (nI i)), (2, .int (nI fr)), (3, .int (nI j))]) S0.1 S0.2.1 dCo_losesNoPair_11 hl (by decide) rfl (fun ls hl => ?_)
  refine lv_iconst (v := nI 1) S0.1 S0.2.1 dCo_losesNoPair_13 (by decide) ?_
  refine lv_aload_n S0.1 S0.2.1 dCo_losesNoPair_14 rfl (lv_at hl 1 rfl) ?_
  refine hw_get S0 hK hg h0 rfl inCo 3 (by decide) lf_Co_22 rfl rfl dCo_losesNoPair_15 ?_
  refine lv_iload_n S0.1 S0.2.1 dCo_losesNoPair_18 rfl (lv_at hl 2 rfl) ?_
  refine lv_iconst (v := nI 1) S0.1 S0.2.1 dCo_losesNoPair_19 (by decide) ?_
  refine lv_iadd S0.1 S0.2.1 dCo_losesNoPair_20 ?_
  refine hw_top (nI (i + 1)) (nI_add _ _) ?_
  refine lv_bipush (v := nI 61) S0.1 S0.2.1 dCo_losesNoPair_21 (by decide) ?_
  refine lv_imul S0.1 S0.2.1 dCo_losesNoPair_23 ?_
  refine hw_top (nI ((i + 1) * 61)) (pk_mul _ _) ?_
  refine lv_iload_n S0.1 S0.2.1 dCo_losesNoPair_24 rfl (lv_at hl 4 rfl) ?_
  refine lv_iadd S0.1 S0.2.1 dCo_losesNoPair_25 ?_
  refine hw_top (nI (((i + 1) * 61) + j)) (nI_add _ _) ?_
  refine lv_iconst (v := nI 1) S0.1 S0.2.1 dCo_losesNoPair_26 (by decide) ?_
  refine lv_iadd S0.1 S0.2.1 dCo_losesNoPair_27 ?_
  refine hw_top (nI ((((i + 1) * 61) + j) + 1)) (nI_add _ _) ?_
  refine hw_iald S0 hK hg h1 0 rfl (by omega) (by omega) dCo_losesNoPair_28 ?_
  refine lv_iadd S0.1 S0.2.1 dCo_losesNoPair_29 ?_
  refine lv_iload S0.1 S0.2.1 dCo_losesNoPair_30 (lv_at hl 0 rfl) ?_
  refine lv_icmp_ne (tgt := 39) S0.1 S0.2.1 dCo_losesNoPair_32 (by decide) (fun c_32 => ?_) (fun c_32 => ?_)
  · skip
    refine lv_iconst (v := nI 0) S0.1 S0.2.1 dCo_losesNoPair_39 (by decide) ?_
    exact hend _ _ _ _ _ _ _ _ (by decide) (by decide) rfl (⟨rfl, Or.inr ⟨rfl, fun h => c_32 (by rw [e1, e2, nI_add, Nat.add_comm, h])⟩⟩) hg hS dCo_losesNoPair_40
  · skip
    refine lv_iconst (v := nI 1) S0.1 S0.2.1 dCo_losesNoPair_35 (by decide) ?_
    refine lv_goto (tgt := 40) S0.1 S0.2.1 dCo_losesNoPair_36 (by decide) ?_
    exact hend _ _ _ _ _ _ _ _ (by decide) (by decide) rfl (⟨rfl, Or.inl ⟨rfl, by rw [e1, e2, nI_add] at c_32; have := (nI_eq (by omega) (by omega)).mp c_32; omega⟩⟩) hg hS dCo_losesNoPair_40
set_option maxRecDepth 100000 in
set_option maxHeartbeats 4000000 in
theorem c_Co_addPair (l : Launch) (D : va_G) (cI cR cJ : ClassId) (g : Nat → Option va_E) (sz : Nat) (cm pa pb len i j n : Nat) (fA fB : Nat → Int32) (h0 : g cm = some (.inr (0, [.ref pa, .ref pb, .int (nI n), .ref len]))) (h1 : g pa = some (.inl (cI, 60, .inl fA))) (h2 : g pb = some (.inl (cI, 60, .inl fB))) (hab : pa ≠ pb) (hn : n < 60) : hMv l yCo_addPair cCo_addPair 3 (hRm 0 0 0 0) D (hT cI cR cJ) g sz [.ref cm, .int (nI i), .int (nI j)] (fun g1 => hfr g g1 [cm, pa, pb] ∧ g1 cm = some (.inr (0, [.ref pa, .ref pb, .int (nI (n + 1)), .ref len])) ∧ g1 pa = some (.inl (cI, 60, .inl (upd fA n (nI i)))) ∧ g1 pb = some (.inl (cI, 60, .inl (upd fB n (nI j))))) := by
  refine hMv_of (by decide +kernel) (Nat.le_of_ble_eq_true rfl) ?_
  intro pX eX RX sX mX argsX belowX methX cX QX AX hR S0 hnm hsz hg hK hS hA0 hend ls hl
  have hl : lv_has ls 3 [(0, .ref cm), (1, .int (nI i)), (2, .int (nI j))] := hl
  have fr : hfr g g [cm, pa, pb] := hfr.rf
  refine lv_aload_n S0.1 S0.2.1 dCo_addPair_0 rfl (lv_at hl 0 rfl) ?_
  refine hw_get S0 hK hg h0 rfl inCo 2 (by decide) lf_Co_18 rfl rfl dCo_addPair_1 ?_
  refine lv_bipush (v := nI 60) S0.1 S0.2.1 dCo_addPair_4 (by decide) ?_
  refine lv_icmp_ge (tgt := 39) S0.1 S0.2.1 dCo_addPair_6 (by decide) (fun c_6 => ?_) (fun c_6 => ?_)
  · skip
    have c_6 : 60 ≤ n := (nI_leI (by omega) (by omega)).mp c_6
    exact absurd hn (by omega)
  · skip
    have c_6 : ¬ (60 ≤ n) := fun h => c_6 ((nI_leI (by omega) (by omega)).mpr h)
    refine lv_aload_n S0.1 S0.2.1 dCo_addPair_9 rfl (lv_at hl 0 rfl) ?_
    refine hw_get S0 hK hg h0 rfl inCo 0 (by decide) lf_Co_9 rfl rfl dCo_addPair_10 ?_
    refine lv_aload_n S0.1 S0.2.1 dCo_addPair_13 rfl (lv_at hl 0 rfl) ?_
    refine hw_get S0 hK hg h0 rfl inCo 2 (by decide) lf_Co_18 rfl rfl dCo_addPair_14 ?_
    refine lv_iload_n S0.1 S0.2.1 dCo_addPair_17 rfl (lv_at hl 1 rfl) ?_
    refine hw_iast S0 hK hg hS h1 0 rfl (by omega) (by omega) dCo_addPair_18 (fun H locs hg hS => ?_)
    obtain ⟨g_1, eg_1⟩ : ∃ z, z = hs g pa (.inl (cI, 60, .inl (upd fA n (nI i)))) := ⟨_, rfl⟩
    have hg : hw D hC AX g_1 H := by rw [eg_1]; exact hg
    have f1_0 : g_1 cm = some (.inr (0, [.ref pa, .ref pb, .int (nI n), .ref len])) := by rw [eg_1, hs_n _ _ (h_ne h0 h1 (fun h => by cases h))]; exact h0
    have f1_1 : g_1 pb = some (.inl (cI, 60, .inl fB)) := by rw [eg_1, hs_n _ _ (Ne.symm hab)]; exact h2
    have f1_2 : g_1 pa = some (.inl (cI, 60, .inl (upd fA n (nI i)))) := by rw [eg_1]; exact hs_s _ _ _
    have fr := fr.put eg_1 (by simp)
    refine lv_aload_n S0.1 S0.2.1 dCo_addPair_19 rfl (lv_at hl 0 rfl) ?_
    refine hw_get S0 hK hg f1_0 rfl inCo 1 (by decide) lf_Co_15 rfl rfl dCo_addPair_20 ?_
    refine lv_aload_n S0.1 S0.2.1 dCo_addPair_23 rfl (lv_at hl 0 rfl) ?_
    refine hw_get S0 hK hg f1_0 rfl inCo 2 (by decide) lf_Co_18 rfl rfl dCo_addPair_24 ?_
    refine lv_iload_n S0.1 S0.2.1 dCo_addPair_27 rfl (lv_at hl 2 rfl) ?_
    refine hw_iast S0 hK hg hS f1_1 0 rfl (by omega) (by omega) dCo_addPair_28 (fun H locs hg hS => ?_)
    obtain ⟨g_2, eg_2⟩ : ∃ z, z = hs g_1 pb (.inl (cI, 60, .inl (upd fB n (nI j)))) := ⟨_, rfl⟩
    have hg : hw D hC AX g_2 H := by rw [eg_2]; exact hg
    have f2_0 : g_2 cm = some (.inr (0, [.ref pa, .ref pb, .int (nI n), .ref len])) := by rw [eg_2, hs_n _ _ (h_ne f1_0 f1_1 (fun h => by cases h))]; exact f1_0
    have f2_1 : g_2 pa = some (.inl (cI, 60, .inl (upd fA n (nI i)))) := by rw [eg_2, hs_n _ _ hab]; exact f1_2
    have f2_2 : g_2 pb = some (.inl (cI, 60, .inl (upd fB n (nI j)))) := by rw [eg_2]; exact hs_s _ _ _
    have fr := fr.put eg_2 (by simp)
    refine lv_aload_n S0.1 S0.2.1 dCo_addPair_29 rfl (lv_at hl 0 rfl) ?_
    refine lv_dup S0.1 S0.2.1 dCo_addPair_30 rfl ?_
    refine hw_get S0 hK hg f2_0 rfl inCo 2 (by decide) lf_Co_18 rfl rfl dCo_addPair_31 ?_
    refine lv_iconst (v := nI 1) S0.1 S0.2.1 dCo_addPair_34 (by decide) ?_
    refine lv_iadd S0.1 S0.2.1 dCo_addPair_35 ?_
    refine hw_top (nI (n + 1)) (nI_add _ _) ?_
    refine hw_put S0 hK hg hS f2_0 rfl inCo tyCo tokCo nmCo 2 (by decide) lf_Co_18 rfl rfl rfl rfl (Nat.le_of_ble_eq_true rfl) dCo_addPair_36 (fun H locs hg hS => ?_)
    obtain ⟨g_3, eg_3⟩ : ∃ z, z = hs g_2 cm (.inr (0, [.ref pa, .ref pb, .int (nI (n + 1)), .ref len])) := ⟨_, rfl⟩
    have hg : hw D hC AX g_3 H := by rw [eg_3]; exact hg
    have f3_0 : g_3 pa = some (.inl (cI, 60, .inl (upd fA n (nI i)))) := by rw [eg_3, hs_n _ _ (h_ne f2_1 f2_0 (fun h => by cases h))]; exact f2_1
    have f3_1 : g_3 pb = some (.inl (cI, 60, .inl (upd fB n (nI j)))) := by rw [eg_3, hs_n _ _ (h_ne f2_2 f2_0 (fun h => by cases h))]; exact f2_2
    have f3_2 : g_3 cm = some (.inr (0, [.ref pa, .ref pb, .int (nI (n + 1)), .ref len])) := by rw [eg_3]; exact hs_s _ _ _
    have fr := fr.put eg_3 (by simp)
    exact hend _ _ _ _ _ _ _ (by decide) (by decide) (⟨fr, f3_2, f3_0, f3_1⟩) hg hS dCo_addPair_39
set_option maxRecDepth 100000 in
set_option maxHeartbeats 4000000 in
theorem c_Co_find (l : Launch) (D : va_G) (cI cR cJ : ClassId) (g : Nat → Option va_E) (sz : Nat) (cm pa pb len ra la ca rb lb cb : Nat) (cnt : Int32) (a b : List Int32) (fa fb fl : Nat → Int32) (h0 : g cm = some (.inr (0, [.ref pa, .ref pb, .int cnt, .ref len]))) (h1 : g len = some (.inl (cI, 3721, .inl fl))) (h2 : g ra = some (.inr (5, [.ref la, .int (nI a.length)]))) (h3 : g la = some (.inl (cI, ca, .inl fa))) (h4 : g rb = some (.inr (5, [.ref lb, .int (nI b.length)]))) (h5 : g lb = some (.inl (cI, cb, .inl fb))) (ea : rp fa a) (eb : rp fb b) (hla : la ≠ len) (hlb : lb ≠ len) (hna : a.length ≤ 60) (hnb : b.length ≤ 60) (hca : a.length ≤ ca) (hcb : b.length ≤ cb) (hca4 : ca < 4000) (hcb4 : cb < 4000) (fp0 fq0 : Nat → Int32) (h6 : g pa = some (.inl (cI, 60, .inl fp0))) (h7 : g pb = some (.inl (cI, 60, .inl fq0))) (hap : la ≠ pa) (haq : la ≠ pb) (hbp : lb ≠ pa) (hbq : lb ≠ pb) (hpq : pa ≠ pb) (hpl : pa ≠ len) (hql : pb ≠ len) : hMv l yCo_find cCo_find 6 (hRm 2 48 0 0) D (hT cI cR cJ) g sz [.ref cm, .ref ra, .ref rb] (fun g1 => hfr g g1 [cm, pa, pb, len] ∧ ∃ fA fB fL : Nat → Int32, g1 cm = some (.inr (0, [.ref pa, .ref pb, .int (nI (prs a b a.length).length), .ref len])) ∧ g1 pa = some (.inl (cI, 60, .inl fA)) ∧ g1 pb = some (.inl (cI, 60, .inl fB)) ∧ g1 len = some (.inl (cI, 3721, .inl fL)) ∧ rpN fA ((prs a b a.length).map Prod.fst) ∧ rpN fB ((prs a b a.length).map Prod.snd)) := by
  refine hMv_of (by decide +kernel) (Nat.le_of_ble_eq_true rfl) ?_
  intro pX eX RX sX mX argsX belowX methX cX QX AX hR S0 hnm hsz hg hK hS hA0 hend ls hl
  have hl : lv_has ls 6 [(0, .ref cm), (1, .ref ra), (2, .ref rb)] := hl
  have fr : hfr g g [cm, pa, pb, len] := hfr.rf
  refine lv_aload_n S0.1 S0.2.1 dCo_find_0 rfl (lv_at hl 0 rfl) ?_
  refine lv_aload_n S0.1 S0.2.1 dCo_find_1 rfl (lv_at hl 1 rfl) ?_
  refine lv_aload_n S0.1 S0.2.1 dCo_find_2 rfl (lv_at hl 2 rfl) ?_
  refine hw_Vv (As := [.ref ra, .ref rb]) (rest := []) S0 hK hg hS hA0 h0 rfl (c_Co_measure l D cI cR cJ g _ cm pa pb len ra la ca rb lb cb cnt a b fa fb fl h0 h1 h2 h3 h4 h5 ea eb hla hlb hna hnb hca hcb hca4 hcb4) kCo_measure lm_Co_25 (hR.call rfl) rfl hl.1 rfl (Nat.le_of_ble_eq_true rfl) dCo_find_3 (hR.new (by decide) (by decide)) (fun g_1 H locs hp_3 hg hS => ?_)
  obtain ⟨fr1, f1, a1, hsp⟩ := hp_3
  have k1_0 := fr1.at (h_nm (h_ne h0 h1 (fun h => by cases h)) h_n0) h0
  have k1_1 := fr1.at (h_nm (h_ne h2 h1 (fun h => by cases h)) h_n0) h2
  have k1_2 := fr1.at (h_nm hla h_n0) h3
  have k1_3 := fr1.at (h_nm (h_ne h4 h1 (fun h => by cases h)) h_n0) h4
  have k1_4 := fr1.at (h_nm hlb h_n0) h5
  have k1_5 := fr1.at (h_nm hpl h_n0) h6
  have k1_6 := fr1.at (h_nm hql h_n0) h7
  have fr := fr.call fr1 (by simp)
  refine lv_aload_n S0.1 S0.2.1 dCo_find_6 rfl (lv_at hl 0 rfl) ?_
  refine lv_iconst (v := nI 0) S0.1 S0.2.1 dCo_find_7 (by decide) ?_
  refine hw_put S0 hK hg hS k1_0 rfl inCo tyCo tokCo nmCo 2 (by decide) lf_Co_18 rfl rfl rfl rfl (Nat.le_of_ble_eq_true rfl) dCo_find_8 (fun H locs hg hS => ?_)
  obtain ⟨g_2, eg_2⟩ : ∃ z, z = hs g_1 cm (.inr (0, [.ref pa, .ref pb, .int (nI 0), .ref len])) := ⟨_, rfl⟩
  have hg : hw D hC AX g_2 H := by rw [eg_2]; exact hg
  have f2_0 : g_2 ra = some (.inr (5, [.ref la, .int (nI a.length)])) := by rw [eg_2, hs_n _ _ (h_ne k1_1 k1_0 (fun h => by simp at h))]; exact k1_1
  have f2_1 : g_2 la = some (.inl (cI, ca, .inl fa)) := by rw [eg_2, hs_n _ _ (h_ne k1_2 k1_0 (fun h => by cases h))]; exact k1_2
  have f2_2 : g_2 rb = some (.inr (5, [.ref lb, .int (nI b.length)])) := by rw [eg_2, hs_n _ _ (h_ne k1_3 k1_0 (fun h => by simp at h))]; exact k1_3
  have f2_3 : g_2 lb = some (.inl (cI, cb, .inl fb)) := by rw [eg_2, hs_n _ _ (h_ne k1_4 k1_0 (fun h => by cases h))]; exact k1_4
  have f2_4 : g_2 pa = some (.inl (cI, 60, .inl fp0)) := by rw [eg_2, hs_n _ _ (h_ne k1_5 k1_0 (fun h => by cases h))]; exact k1_5
  have f2_5 : g_2 pb = some (.inl (cI, 60, .inl fq0)) := by rw [eg_2, hs_n _ _ (h_ne k1_6 k1_0 (fun h => by cases h))]; exact k1_6
  have f2_6 : g_2 len = some (.inl (cI, 3721, .inl f1)) := by rw [eg_2, hs_n _ _ (h_ne a1 k1_0 (fun h => by cases h))]; exact a1
  have f2_7 : g_2 cm = some (.inr (0, [.ref pa, .ref pb, .int (nI 0), .ref len])) := by rw [eg_2]; exact hs_s _ _ _
  have fr := fr.put eg_2 (by simp)
  refine lv_iconst (v := nI 0) S0.1 S0.2.1 dCo_find_11 (by decide) ?_
  refine lv_istore_n (lv' := [(3, .int (nI 0)), (0, .ref cm), (1, .ref ra), (2, .ref rb)]) S0.1 S0.2.1 dCo_find_12 rfl hl (by decide) rfl (fun ls hl => ?_)
  refine lv_iconst (v := nI 0) S0.1 S0.2.1 dCo_find_13 (by decide) ?_
  refine lv_istore (lv' := [(4, .int (nI 0)), (3, .int (nI 0)), (0, .ref cm), (1, .ref ra), (2, .ref rb)]) S0.1 S0.2.1 dCo_find_14 hl (by decide) rfl (fun ls hl => ?_)
  have loop_16 : ∀ (n_16 : Nat) (i : Nat) (fr_ : Nat) (n : Nat) (fA : Nat → Int32) (fB : Nat → Int32) (gl : Nat → Option va_E) (H : Heap) (locs : List Loc) (ls : Array Slot), a.length - i < n_16 → (i ≤ a.length) → (fr_ = fro a b i) → (n = (prs a b i).length) → (rpN fA ((prs a b i).map Prod.fst)) → (rpN fB ((prs a b i).map Prod.snd)) → (hfr g gl [cm, pa, pb, len]) → (gl cm = some (.inr (0, [.ref pa, .ref pb, .int (nI n), .ref len]))) → (gl pa = some (.inl (cI, 60, .inl fA))) → (gl pb = some (.inl (cI, 60, .inl fB))) → (gl len = some (.inl (cI, 3721, .inl f1))) → hw D hC AX gl H → va_S AX sX.heap H locs → lv_has ls 6 [(0, .ref cm), (1, .ref ra), (2, .ref rb), (3, .int (nI fr_)), (4, .int (nI i))] → W pX l eX RX sX mX argsX belowX methX cX H locs 0 0 QX (F0 mX 16 ls []) := by
    intro n_16
    induction n_16 with
    | zero => intros; omega
    | succ n_16 ih_16 =>
      intro i fr_ n fA fB gl H locs ls hm_16 hi hf hn hA hB fr e0 e1 e2 e3 hg hS hl
      have q16_ra := fr.at (h_nm (h_ne f2_0 f2_7 (fun h => by simp at h)) (h_nm (h_ne f2_0 f2_4 (fun h => by cases h)) (h_nm (h_ne f2_0 f2_5 (fun h => by cases h)) (h_nm (h_ne f2_0 f2_6 (fun h => by cases h)) h_n0)))) h2
      have q16_la := fr.at (h_nm (h_ne f2_1 f2_7 (fun h => by cases h)) (h_nm hap (h_nm haq (h_nm hla h_n0)))) h3
      have q16_rb := fr.at (h_nm (h_ne f2_2 f2_7 (fun h => by simp at h)) (h_nm (h_ne f2_2 f2_4 (fun h => by cases h)) (h_nm (h_ne f2_2 f2_5 (fun h => by cases h)) (h_nm (h_ne f2_2 f2_6 (fun h => by cases h)) h_n0)))) h4
      have q16_lb := fr.at (h_nm (h_ne f2_3 f2_7 (fun h => by cases h)) (h_nm hbp (h_nm hbq (h_nm hlb h_n0)))) h5
      refine lv_iload S0.1 S0.2.1 dCo_find_16 (lv_at hl 4 rfl) ?_
      refine lv_aload_n S0.1 S0.2.1 dCo_find_18 rfl (lv_at hl 1 rfl) ?_
      refine hw_get S0 hK hg q16_ra rfl inRo 1 (by decide) lf_Co_29 rfl rfl dCo_find_19 ?_
      refine lv_icmp_ge (tgt := 76) S0.1 S0.2.1 dCo_find_22 (by decide) (fun c_22 => ?_) (fun c_22 => ?_)
      · skip
        have c_22 : a.length ≤ i := (nI_leI (by omega) (by omega)).mp c_22
        have ei : i = a.length := by omega
        subst ei
        subst hn
        exact hend _ _ _ _ _ _ _ (by decide) (by decide) (⟨fr, fA, fB, f1, e0, e1, e2, e3, hA, hB⟩) hg hS dCo_find_76
      · skip
        have c_22 : ¬ (a.length ≤ i) := fun h => c_22 ((nI_leI (by omega) (by omega)).mpr h)
        refine lv_aload_n S0.1 S0.2.1 dCo_find_25 rfl (lv_at hl 2 rfl) ?_
        refine lv_aload_n S0.1 S0.2.1 dCo_find_26 rfl (lv_at hl 1 rfl) ?_
        refine hw_get S0 hK hg q16_ra rfl inRo 0 (by decide) lf_Co_32 rfl rfl dCo_find_27 ?_
        refine lv_iload S0.1 S0.2.1 dCo_find_30 (lv_at hl 4 rfl) ?_
        refine hw_iald S0 hK hg q16_la 0 rfl (by omega) (by omega) dCo_find_32 ?_
        refine lv_iload_n S0.1 S0.2.1 dCo_find_33 rfl (lv_at hl 3 rfl) ?_
        refine hw_Vi (As := [.int (fa i), .int (nI fr_)]) (rest := []) S0 hK hg hS hA0 q16_rb rfl (c_Ro_firstPlaceOf l D cI cR cJ gl _ rb lb b.length cb fr_ fb (fa i) q16_rb q16_lb (by rw [hf]; exact fro_le a b i) hcb hcb4) kRo_firstPlaceOf lm_Co_35 (hR.call rfl) rfl hl.1 rfl (Nat.le_of_ble_eq_true rfl) dCo_find_34 (hR.new (by decide) (by decide)) (fun r_34 g_3 H locs hp_34 hg hS => ?_)
        rw [hp_34.1] at hg
        replace hp_34 := hp_34.2
        rcases hp_34 with ⟨k, hr, hk1, hk2, hk3, hk4⟩ | ⟨hr, hno⟩
        · skip
          subst hr
          have hfp : fp b (a.getD i 0) (fro a b i) = some k := fp_of (by omega) hk2 (by rw [← eb k hk2, hk3, ea i (by omega)]) (fun q h1 h2 => by rw [← eb q (by omega), ← ea i (by omega)]; exact hk4 q (by omega) h2)
          refine lv_istore (lv' := [(5, .int (nI k)), (0, .ref cm), (1, .ref ra), (2, .ref rb), (3, .int (nI fr_)), (4, .int (nI i))]) S0.1 S0.2.1 dCo_find_37 hl (by decide) rfl (fun ls hl => ?_)
          refine lv_iload S0.1 S0.2.1 dCo_find_39 (lv_at hl 0 rfl) ?_
          refine lv_iconst (v := (-1)) S0.1 S0.2.1 dCo_find_41 (by decide) ?_
          refine lv_icmp_eq (tgt := 70) S0.1 S0.2.1 dCo_find_42 (by decide) (fun c_42 => ?_) (fun c_42 => ?_)
          · skip
            exact absurd c_42 (nI_m1 (by omega))
          · skip
            refine lv_aload_n S0.1 S0.2.1 dCo_find_45 rfl (lv_at hl 1 rfl) ?_
            refine lv_iload S0.1 S0.2.1 dCo_find_46 (lv_at hl 5 rfl) ?_
            refine lv_iload_n S0.1 S0.2.1 dCo_find_48 rfl (lv_at hl 4 rfl) ?_
            refine lv_iload S0.1 S0.2.1 dCo_find_49 (lv_at hl 0 rfl) ?_
            refine hw_Vi (As := [.int (nI i), .int (nI fr_), .int (nI k)]) (rest := []) S0 hK hg hS hA0 e0 rfl (c_Co_losesNoPair l D cI cR cJ gl _ cm pa pb len i fr_ k (nI n) a b f1 e0 e3 hsp (by omega) hk2 (by rw [hf]; exact fro_le a b i) hna hnb) kCo_losesNoPair lm_Co_39 (hR.call rfl) rfl hl.1 rfl (Nat.le_of_ble_eq_true rfl) dCo_find_51 (hR.new (by decide) (by decide)) (fun r_51 g_4 H locs hp_51 hg hS => ?_)
            rw [hp_51.1] at hg
            replace hp_51 := hp_51.2
            rcases hp_51 with ⟨ho, hcd⟩ | ⟨ho, hcd⟩
            · skip
              subst ho
              have hpn : pn a b i = some k := stp_some hfp (by rw [← hf]; exact hcd)
              refine lv_if_eq (tgt := 70) S0.1 S0.2.1 dCo_find_54 (by decide) (fun c_54 => ?_) (fun c_54 => ?_)
              · skip
                rw [← nI_0] at c_54
                have c_54 : 1 = 0 := (nI_eq (by omega) (by omega)).mp c_54
                exact absurd c_54 (by decide)
              · skip
                rw [← nI_0] at c_54
                have c_54 : ¬ (1 = 0) := fun h => c_54 ((nI_eq (by omega) (by omega)).mpr h)
                refine lv_aload_n S0.1 S0.2.1 dCo_find_57 rfl (lv_at hl 1 rfl) ?_
                refine lv_iload S0.1 S0.2.1 dCo_find_58 (lv_at hl 5 rfl) ?_
                refine lv_iload S0.1 S0.2.1 dCo_find_60 (lv_at hl 0 rfl) ?_
                refine hw_Vv (As := [.int (nI i), .int (nI k)]) (rest := []) S0 hK hg hS hA0 e0 rfl (c_Co_addPair l D cI cR cJ gl _ cm pa pb len i k n fA fB e0 e1 e2 hpq (by have := (prs_len a b i).1; omega)) kCo_addPair lm_Co_43 (hR.call rfl) rfl hl.1 rfl (Nat.le_of_ble_eq_true rfl) dCo_find_62 (hR.new (by decide) (by decide)) (fun g_5 H locs hp_62 hg hS => ?_)
                obtain ⟨fr2, a4, a5, a6⟩ := hp_62
                have k5_0 := fr2.at (h_nm (h_ne q16_ra e0 (fun h => by simp at h)) (h_nm (h_ne q16_ra e1 (fun h => by cases h)) (h_nm (h_ne q16_ra e2 (fun h => by cases h)) h_n0))) q16_ra
                have k5_1 := fr2.at (h_nm (h_ne q16_la e0 (fun h => by cases h)) (h_nm hap (h_nm haq h_n0))) q16_la
                have k5_2 := fr2.at (h_nm (h_ne q16_rb e0 (fun h => by simp at h)) (h_nm (h_ne q16_rb e1 (fun h => by cases h)) (h_nm (h_ne q16_rb e2 (fun h => by cases h)) h_n0))) q16_rb
                have k5_3 := fr2.at (h_nm (h_ne q16_lb e0 (fun h => by cases h)) (h_nm hbp (h_nm hbq h_n0))) q16_lb
                have k5_4 := fr2.at (h_nm (h_ne e3 e0 (fun h => by cases h)) (h_nm (Ne.symm hpl) (h_nm (Ne.symm hql) h_n0))) e3
                have fr := fr.call fr2 (by simp)
                refine lv_iload S0.1 S0.2.1 dCo_find_65 (lv_at hl 0 rfl) ?_
                refine lv_iconst (v := nI 1) S0.1 S0.2.1 dCo_find_67 (by decide) ?_
                refine lv_iadd S0.1 S0.2.1 dCo_find_68 ?_
                refine hw_top (nI (k + 1)) (nI_add _ _) ?_
                refine lv_istore_n (lv' := [(3, .int (nI (k + 1))), (5, .int (nI k)), (0, .ref cm), (1, .ref ra), (2, .ref rb), (4, .int (nI i))]) S0.1 S0.2.1 dCo_find_69 rfl hl (by decide) rfl (fun ls hl => ?_)
                refine lv_iinc (v := nI (i + 1)) (lv' := [(4, .int (nI (i + 1))), (3, .int (nI (k + 1))), (5, .int (nI k)), (0, .ref cm), (1, .ref ra), (2, .ref rb)]) S0.1 S0.2.1 dCo_find_70 hl (k := 5) rfl (by exact nI_add _ 1) (by decide) rfl (fun ls hl => ?_)
                refine lv_goto (tgt := 16) S0.1 S0.2.1 dCo_find_73 (by decide) ?_
                exact ih_16 (i + 1) (k + 1) (n + 1) (upd fA n (nI i)) (upd fB n (nI k)) g_5 _ _ _ (by omega) (by omega) (by rw [fro_some hpn]) (by rw [prs_some hpn, List.length_append, hn]; rfl) (by rw [prs_some hpn, List.map_append]; have := rpN_snoc hA i; rw [List.length_map, ← hn] at this; exact this) (by rw [prs_some hpn, List.map_append]; have := rpN_snoc hB k; rw [List.length_map, ← hn] at this; exact this) fr a4 a5 a6 k5_4 hg hS (lv_sub hl [3, 4, 5, 1, 0] rfl)
            · skip
              subst ho
              have hpn : pn a b i = none := stp_not hfp (by rw [← hf]; exact hcd)
              refine lv_if_eq (tgt := 70) S0.1 S0.2.1 dCo_find_54 (by decide) (fun c_54 => ?_) (fun c_54 => ?_)
              · skip
                rw [← nI_0] at c_54
                have c_54 : 0 = 0 := (nI_eq (by omega) (by omega)).mp c_54
                refine lv_iinc (v := nI (i + 1)) (lv' := [(4, .int (nI (i + 1))), (5, .int (nI k)), (0, .ref cm), (1, .ref ra), (2, .ref rb), (3, .int (nI fr_))]) S0.1 S0.2.1 dCo_find_70 hl (k := 5) rfl (by exact nI_add _ 1) (by decide) rfl (fun ls hl => ?_)
                refine lv_goto (tgt := 16) S0.1 S0.2.1 dCo_find_73 (by decide) ?_
                exact ih_16 (i + 1) fr_ n fA fB gl _ _ _ (by omega) (by omega) (by rw [fro_none hpn]; exact hf) (by rw [prs_none hpn]; exact hn) (by rw [prs_none hpn]; exact hA) (by rw [prs_none hpn]; exact hB) fr e0 e1 e2 e3 hg hS (lv_sub hl [2, 3, 4, 5, 0] rfl)
              · skip
                rw [← nI_0] at c_54
                have c_54 : ¬ (0 = 0) := fun h => c_54 ((nI_eq (by omega) (by omega)).mpr h)
                exact absurd rfl c_54
        · skip
          subst hr
          have hpn : pn a b i = none := stp_none (fp_none (fun q h1 h2 => by rw [← eb q h2, ← ea i (by omega)]; exact hno q (by omega) h2))
          refine lv_istore (lv' := [(5, .int (-1)), (0, .ref cm), (1, .ref ra), (2, .ref rb), (3, .int (nI fr_)), (4, .int (nI i))]) S0.1 S0.2.1 dCo_find_37 hl (by decide) rfl (fun ls hl => ?_)
          refine lv_iload S0.1 S0.2.1 dCo_find_39 (lv_at hl 0 rfl) ?_
          refine lv_iconst (v := (-1)) S0.1 S0.2.1 dCo_find_41 (by decide) ?_
          refine lv_icmp_eq (tgt := 70) S0.1 S0.2.1 dCo_find_42 (by decide) (fun c_42 => ?_) (fun c_42 => ?_)
          · skip
            refine lv_iinc (v := nI (i + 1)) (lv' := [(4, .int (nI (i + 1))), (5, .int (-1)), (0, .ref cm), (1, .ref ra), (2, .ref rb), (3, .int (nI fr_))]) S0.1 S0.2.1 dCo_find_70 hl (k := 5) rfl (by exact nI_add _ 1) (by decide) rfl (fun ls hl => ?_)
            refine lv_goto (tgt := 16) S0.1 S0.2.1 dCo_find_73 (by decide) ?_
            exact ih_16 (i + 1) fr_ n fA fB gl _ _ _ (by omega) (by omega) (by rw [fro_none hpn]; exact hf) (by rw [prs_none hpn]; exact hn) (by rw [prs_none hpn]; exact hA) (by rw [prs_none hpn]; exact hB) fr e0 e1 e2 e3 hg hS (lv_sub hl [2, 3, 4, 5, 0] rfl)
          · skip
            exact absurd rfl c_42
  exact loop_16 _ 0 0 0 fp0 fq0 g_2 _ _ _ (Nat.lt_succ_self _) (Nat.zero_le _) rfl rfl (rpN_nil _) (rpN_nil _) fr f2_7 f2_4 f2_5 f2_6 hg hS (lv_sub hl [2, 3, 4, 1, 0] rfl)
