/-! CONSTRUCTORS -/
section HFN
variable {g g1 g2 : Nat → Option va_E} {S S1 : List Nat} {a b q : Nat} {x y : va_E}
/-- cells that there were before have not changed, but for S -/
def hfn (g g1 : Nat → Option va_E) (S : List Nat) : Prop := ∀ b x, g b = some x → b ∉ S → g1 b = some x
theorem h_nn (hb : g b = some x) (hq : g q = none) : b ≠ q := fun e => by rw [e, hq] at hb; cases hb
theorem hfn.rf : hfn g g S := fun _ _ h _ => h
theorem hfn.put (h : hfn g g1 S) (e : g2 = hs g1 a x) (ha : a ∈ S) : hfn g g2 S := fun b y hb hn => by
  rw [e, hs_n _ _ (fun z => hn (by rw [z]; exact ha))]
  exact h b y hb hn
theorem hfn.putN (h : hfn g g1 S) (e : g2 = hs g1 a x) (ha : g a = none) : hfn g g2 S := fun b y hb hn => by
  rw [e, hs_n _ _ (h_nn hb ha)]
  exact h b y hb hn
theorem hfn.nn (h : hfn g g1 S) (hq : g1 q = none) (hS : q ∉ S) : g q = none := by
  cases e : g q with
  | none => rfl
  | some x => have := h q x e hS; rw [hq] at this; cases this
theorem hfn.call (h : hfn g g1 S) (h2 : hfn g1 g2 S1) (hS : ∀ q ∈ S1, q ∈ S ∨ g q = none) : hfn g g2 S := fun b y hb hn => by
  refine h2 b y (h b y hb hn) (fun hm => ?_)
  rcases hS b hm with h9 | h9
  · exact hn h9
  · rw [h9] at hb; cases hb
theorem hfn.at (h : hfn g g1 S) (hb : b ∉ S) (he : g b = some x) : g1 b = some x := h b x he hb
theorem h_nS (h : ∀ z ∈ S, ∃ x, g z = some x) (hq : g q = none) : q ∉ S := fun hm => by obtain ⟨x, hx⟩ := h q hm; rw [hq] at hx; cases hx
end HFN
set_option maxRecDepth 20000 in
theorem insCo : Cond.instantiable RCo 4 ∈ hB := hB_in 78 rfl (by decide +kernel)
set_option maxRecDepth 20000 in
theorem iniCo : Cond.initialized RCo ∈ hB := hB_in 29 rfl (by decide +kernel)
theorem dflCo : ∀ j, j < 4 → defaultValue (tyCo j) = vp_V [.null, .null, .int (nI 0), .null] j := by
  intro j hj
  match j, hj with
  | 0, _ => rfl
  | 1, _ => rfl
  | 2, _ => rfl
  | 3, _ => rfl
  | j + 4, h => exact absurd h (by omega)
set_option maxRecDepth 20000 in
theorem insHu : Cond.instantiable RHu 3 ∈ hB := hB_in 109 rfl (by decide +kernel)
set_option maxRecDepth 20000 in
theorem iniHu : Cond.initialized RHu ∈ hB := hB_in 30 rfl (by decide +kernel)
theorem dflHu : ∀ j, j < 3 → defaultValue (tyHu j) = vp_V [.null, .int (nI 0), .null] j := by
  intro j hj
  match j, hj with
  | 0, _ => rfl
  | 1, _ => rfl
  | 2, _ => rfl
  | j + 3, h => exact absurd h (by omega)
set_option maxRecDepth 20000 in
theorem insMg : Cond.instantiable RMg 8 ∈ hB := hB_in 176 rfl (by decide +kernel)
set_option maxRecDepth 20000 in
theorem iniMg : Cond.initialized RMg ∈ hB := hB_in 33 rfl (by decide +kernel)
theorem dflMg : ∀ j, j < 8 → defaultValue (tyMg j) = vp_V [.null, .null, .int (nI 0), .null, .null, .null, .null, .null] j := by
  intro j hj
  match j, hj with
  | 0, _ => rfl
  | 1, _ => rfl
  | 2, _ => rfl
  | 3, _ => rfl
  | 4, _ => rfl
  | 5, _ => rfl
  | 6, _ => rfl
  | 7, _ => rfl
  | j + 8, h => exact absurd h (by omega)
set_option maxRecDepth 20000 in
theorem insPa : Cond.instantiable RPa 3 ∈ hB := hB_in 184 rfl (by decide +kernel)
set_option maxRecDepth 20000 in
theorem iniPa : Cond.initialized RPa ∈ hB := hB_in 34 rfl (by decide +kernel)
theorem dflPa : ∀ j, j < 3 → defaultValue (tyPa j) = vp_V [.null, .int (nI 0), .int (nI 0)] j := by
  intro j hj
  match j, hj with
  | 0, _ => rfl
  | 1, _ => rfl
  | 2, _ => rfl
  | j + 3, h => exact absurd h (by omega)
set_option maxRecDepth 20000 in
theorem insPg : Cond.instantiable RPg 3 ∈ hB := hB_in 129 rfl (by decide +kernel)
set_option maxRecDepth 20000 in
theorem iniPg : Cond.initialized RPg ∈ hB := hB_in 31 rfl (by decide +kernel)
theorem dflPg : ∀ j, j < 3 → defaultValue (tyPg j) = vp_V [.null, .int (nI 0), .null] j := by
  intro j hj
  match j, hj with
  | 0, _ => rfl
  | 1, _ => rfl
  | 2, _ => rfl
  | j + 3, h => exact absurd h (by omega)
set_option maxRecDepth 20000 in
theorem insRo : Cond.instantiable RRo 2 ∈ hB := hB_in 53 rfl (by decide +kernel)
set_option maxRecDepth 20000 in
theorem iniRo : Cond.initialized RRo ∈ hB := hB_in 28 rfl (by decide +kernel)
theorem dflRo : ∀ j, j < 2 → defaultValue (tyRo j) = vp_V [.null, .int (nI 0)] j := by
  intro j hj
  match j, hj with
  | 0, _ => rfl
  | 1, _ => rfl
  | j + 2, h => exact absurd h (by omega)
set_option maxRecDepth 20000 in
theorem insVe : Cond.instantiable RVe 5 ∈ hB := hB_in 149 rfl (by decide +kernel)
set_option maxRecDepth 20000 in
theorem iniVe : Cond.initialized RVe ∈ hB := hB_in 32 rfl (by decide +kernel)
theorem dflVe : ∀ j, j < 5 → defaultValue (tyVe j) = vp_V [.null, .null, .int (nI 0), .null, .null] j := by
  intro j hj
  match j, hj with
  | 0, _ => rfl
  | 1, _ => rfl
  | 2, _ => rfl
  | 3, _ => rfl
  | 4, _ => rfl
  | j + 5, h => exact absurd h (by omega)
set_option maxRecDepth 20000 in
theorem insMR : Cond.instantiable RMR 7 ∈ hB := hB_in 44 rfl (by decide +kernel)
set_option maxRecDepth 20000 in
theorem iniMR : Cond.initialized RMR ∈ hB := hB_in 27 rfl (by decide +kernel)
theorem dflMR : ∀ j, j < 7 → defaultValue (tyMR j) = vp_V [.null, .null, .null, .null, .null, .null, .null] j := by
  intro j hj
  match j, hj with
  | 0, _ => rfl
  | 1, _ => rfl
  | 2, _ => rfl
  | 3, _ => rfl
  | 4, _ => rfl
  | 5, _ => rfl
  | 6, _ => rfl
  | j + 7, h => exact absurd h (by omega)
set_option maxRecDepth 20000 in
theorem insMM : Cond.instantiable RMM 29 ∈ hB := hB_in 589 rfl (by decide +kernel)
set_option maxRecDepth 20000 in
theorem iniMM : Cond.initialized RMM ∈ hB := hB_in 35 rfl (by decide +kernel)
theorem dflMM : ∀ j, j < 29 → defaultValue (tyMM j) = vp_V [.int (nI 0), .null, .null, .int (nI 0), .int (nI 0), .null, .null, .null, .null, .int (nI 0), .null, .null, .int (nI 0), .null, .int (nI 0), .null, .int (nI 0), .int (nI 0), .null, .null, .null, .int (nI 0), .null, .int (nI 0), .null, .int (nI 0), .null, .null, .null] j := by
  intro j hj
  match j, hj with
  | 0, _ => rfl
  | 1, _ => rfl
  | 2, _ => rfl
  | 3, _ => rfl
  | 4, _ => rfl
  | 5, _ => rfl
  | 6, _ => rfl
  | 7, _ => rfl
  | 8, _ => rfl
  | 9, _ => rfl
  | 10, _ => rfl
  | 11, _ => rfl
  | 12, _ => rfl
  | 13, _ => rfl
  | 14, _ => rfl
  | 15, _ => rfl
  | 16, _ => rfl
  | 17, _ => rfl
  | 18, _ => rfl
  | 19, _ => rfl
  | 20, _ => rfl
  | 21, _ => rfl
  | 22, _ => rfl
  | 23, _ => rfl
  | 24, _ => rfl
  | 25, _ => rfl
  | 26, _ => rfl
  | 27, _ => rfl
  | 28, _ => rfl
  | j + 29, h => exact absurd h (by omega)
set_option maxRecDepth 100000 in
set_option maxHeartbeats 4000000 in
theorem c_Ro_init (l : Launch) (D : va_G) (cI cR cJ : ClassId) (g : Nat → Option va_E) (sz : Nat) (r n : Nat) (hn : n < 4000) (h0 : g r = some (.inr (5, [.null, .int (nI 0)]))) : hMv l yRo_init cRo_init 2 (hRm 1 12 1 n) D (hT cI cR cJ) g sz [.ref r, .int (nI n)] (fun g1 => ∃ ln, g ln = none ∧ hfn g g1 [r] ∧ g1 r = some (.inr (5, [.ref ln, .int (nI 0)])) ∧ g1 ln = some (.inl (cI, n, .inl (fun _ => 0)))) := by
  refine hMv_of (by decide +kernel) (Nat.le_of_ble_eq_true rfl) ?_
  intro pX eX RX sX mX argsX belowX methX cX QX AX hR S0 hnm hsz hg hK hS hA0 hend ls hl
  have hl : lv_has ls 2 [(0, .ref r), (1, .int (nI n))] := hl
  have fr : hfn g g [r] := hfn.rf
  refine lv_aload_n S0.1 S0.2.1 dRo_init_0 rfl (lv_at hl 0 rfl) ?_
  refine hw_objInit S0 hR hl.1 lm_Ro_3 rfl dRo_init_1 ?_
  refine lv_aload_n S0.1 S0.2.1 dRo_init_4 rfl (lv_at hl 0 rfl) ?_
  refine lv_iload_n S0.1 S0.2.1 dRo_init_5 rfl (lv_at hl 1 rfl) ?_
  refine hw_newa (ty := .int) (a0 := (n, .inl (fun _ => 0))) S0 hK hg hS hA0 rfl wI_arr 0 rfl (fun C h => by cases h) (fun _ => rfl) (by omega) (by show n * 4 ≤ 536870912; omega) (Nat.le_trans (Nat.le_of_ble_eq_true rfl) hR.2.2.1) (Nat.le_trans (Nat.le_of_eq (Nat.zero_add n)) hR.2.2.2) dRo_init_6 (fun a1 H ha1 hg hS => ?_)
  have n_r_a1 : r ≠ a1 := h_nn h0 ha1
  have z_a1 : g a1 = none := fr.nn ha1 (h_nm (Ne.symm n_r_a1) h_n0)
  obtain ⟨g_1, eg_1⟩ : ∃ z, z = hs g a1 (.inl (cI, n, .inl (fun _ => 0))) := ⟨_, rfl⟩
  have hg : hw D hC AX g_1 H := by rw [eg_1]; exact hg
  have f1_0 : g_1 r = some (.inr (5, [.null, .int (nI 0)])) := by rw [eg_1, hs_n _ _ n_r_a1]; exact h0
  have f1_1 : g_1 a1 = some (.inl (cI, n, .inl (fun _ => 0))) := by rw [eg_1]; exact hs_s _ _ _
  have fr := fr.putN eg_1 z_a1
  refine hw_putF S0 hK hg hS f1_0 rfl inRo tyRo tokRo nmRo 0 (by decide) lf_Ro_9 rfl rfl hnm rfl rfl rfl (Nat.le_of_ble_eq_true rfl) dRo_init_8 (fun H locs hg hS => ?_)
  obtain ⟨g_2, eg_2⟩ : ∃ z, z = hs g_1 r (.inr (5, [.ref a1, .int (nI 0)])) := ⟨_, rfl⟩
  have hg : hw D hC AX g_2 H := by rw [eg_2]; exact hg
  have f2_0 : g_2 a1 = some (.inl (cI, n, .inl (fun _ => 0))) := by rw [eg_2, hs_n _ _ (Ne.symm n_r_a1)]; exact f1_1
  have f2_1 : g_2 r = some (.inr (5, [.ref a1, .int (nI 0)])) := by rw [eg_2]; exact hs_s _ _ _
  have fr := fr.put eg_2 (by simp)
  refine lv_aload_n S0.1 S0.2.1 dRo_init_11 rfl (lv_at hl 0 rfl) ?_
  refine lv_iconst (v := nI 0) S0.1 S0.2.1 dRo_init_12 (by decide) ?_
  refine hw_put S0 hK hg hS f2_1 rfl inRo tyRo tokRo nmRo 1 (by decide) lf_Ro_15 rfl rfl rfl rfl (Nat.le_of_ble_eq_true rfl) dRo_init_13 (fun H locs hg hS => ?_)
  obtain ⟨g_3, eg_3⟩ : ∃ z, z = hs g_2 r (.inr (5, [.ref a1, .int (nI 0)])) := ⟨_, rfl⟩
  have hg : hw D hC AX g_3 H := by rw [eg_3]; exact hg
  have f3_0 : g_3 a1 = some (.inl (cI, n, .inl (fun _ => 0))) := by rw [eg_3, hs_n _ _ (Ne.symm n_r_a1)]; exact f2_0
  have f3_1 : g_3 r = some (.inr (5, [.ref a1, .int (nI 0)])) := by rw [eg_3]; exact hs_s _ _ _
  have fr := fr.put eg_3 (by simp)
  exact hend _ _ _ _ _ _ _ (Nat.le_refl _) (Nat.le_of_eq (Nat.zero_add n)) ⟨a1, z_a1, fr, f3_1, f3_0⟩ hg hS dRo_init_16
set_option maxRecDepth 100000 in
set_option maxHeartbeats 4000000 in
theorem c_Co_init (l : Launch) (D : va_G) (cI cR cJ : ClassId) (g : Nat → Option va_E) (sz : Nat) (r len : Nat) (h0 : g r = some (.inr (0, [.null, .null, .int (nI 0), .null]))) : hMv l yCo_init cCo_init 2 (hRm 1 12 2 120) D (hT cI cR cJ) g sz [.ref r, .ref len] (fun g1 => ∃ pa pb, g pa = none ∧ g pb = none ∧ hfn g g1 [r] ∧ g1 r = some (.inr (0, [.ref pa, .ref pb, .int (nI 0), .ref len])) ∧ g1 pa = some (.inl (cI, 60, .inl (fun _ => 0))) ∧ g1 pb = some (.inl (cI, 60, .inl (fun _ => 0))) ∧ pa ≠ pb) := by
  refine hMv_of (by decide +kernel) (Nat.le_of_ble_eq_true rfl) ?_
  intro pX eX RX sX mX argsX belowX methX cX QX AX hR S0 hnm hsz hg hK hS hA0 hend ls hl
  have hl : lv_has ls 2 [(0, .ref r), (1, .ref len)] := hl
  have fr : hfn g g [r] := hfn.rf
  refine lv_aload_n S0.1 S0.2.1 dCo_init_0 rfl (lv_at hl 0 rfl) ?_
  refine hw_objInit S0 hR hl.1 lm_Co_3 rfl dCo_init_1 ?_
  refine lv_aload_n S0.1 S0.2.1 dCo_init_4 rfl (lv_at hl 0 rfl) ?_
  refine lv_bipush (v := nI 60) S0.1 S0.2.1 dCo_init_5 (by decide) ?_
  refine hw_newa (ty := .int) (a0 := (60, .inl (fun _ => 0))) S0 hK hg hS hA0 rfl wI_arr 0 rfl (fun C h => by cases h) (fun _ => rfl) (by omega) (by show 60 * 4 ≤ 536870912; omega) (Nat.le_trans (Nat.le_of_ble_eq_true rfl) hR.2.2.1) (Nat.le_trans (Nat.le_of_ble_eq_true rfl) hR.2.2.2) dCo_init_7 (fun a1 H ha1 hg hS => ?_)
  have n_r_a1 : r ≠ a1 := h_nn h0 ha1
  have z_a1 : g a1 = none := fr.nn ha1 (h_nm (Ne.symm n_r_a1) h_n0)
  obtain ⟨g_1, eg_1⟩ : ∃ z, z = hs g a1 (.inl (cI, 60, .inl (fun _ => 0))) := ⟨_, rfl⟩
  have hg : hw D hC AX g_1 H := by rw [eg_1]; exact hg
  have f1_0 : g_1 r = some (.inr (0, [.null, .null, .int (nI 0), .null])) := by rw [eg_1, hs_n _ _ n_r_a1]; exact h0
  have f1_1 : g_1 a1 = some (.inl (cI, 60, .inl (fun _ => 0))) := by rw [eg_1]; exact hs_s _ _ _
  have fr := fr.putN eg_1 z_a1
  refine hw_putF S0 hK hg hS f1_0 rfl inCo tyCo tokCo nmCo 0 (by decide) lf_Co_9 rfl rfl hnm rfl rfl rfl (Nat.le_of_ble_eq_true rfl) dCo_init_9 (fun H locs hg hS => ?_)
  obtain ⟨g_2, eg_2⟩ : ∃ z, z = hs g_1 r (.inr (0, [.ref a1, .null, .int (nI 0), .null])) := ⟨_, rfl⟩
  have hg : hw D hC AX g_2 H := by rw [eg_2]; exact hg
  have f2_0 : g_2 a1 = some (.inl (cI, 60, .inl (fun _ => 0))) := by rw [eg_2, hs_n _ _ (Ne.symm n_r_a1)]; exact f1_1
  have f2_1 : g_2 r = some (.inr (0, [.ref a1, .null, .int (nI 0), .null])) := by rw [eg_2]; exact hs_s _ _ _
  have fr := fr.put eg_2 (by simp)
  refine lv_aload_n S0.1 S0.2.1 dCo_init_12 rfl (lv_at hl 0 rfl) ?_
  refine lv_bipush (v := nI 60) S0.1 S0.2.1 dCo_init_13 (by decide) ?_
  refine hw_newa (ty := .int) (a0 := (60, .inl (fun _ => 0))) S0 hK hg hS hA0 rfl wI_arr 0 rfl (fun C h => by cases h) (fun _ => rfl) (by omega) (by show 60 * 4 ≤ 536870912; omega) (Nat.le_trans (Nat.le_of_ble_eq_true rfl) hR.2.2.1) (Nat.le_trans (Nat.le_of_ble_eq_true rfl) hR.2.2.2) dCo_init_15 (fun a2 H ha2 hg hS => ?_)
  have n_a1_a2 : a1 ≠ a2 := h_nn f2_0 ha2
  have n_r_a2 : r ≠ a2 := h_nn f2_1 ha2
  have z_a2 : g a2 = none := fr.nn ha2 (h_nm (Ne.symm n_r_a2) h_n0)
  obtain ⟨g_3, eg_3⟩ : ∃ z, z = hs g_2 a2 (.inl (cI, 60, .inl (fun _ => 0))) := ⟨_, rfl⟩
  have hg : hw D hC AX g_3 H := by rw [eg_3]; exact hg
  have f3_0 : g_3 a1 = some (.inl (cI, 60, .inl (fun _ => 0))) := by rw [eg_3, hs_n _ _ n_a1_a2]; exact f2_0
  have f3_1 : g_3 r = some (.inr (0, [.ref a1, .null, .int (nI 0), .null])) := by rw [eg_3, hs_n _ _ n_r_a2]; exact f2_1
  have f3_2 : g_3 a2 = some (.inl (cI, 60, .inl (fun _ => 0))) := by rw [eg_3]; exact hs_s _ _ _
  have fr := fr.putN eg_3 z_a2
  refine hw_putF S0 hK hg hS f3_1 rfl inCo tyCo tokCo nmCo 1 (by decide) lf_Co_15 rfl rfl hnm rfl rfl rfl (Nat.le_of_ble_eq_true rfl) dCo_init_17 (fun H locs hg hS => ?_)
  obtain ⟨g_4, eg_4⟩ : ∃ z, z = hs g_3 r (.inr (0, [.ref a1, .ref a2, .int (nI 0), .null])) := ⟨_, rfl⟩
  have hg : hw D hC AX g_4 H := by rw [eg_4]; exact hg
  have f4_0 : g_4 a1 = some (.inl (cI, 60, .inl (fun _ => 0))) := by rw [eg_4, hs_n _ _ (Ne.symm n_r_a1)]; exact f3_0
  have f4_1 : g_4 a2 = some (.inl (cI, 60, .inl (fun _ => 0))) := by rw [eg_4, hs_n _ _ (Ne.symm n_r_a2)]; exact f3_2
  have f4_2 : g_4 r = some (.inr (0, [.ref a1, .ref a2, .int (nI 0), .null])) := by rw [eg_4]; exact hs_s _ _ _
  have fr := fr.put eg_4 (by simp)
  refine lv_aload_n S0.1 S0.2.1 dCo_init_20 rfl (lv_at hl 0 rfl) ?_
  refine lv_iconst (v := nI 0) S0.1 S0.2.1 dCo_init_21 (by decide) ?_
  refine hw_put S0 hK hg hS f4_2 rfl inCo tyCo tokCo nmCo 2 (by decide) lf_Co_18 rfl rfl rfl rfl (Nat.le_of_ble_eq_true rfl) dCo_init_22 (fun H locs hg hS => ?_)
  obtain ⟨g_5, eg_5⟩ : ∃ z, z = hs g_4 r (.inr (0, [.ref a1, .ref a2, .int (nI 0), .null])) := ⟨_, rfl⟩
  have hg : hw D hC AX g_5 H := by rw [eg_5]; exact hg
  have f5_0 : g_5 a1 = some (.inl (cI, 60, .inl (fun _ => 0))) := by rw [eg_5, hs_n _ _ (Ne.symm n_r_a1)]; exact f4_0
  have f5_1 : g_5 a2 = some (.inl (cI, 60, .inl (fun _ => 0))) := by rw [eg_5, hs_n _ _ (Ne.symm n_r_a2)]; exact f4_1
  have f5_2 : g_5 r = some (.inr (0, [.ref a1, .ref a2, .int (nI 0), .null])) := by rw [eg_5]; exact hs_s _ _ _
  have fr := fr.put eg_5 (by simp)
  refine lv_aload_n S0.1 S0.2.1 dCo_init_25 rfl (lv_at hl 0 rfl) ?_
  refine lv_aload_n S0.1 S0.2.1 dCo_init_26 rfl (lv_at hl 1 rfl) ?_
  refine hw_putF S0 hK hg hS f5_2 rfl inCo tyCo tokCo nmCo 3 (by decide) lf_Co_22 rfl rfl hnm rfl rfl rfl (Nat.le_of_ble_eq_true rfl) dCo_init_27 (fun H locs hg hS => ?_)
  obtain ⟨g_6, eg_6⟩ : ∃ z, z = hs g_5 r (.inr (0, [.ref a1, .ref a2, .int (nI 0), .ref len])) := ⟨_, rfl⟩
  have hg : hw D hC AX g_6 H := by rw [eg_6]; exact hg
  have f6_0 : g_6 a1 = some (.inl (cI, 60, .inl (fun _ => 0))) := by rw [eg_6, hs_n _ _ (Ne.symm n_r_a1)]; exact f5_0
  have f6_1 : g_6 a2 = some (.inl (cI, 60, .inl (fun _ => 0))) := by rw [eg_6, hs_n _ _ (Ne.symm n_r_a2)]; exact f5_1
  have f6_2 : g_6 r = some (.inr (0, [.ref a1, .ref a2, .int (nI 0), .ref len])) := by rw [eg_6]; exact hs_s _ _ _
  have fr := fr.put eg_6 (by simp)
  exact hend _ _ _ _ _ _ _ (by decide) (by decide) (⟨a1, a2, z_a1, z_a2, fr, f6_2, f6_0, f6_1, n_a1_a2⟩) hg hS dCo_init_30
set_option maxRecDepth 100000 in
set_option maxHeartbeats 4000000 in
theorem c_Hu_init (l : Launch) (D : va_G) (cI cR cJ : ClassId) (g : Nat → Option va_E) (sz : Nat) (r cm : Nat) (h0 : g r = some (.inr (1, [.null, .int (nI 0), .null]))) : hMv l yHu_init cHu_init 2 (hRm 1 12 1 244) D (hT cI cR cJ) g sz [.ref r, .ref cm] (fun g1 => ∃ ce, g ce = none ∧ hfn g g1 [r] ∧ g1 r = some (.inr (1, [.ref ce, .int (nI 0), .ref cm])) ∧ g1 ce = some (.inl (cI, 244, .inl (fun _ => 0)))) := by
  refine hMv_of (by decide +kernel) (Nat.le_of_ble_eq_true rfl) ?_
  intro pX eX RX sX mX argsX belowX methX cX QX AX hR S0 hnm hsz hg hK hS hA0 hend ls hl
  have hl : lv_has ls 2 [(0, .ref r), (1, .ref cm)] := hl
  have fr : hfn g g [r] := hfn.rf
  refine lv_aload_n S0.1 S0.2.1 dHu_init_0 rfl (lv_at hl 0 rfl) ?_
  refine hw_objInit S0 hR hl.1 lm_Hu_3 rfl dHu_init_1 ?_
  refine lv_aload_n S0.1 S0.2.1 dHu_init_4 rfl (lv_at hl 0 rfl) ?_
  refine lv_sipush (v := nI 244) S0.1 S0.2.1 dHu_init_5 (by decide) ?_
  refine hw_newa (ty := .int) (a0 := (244, .inl (fun _ => 0))) S0 hK hg hS hA0 rfl wI_arr 0 rfl (fun C h => by cases h) (fun _ => rfl) (by omega) (by show 244 * 4 ≤ 536870912; omega) (Nat.le_trans (Nat.le_of_ble_eq_true rfl) hR.2.2.1) (Nat.le_trans (Nat.le_of_ble_eq_true rfl) hR.2.2.2) dHu_init_8 (fun a1 H ha1 hg hS => ?_)
  have n_r_a1 : r ≠ a1 := h_nn h0 ha1
  have z_a1 : g a1 = none := fr.nn ha1 (h_nm (Ne.symm n_r_a1) h_n0)
  obtain ⟨g_1, eg_1⟩ : ∃ z, z = hs g a1 (.inl (cI, 244, .inl (fun _ => 0))) := ⟨_, rfl⟩
  have hg : hw D hC AX g_1 H := by rw [eg_1]; exact hg
  have f1_0 : g_1 r = some (.inr (1, [.null, .int (nI 0), .null])) := by rw [eg_1, hs_n _ _ n_r_a1]; exact h0
  have f1_1 : g_1 a1 = some (.inl (cI, 244, .inl (fun _ => 0))) := by rw [eg_1]; exact hs_s _ _ _
  have fr := fr.putN eg_1 z_a1
  refine hw_putF S0 hK hg hS f1_0 rfl inHu tyHu tokHu nmHu 0 (by decide) lf_Hu_11 rfl rfl hnm rfl rfl rfl (Nat.le_of_ble_eq_true rfl) dHu_init_10 (fun H locs hg hS => ?_)
  obtain ⟨g_2, eg_2⟩ : ∃ z, z = hs g_1 r (.inr (1, [.ref a1, .int (nI 0), .null])) := ⟨_, rfl⟩
  have hg : hw D hC AX g_2 H := by rw [eg_2]; exact hg
  have f2_0 : g_2 a1 = some (.inl (cI, 244, .inl (fun _ => 0))) := by rw [eg_2, hs_n _ _ (Ne.symm n_r_a1)]; exact f1_1
  have f2_1 : g_2 r = some (.inr (1, [.ref a1, .int (nI 0), .null])) := by rw [eg_2]; exact hs_s _ _ _
  have fr := fr.put eg_2 (by simp)
  refine lv_aload_n S0.1 S0.2.1 dHu_init_13 rfl (lv_at hl 0 rfl) ?_
  refine lv_iconst (v := nI 0) S0.1 S0.2.1 dHu_init_14 (by decide) ?_
  refine hw_put S0 hK hg hS f2_1 rfl inHu tyHu tokHu nmHu 1 (by decide) lf_Hu_15 rfl rfl rfl rfl (Nat.le_of_ble_eq_true rfl) dHu_init_15 (fun H locs hg hS => ?_)
  obtain ⟨g_3, eg_3⟩ : ∃ z, z = hs g_2 r (.inr (1, [.ref a1, .int (nI 0), .null])) := ⟨_, rfl⟩
  have hg : hw D hC AX g_3 H := by rw [eg_3]; exact hg
  have f3_0 : g_3 a1 = some (.inl (cI, 244, .inl (fun _ => 0))) := by rw [eg_3, hs_n _ _ (Ne.symm n_r_a1)]; exact f2_0
  have f3_1 : g_3 r = some (.inr (1, [.ref a1, .int (nI 0), .null])) := by rw [eg_3]; exact hs_s _ _ _
  have fr := fr.put eg_3 (by simp)
  refine lv_aload_n S0.1 S0.2.1 dHu_init_18 rfl (lv_at hl 0 rfl) ?_
  refine lv_aload_n S0.1 S0.2.1 dHu_init_19 rfl (lv_at hl 1 rfl) ?_
  refine hw_putF S0 hK hg hS f3_1 rfl inHu tyHu tokHu nmHu 2 (by decide) lf_Hu_19 rfl rfl hnm rfl rfl rfl (Nat.le_of_ble_eq_true rfl) dHu_init_20 (fun H locs hg hS => ?_)
  obtain ⟨g_4, eg_4⟩ : ∃ z, z = hs g_3 r (.inr (1, [.ref a1, .int (nI 0), .ref cm])) := ⟨_, rfl⟩
  have hg : hw D hC AX g_4 H := by rw [eg_4]; exact hg
  have f4_0 : g_4 a1 = some (.inl (cI, 244, .inl (fun _ => 0))) := by rw [eg_4, hs_n _ _ (Ne.symm n_r_a1)]; exact f3_0
  have f4_1 : g_4 r = some (.inr (1, [.ref a1, .int (nI 0), .ref cm])) := by rw [eg_4]; exact hs_s _ _ _
  have fr := fr.put eg_4 (by simp)
  exact hend _ _ _ _ _ _ _ (by decide) (by decide) (⟨a1, z_a1, fr, f4_1, f4_0⟩) hg hS dHu_init_23
set_option maxRecDepth 100000 in
set_option maxHeartbeats 4000000 in
theorem c_Pa_init (l : Launch) (D : va_G) (cI cR cJ : ClassId) (g : Nat → Option va_E) (sz : Nat) (r : Nat) (h0 : g r = some (.inr (3, [.null, .int (nI 0), .int (nI 0)]))) : hMv l yPa_init cPa_init 1 (hRm 2 40 2 2) D (hT cI cR cJ) g sz [.ref r] (fun g1 => hfn g g1 [r] ∧ ∃ w, g1 r = some (.inr (3, [.ref w, .int (nI 0), .int (nI 0)]))) := by
  refine hMv_of (by decide +kernel) (Nat.le_of_ble_eq_true rfl) ?_
  intro pX eX RX sX mX argsX belowX methX cX QX AX hR S0 hnm hsz hg hK hS hA0 hend ls hl
  have hl : lv_has ls 1 [(0, .ref r)] := hl
  have fr : hfn g g [r] := hfn.rf
  refine lv_aload_n S0.1 S0.2.1 dPa_init_0 rfl (lv_at hl 0 rfl) ?_
  refine hw_objInit S0 hR hl.1 lm_Pa_1 rfl dPa_init_1 ?_
  refine lv_aload_n S0.1 S0.2.1 dPa_init_4 rfl (lv_at hl 0 rfl) ?_
  refine hw_new (fs := [.null, .int (nI 0)]) S0 hK hg hS hA0 (ci := 5) rfl inRo tyRo tokRo lc_Pa_7 insRo iniRo dflRo (Nat.le_trans (Nat.le_of_ble_eq_true rfl) hR.2.2.1) (Nat.le_trans (Nat.le_of_ble_eq_true rfl) hR.2.2.2) dPa_init_5 (fun a1 H ha1 hg hS => ?_)
  have n_r_a1 : r ≠ a1 := h_nn h0 ha1
  have z_a1 : g a1 = none := fr.nn ha1 (h_nm (Ne.symm n_r_a1) h_n0)
  obtain ⟨g_1, eg_1⟩ : ∃ z, z = hs g a1 (.inr (5, [.null, .int (nI 0)])) := ⟨_, rfl⟩
  have hg : hw D hC AX g_1 H := by rw [eg_1]; exact hg
  have f1_0 : g_1 r = some (.inr (3, [.null, .int (nI 0), .int (nI 0)])) := by rw [eg_1, hs_n _ _ n_r_a1]; exact h0
  have f1_1 : g_1 a1 = some (.inr (5, [.null, .int (nI 0)])) := by rw [eg_1]; exact hs_s _ _ _
  have fr := fr.putN eg_1 z_a1
  refine lv_dup S0.1 S0.2.1 dPa_init_8 rfl ?_
  refine lv_iconst (v := nI 0) S0.1 S0.2.1 dPa_init_9 (by decide) ?_
  refine hw_I (As := [.int (nI 0)]) (rest := [.ref a1, .ref r]) S0 hK hg hS hA0 (c_Ro_init l D cI cR cJ g_1 _ a1 0 (by omega) f1_1) kRo_init lm_Pa_9 (hR.call rfl) rfl hl.1 rfl (Nat.le_of_ble_eq_true rfl) dPa_init_10 (hR.new (by decide) (by decide)) (fun g_2 H locs hp_10 hg hS => ?_)
  obtain ⟨b10_2_0, z10_2_0, frn10_2, s10_2, y10_2_0⟩ := hp_10
  have n_r_b10_2_0 : r ≠ b10_2_0 := h_nn f1_0 z10_2_0
  have n_a1_b10_2_0 : a1 ≠ b10_2_0 := h_nn f1_1 z10_2_0
  have k2_0 := frn10_2.at (h_nm n_r_a1 h_n0) f1_0
  have z_b10_2_0 : g b10_2_0 = none := fr.nn z10_2_0 (h_nm (Ne.symm n_r_b10_2_0) h_n0)
  have fr := fr.call frn10_2 (fun z hz => by rcases List.mem_singleton.mp hz with rfl; exact Or.inr z_a1)
  refine hw_put S0 hK hg hS k2_0 rfl inPa tyPa tokPa nmPa 0 (by decide) lf_Pa_12 rfl rfl rfl rfl (Nat.le_of_ble_eq_true rfl) dPa_init_13 (fun H locs hg hS => ?_)
  obtain ⟨g_3, eg_3⟩ : ∃ z, z = hs g_2 r (.inr (3, [.ref a1, .int (nI 0), .int (nI 0)])) := ⟨_, rfl⟩
  have hg : hw D hC AX g_3 H := by rw [eg_3]; exact hg
  have f3_0 : g_3 a1 = some (.inr (5, [.ref b10_2_0, .int (nI 0)])) := by rw [eg_3, hs_n _ _ (Ne.symm n_r_a1)]; exact s10_2
  have f3_1 : g_3 b10_2_0 = some (.inl (cI, 0, .inl (fun _ => 0))) := by rw [eg_3, hs_n _ _ (Ne.symm n_r_b10_2_0)]; exact y10_2_0
  have f3_2 : g_3 r = some (.inr (3, [.ref a1, .int (nI 0), .int (nI 0)])) := by rw [eg_3]; exact hs_s _ _ _
  have fr := fr.put eg_3 (by simp)
  refine lv_aload_n S0.1 S0.2.1 dPa_init_16 rfl (lv_at hl 0 rfl) ?_
  refine lv_iconst (v := nI 0) S0.1 S0.2.1 dPa_init_17 (by decide) ?_
  refine hw_put S0 hK hg hS f3_2 rfl inPa tyPa tokPa nmPa 1 (by decide) lf_Pa_18 rfl rfl rfl rfl (Nat.le_of_ble_eq_true rfl) dPa_init_18 (fun H locs hg hS => ?_)
  obtain ⟨g_4, eg_4⟩ : ∃ z, z = hs g_3 r (.inr (3, [.ref a1, .int (nI 0), .int (nI 0)])) := ⟨_, rfl⟩
  have hg : hw D hC AX g_4 H := by rw [eg_4]; exact hg
  have f4_0 : g_4 a1 = some (.inr (5, [.ref b10_2_0, .int (nI 0)])) := by rw [eg_4, hs_n _ _ (Ne.symm n_r_a1)]; exact f3_0
  have f4_1 : g_4 b10_2_0 = some (.inl (cI, 0, .inl (fun _ => 0))) := by rw [eg_4, hs_n _ _ (Ne.symm n_r_b10_2_0)]; exact f3_1
  have f4_2 : g_4 r = some (.inr (3, [.ref a1, .int (nI 0), .int (nI 0)])) := by rw [eg_4]; exact hs_s _ _ _
  have fr := fr.put eg_4 (by simp)
  refine lv_aload_n S0.1 S0.2.1 dPa_init_21 rfl (lv_at hl 0 rfl) ?_
  refine lv_iconst (v := nI 0) S0.1 S0.2.1 dPa_init_22 (by decide) ?_
  refine hw_put S0 hK hg hS f4_2 rfl inPa tyPa tokPa nmPa 2 (by decide) lf_Pa_22 rfl rfl rfl rfl (Nat.le_of_ble_eq_true rfl) dPa_init_23 (fun H locs hg hS => ?_)
  obtain ⟨g_5, eg_5⟩ : ∃ z, z = hs g_4 r (.inr (3, [.ref a1, .int (nI 0), .int (nI 0)])) := ⟨_, rfl⟩
  have hg : hw D hC AX g_5 H := by rw [eg_5]; exact hg
  have f5_0 : g_5 a1 = some (.inr (5, [.ref b10_2_0, .int (nI 0)])) := by rw [eg_5, hs_n _ _ (Ne.symm n_r_a1)]; exact f4_0
  have f5_1 : g_5 b10_2_0 = some (.inl (cI, 0, .inl (fun _ => 0))) := by rw [eg_5, hs_n _ _ (Ne.symm n_r_b10_2_0)]; exact f4_1
  have f5_2 : g_5 r = some (.inr (3, [.ref a1, .int (nI 0), .int (nI 0)])) := by rw [eg_5]; exact hs_s _ _ _
  have fr := fr.put eg_5 (by simp)
  exact hend _ _ _ _ _ _ _ (by decide) (by decide) (⟨fr, _, f5_2⟩) hg hS dPa_init_26
set_option maxRecDepth 100000 in
set_option maxHeartbeats 4000000 in
theorem c_Pg_init (l : Launch) (D : va_G) (cI cR cJ : ClassId) (g : Nat → Option va_E) (sz : Nat) (r hu : Nat) (h0 : g r = some (.inr (4, [.null, .int (nI 0), .null]))) : hMv l yPg_init cPg_init 2 (hRm 2 40 2 122) D (hT cI cR cJ) g sz [.ref r, .ref hu] (fun g1 => ∃ ro lo, g ro = none ∧ g lo = none ∧ hfn g g1 [r] ∧ g1 r = some (.inr (4, [.ref ro, .int (nI 0), .ref hu])) ∧ g1 ro = some (.inr (5, [.ref lo, .int (nI 0)])) ∧ g1 lo = some (.inl (cI, 120, .inl (fun _ => 0)))) := by
  refine hMv_of (by decide +kernel) (Nat.le_of_ble_eq_true rfl) ?_
  intro pX eX RX sX mX argsX belowX methX cX QX AX hR S0 hnm hsz hg hK hS hA0 hend ls hl
  have hl : lv_has ls 2 [(0, .ref r), (1, .ref hu)] := hl
  have fr : hfn g g [r] := hfn.rf
  refine lv_aload_n S0.1 S0.2.1 dPg_init_0 rfl (lv_at hl 0 rfl) ?_
  refine hw_objInit S0 hR hl.1 lm_Pg_3 rfl dPg_init_1 ?_
  refine lv_aload_n S0.1 S0.2.1 dPg_init_4 rfl (lv_at hl 0 rfl) ?_
  refine hw_new (fs := [.null, .int (nI 0)]) S0 hK hg hS hA0 (ci := 5) rfl inRo tyRo tokRo lc_Pg_9 insRo iniRo dflRo (Nat.le_trans (Nat.le_of_ble_eq_true rfl) hR.2.2.1) (Nat.le_trans (Nat.le_of_ble_eq_true rfl) hR.2.2.2) dPg_init_5 (fun a1 H ha1 hg hS => ?_)
  have n_r_a1 : r ≠ a1 := h_nn h0 ha1
  have z_a1 : g a1 = none := fr.nn ha1 (h_nm (Ne.symm n_r_a1) h_n0)
  obtain ⟨g_1, eg_1⟩ : ∃ z, z = hs g a1 (.inr (5, [.null, .int (nI 0)])) := ⟨_, rfl⟩
  have hg : hw D hC AX g_1 H := by rw [eg_1]; exact hg
  have f1_0 : g_1 r = some (.inr (4, [.null, .int (nI 0), .null])) := by rw [eg_1, hs_n _ _ n_r_a1]; exact h0
  have f1_1 : g_1 a1 = some (.inr (5, [.null, .int (nI 0)])) := by rw [eg_1]; exact hs_s _ _ _
  have fr := fr.putN eg_1 z_a1
  refine lv_dup S0.1 S0.2.1 dPg_init_8 rfl ?_
  refine lv_bipush (v := nI 120) S0.1 S0.2.1 dPg_init_9 (by decide) ?_
  refine hw_I (As := [.int (nI 120)]) (rest := [.ref a1, .ref r]) S0 hK hg hS hA0 (c_Ro_init l D cI cR cJ g_1 _ a1 120 (by omega) f1_1) kRo_init lm_Pg_11 (hR.call rfl) rfl hl.1 rfl (Nat.le_of_ble_eq_true rfl) dPg_init_11 (hR.new (by decide) (by decide)) (fun g_2 H locs hp_11 hg hS => ?_)
  obtain ⟨b11_2_0, z11_2_0, frn11_2, s11_2, y11_2_0⟩ := hp_11
  have n_r_b11_2_0 : r ≠ b11_2_0 := h_nn f1_0 z11_2_0
  have n_a1_b11_2_0 : a1 ≠ b11_2_0 := h_nn f1_1 z11_2_0
  have k2_0 := frn11_2.at (h_nm n_r_a1 h_n0) f1_0
  have z_b11_2_0 : g b11_2_0 = none := fr.nn z11_2_0 (h_nm (Ne.symm n_r_b11_2_0) h_n0)
  have fr := fr.call frn11_2 (fun z hz => by rcases List.mem_singleton.mp hz with rfl; exact Or.inr z_a1)
  refine hw_putF S0 hK hg hS k2_0 rfl inPg tyPg tokPg nmPg 0 (by decide) lf_Pg_14 rfl rfl hnm rfl rfl rfl (Nat.le_of_ble_eq_true rfl) dPg_init_14 (fun H locs hg hS => ?_)
  obtain ⟨g_3, eg_3⟩ : ∃ z, z = hs g_2 r (.inr (4, [.ref a1, .int (nI 0), .null])) := ⟨_, rfl⟩
  have hg : hw D hC AX g_3 H := by rw [eg_3]; exact hg
  have f3_0 : g_3 a1 = some (.inr (5, [.ref b11_2_0, .int (nI 0)])) := by rw [eg_3, hs_n _ _ (Ne.symm n_r_a1)]; exact s11_2
  have f3_1 : g_3 b11_2_0 = some (.inl (cI, 120, .inl (fun _ => 0))) := by rw [eg_3, hs_n _ _ (Ne.symm n_r_b11_2_0)]; exact y11_2_0
  have f3_2 : g_3 r = some (.inr (4, [.ref a1, .int (nI 0), .null])) := by rw [eg_3]; exact hs_s _ _ _
  have fr := fr.put eg_3 (by simp)
  refine lv_aload_n S0.1 S0.2.1 dPg_init_17 rfl (lv_at hl 0 rfl) ?_
  refine lv_iconst (v := nI 0) S0.1 S0.2.1 dPg_init_18 (by decide) ?_
  refine hw_put S0 hK hg hS f3_2 rfl inPg tyPg tokPg nmPg 1 (by decide) lf_Pg_20 rfl rfl rfl rfl (Nat.le_of_ble_eq_true rfl) dPg_init_19 (fun H locs hg hS => ?_)
  obtain ⟨g_4, eg_4⟩ : ∃ z, z = hs g_3 r (.inr (4, [.ref a1, .int (nI 0), .null])) := ⟨_, rfl⟩
  have hg : hw D hC AX g_4 H := by rw [eg_4]; exact hg
  have f4_0 : g_4 a1 = some (.inr (5, [.ref b11_2_0, .int (nI 0)])) := by rw [eg_4, hs_n _ _ (Ne.symm n_r_a1)]; exact f3_0
  have f4_1 : g_4 b11_2_0 = some (.inl (cI, 120, .inl (fun _ => 0))) := by rw [eg_4, hs_n _ _ (Ne.symm n_r_b11_2_0)]; exact f3_1
  have f4_2 : g_4 r = some (.inr (4, [.ref a1, .int (nI 0), .null])) := by rw [eg_4]; exact hs_s _ _ _
  have fr := fr.put eg_4 (by simp)
  refine lv_aload_n S0.1 S0.2.1 dPg_init_22 rfl (lv_at hl 0 rfl) ?_
  refine lv_aload_n S0.1 S0.2.1 dPg_init_23 rfl (lv_at hl 1 rfl) ?_
  refine hw_putF S0 hK hg hS f4_2 rfl inPg tyPg tokPg nmPg 2 (by decide) lf_Pg_24 rfl rfl hnm rfl rfl rfl (Nat.le_of_ble_eq_true rfl) dPg_init_24 (fun H locs hg hS => ?_)
  obtain ⟨g_5, eg_5⟩ : ∃ z, z = hs g_4 r (.inr (4, [.ref a1, .int (nI 0), .ref hu])) := ⟨_, rfl⟩
  have hg : hw D hC AX g_5 H := by rw [eg_5]; exact hg
  have f5_0 : g_5 a1 = some (.inr (5, [.ref b11_2_0, .int (nI 0)])) := by rw [eg_5, hs_n _ _ (Ne.symm n_r_a1)]; exact f4_0
  have f5_1 : g_5 b11_2_0 = some (.inl (cI, 120, .inl (fun _ => 0))) := by rw [eg_5, hs_n _ _ (Ne.symm n_r_b11_2_0)]; exact f4_1
  have f5_2 : g_5 r = some (.inr (4, [.ref a1, .int (nI 0), .ref hu])) := by rw [eg_5]; exact hs_s _ _ _
  have fr := fr.put eg_5 (by simp)
  exact hend _ _ _ _ _ _ _ (by decide) (by decide) (⟨a1, b11_2_0, z_a1, z_b11_2_0, fr, f5_2, f5_0, f5_1⟩) hg hS dPg_init_27
set_option maxRecDepth 100000 in
set_option maxHeartbeats 4000000 in
theorem c_Ve_init (l : Launch) (D : va_G) (cI cR cJ : ClassId) (g : Nat → Option va_E) (sz : Nat) (r cm : Nat) (h0 : g r = some (.inr (6, [.null, .null, .int (nI 0), .null, .null]))) : hMv l yVe_init cVe_init 2 (hRm 2 40 4 1892) D (hT cI cR cJ) g sz [.ref r, .ref cm] (fun g1 => ∃ sv og nr ln, g sv = none ∧ g og = none ∧ g nr = none ∧ g ln = none ∧ hfn g g1 [r] ∧ g1 r = some (.inr (6, [.ref sv, .ref og, .int (nI 0), .ref nr, .ref cm])) ∧ g1 sv = some (.inl (cI, 30, .inl (fun _ => 0))) ∧ g1 og = some (.inl (cI, 1800, .inl (fun _ => 0))) ∧ g1 nr = some (.inr (5, [.ref ln, .int (nI 0)])) ∧ g1 ln = some (.inl (cI, 60, .inl (fun _ => 0))) ∧ sv ≠ og ∧ sv ≠ ln ∧ og ≠ ln) := by
  refine hMv_of (by decide +kernel) (Nat.le_of_ble_eq_true rfl) ?_
  intro pX eX RX sX mX argsX belowX methX cX QX AX hR S0 hnm hsz hg hK hS hA0 hend ls hl
  have hl : lv_has ls 2 [(0, .ref r), (1, .ref cm)] := hl
  have fr : hfn g g [r] := hfn.rf
  refine lv_aload_n S0.1 S0.2.1 dVe_init_0 rfl (lv_at hl 0 rfl) ?_
  refine hw_objInit S0 hR hl.1 lm_Ve_3 rfl dVe_init_1 ?_
  refine lv_aload_n S0.1 S0.2.1 dVe_init_4 rfl (lv_at hl 0 rfl) ?_
  refine lv_bipush (v := nI 30) S0.1 S0.2.1 dVe_init_5 (by decide) ?_
  refine hw_newa (ty := .int) (a0 := (30, .inl (fun _ => 0))) S0 hK hg hS hA0 rfl wI_arr 0 rfl (fun C h => by cases h) (fun _ => rfl) (by omega) (by show 30 * 4 ≤ 536870912; omega) (Nat.le_trans (Nat.le_of_ble_eq_true rfl) hR.2.2.1) (Nat.le_trans (Nat.le_of_ble_eq_true rfl) hR.2.2.2) dVe_init_7 (fun a1 H ha1 hg hS => ?_)
  have n_r_a1 : r ≠ a1 := h_nn h0 ha1
  have z_a1 : g a1 = none := fr.nn ha1 (h_nm (Ne.symm n_r_a1) h_n0)
  obtain ⟨g_1, eg_1⟩ : ∃ z, z = hs g a1 (.inl (cI, 30, .inl (fun _ => 0))) := ⟨_, rfl⟩
  have hg : hw D hC AX g_1 H := by rw [eg_1]; exact hg
  have f1_0 : g_1 r = some (.inr (6, [.null, .null, .int (nI 0), .null, .null])) := by rw [eg_1, hs_n _ _ n_r_a1]; exact h0
  have f1_1 : g_1 a1 = some (.inl (cI, 30, .inl (fun _ => 0))) := by rw [eg_1]; exact hs_s _ _ _
  have fr := fr.putN eg_1 z_a1
  refine hw_putF S0 hK hg hS f1_0 rfl inVe tyVe tokVe nmVe 0 (by decide) lf_Ve_9 rfl rfl hnm rfl rfl rfl (Nat.le_of_ble_eq_true rfl) dVe_init_9 (fun H locs hg hS => ?_)
  obtain ⟨g_2, eg_2⟩ : ∃ z, z = hs g_1 r (.inr (6, [.ref a1, .null, .int (nI 0), .null, .null])) := ⟨_, rfl⟩
  have hg : hw D hC AX g_2 H := by rw [eg_2]; exact hg
  have f2_0 : g_2 a1 = some (.inl (cI, 30, .inl (fun _ => 0))) := by rw [eg_2, hs_n _ _ (Ne.symm n_r_a1)]; exact f1_1
  have f2_1 : g_2 r = some (.inr (6, [.ref a1, .null, .int (nI 0), .null, .null])) := by rw [eg_2]; exact hs_s _ _ _
  have fr := fr.put eg_2 (by simp)
  refine lv_aload_n S0.1 S0.2.1 dVe_init_12 rfl (lv_at hl 0 rfl) ?_
  refine lv_sipush (v := nI 1800) S0.1 S0.2.1 dVe_init_13 (by decide) ?_
  refine hw_newa (ty := .int) (a0 := (1800, .inl (fun _ => 0))) S0 hK hg hS hA0 rfl wI_arr 0 rfl (fun C h => by cases h) (fun _ => rfl) (by omega) (by show 1800 * 4 ≤ 536870912; omega) (Nat.le_trans (Nat.le_of_ble_eq_true rfl) hR.2.2.1) (Nat.le_trans (Nat.le_of_ble_eq_true rfl) hR.2.2.2) dVe_init_16 (fun a2 H ha2 hg hS => ?_)
  have n_a1_a2 : a1 ≠ a2 := h_nn f2_0 ha2
  have n_r_a2 : r ≠ a2 := h_nn f2_1 ha2
  have z_a2 : g a2 = none := fr.nn ha2 (h_nm (Ne.symm n_r_a2) h_n0)
  obtain ⟨g_3, eg_3⟩ : ∃ z, z = hs g_2 a2 (.inl (cI, 1800, .inl (fun _ => 0))) := ⟨_, rfl⟩
  have hg : hw D hC AX g_3 H := by rw [eg_3]; exact hg
  have f3_0 : g_3 a1 = some (.inl (cI, 30, .inl (fun _ => 0))) := by rw [eg_3, hs_n _ _ n_a1_a2]; exact f2_0
  have f3_1 : g_3 r = some (.inr (6, [.ref a1, .null, .int (nI 0), .null, .null])) := by rw [eg_3, hs_n _ _ n_r_a2]; exact f2_1
  have f3_2 : g_3 a2 = some (.inl (cI, 1800, .inl (fun _ => 0))) := by rw [eg_3]; exact hs_s _ _ _
  have fr := fr.putN eg_3 z_a2
  refine hw_putF S0 hK hg hS f3_1 rfl inVe tyVe tokVe nmVe 1 (by decide) lf_Ve_15 rfl rfl hnm rfl rfl rfl (Nat.le_of_ble_eq_true rfl) dVe_init_18 (fun H locs hg hS => ?_)
  obtain ⟨g_4, eg_4⟩ : ∃ z, z = hs g_3 r (.inr (6, [.ref a1, .ref a2, .int (nI 0), .null, .null])) := ⟨_, rfl⟩
  have hg : hw D hC AX g_4 H := by rw [eg_4]; exact hg
  have f4_0 : g_4 a1 = some (.inl (cI, 30, .inl (fun _ => 0))) := by rw [eg_4, hs_n _ _ (Ne.symm n_r_a1)]; exact f3_0
  have f4_1 : g_4 a2 = some (.inl (cI, 1800, .inl (fun _ => 0))) := by rw [eg_4, hs_n _ _ (Ne.symm n_r_a2)]; exact f3_2
  have f4_2 : g_4 r = some (.inr (6, [.ref a1, .ref a2, .int (nI 0), .null, .null])) := by rw [eg_4]; exact hs_s _ _ _
  have fr := fr.put eg_4 (by simp)
  refine lv_aload_n S0.1 S0.2.1 dVe_init_21 rfl (lv_at hl 0 rfl) ?_
  refine lv_iconst (v := nI 0) S0.1 S0.2.1 dVe_init_22 (by decide) ?_
  refine hw_put S0 hK hg hS f4_2 rfl inVe tyVe tokVe nmVe 2 (by decide) lf_Ve_18 rfl rfl rfl rfl (Nat.le_of_ble_eq_true rfl) dVe_init_23 (fun H locs hg hS => ?_)
  obtain ⟨g_5, eg_5⟩ : ∃ z, z = hs g_4 r (.inr (6, [.ref a1, .ref a2, .int (nI 0), .null, .null])) := ⟨_, rfl⟩
  have hg : hw D hC AX g_5 H := by rw [eg_5]; exact hg
  have f5_0 : g_5 a1 = some (.inl (cI, 30, .inl (fun _ => 0))) := by rw [eg_5, hs_n _ _ (Ne.symm n_r_a1)]; exact f4_0
  have f5_1 : g_5 a2 = some (.inl (cI, 1800, .inl (fun _ => 0))) := by rw [eg_5, hs_n _ _ (Ne.symm n_r_a2)]; exact f4_1
  have f5_2 : g_5 r = some (.inr (6, [.ref a1, .ref a2, .int (nI 0), .null, .null])) := by rw [eg_5]; exact hs_s _ _ _
  have fr := fr.put eg_5 (by simp)
  refine lv_aload_n S0.1 S0.2.1 dVe_init_26 rfl (lv_at hl 0 rfl) ?_
  refine hw_new (fs := [.null, .int (nI 0)]) S0 hK hg hS hA0 (ci := 5) rfl inRo tyRo tokRo lc_Ve_22 insRo iniRo dflRo (Nat.le_trans (Nat.le_of_ble_eq_true rfl) hR.2.2.1) (Nat.le_trans (Nat.le_of_ble_eq_true rfl) hR.2.2.2) dVe_init_27 (fun a3 H ha3 hg hS => ?_)
  have n_a1_a3 : a1 ≠ a3 := h_nn f5_0 ha3
  have n_a2_a3 : a2 ≠ a3 := h_nn f5_1 ha3
  have n_r_a3 : r ≠ a3 := h_nn f5_2 ha3
  have z_a3 : g a3 = none := fr.nn ha3 (h_nm (Ne.symm n_r_a3) h_n0)
  obtain ⟨g_6, eg_6⟩ : ∃ z, z = hs g_5 a3 (.inr (5, [.null, .int (nI 0)])) := ⟨_, rfl⟩
  have hg : hw D hC AX g_6 H := by rw [eg_6]; exact hg
  have f6_0 : g_6 a1 = some (.inl (cI, 30, .inl (fun _ => 0))) := by rw [eg_6, hs_n _ _ n_a1_a3]; exact f5_0
  have f6_1 : g_6 a2 = some (.inl (cI, 1800, .inl (fun _ => 0))) := by rw [eg_6, hs_n _ _ n_a2_a3]; exact f5_1
  have f6_2 : g_6 r = some (.inr (6, [.ref a1, .ref a2, .int (nI 0), .null, .null])) := by rw [eg_6, hs_n _ _ n_r_a3]; exact f5_2
  have f6_3 : g_6 a3 = some (.inr (5, [.null, .int (nI 0)])) := by rw [eg_6]; exact hs_s _ _ _
  have fr := fr.putN eg_6 z_a3
  refine lv_dup S0.1 S0.2.1 dVe_init_30 rfl ?_
  refine lv_bipush (v := nI 60) S0.1 S0.2.1 dVe_init_31 (by decide) ?_
  refine hw_I (As := [.int (nI 60)]) (rest := [.ref a3, .ref r]) S0 hK hg hS hA0 (c_Ro_init l D cI cR cJ g_6 _ a3 60 (by omega) f6_3) kRo_init lm_Ve_24 (hR.call rfl) rfl hl.1 rfl (Nat.le_of_ble_eq_true rfl) dVe_init_33 (hR.new (by decide) (by decide)) (fun g_7 H locs hp_33 hg hS => ?_)
  obtain ⟨b33_7_0, z33_7_0, frn33_7, s33_7, y33_7_0⟩ := hp_33
  have n_a1_b33_7_0 : a1 ≠ b33_7_0 := h_nn f6_0 z33_7_0
  have n_a2_b33_7_0 : a2 ≠ b33_7_0 := h_nn f6_1 z33_7_0
  have n_r_b33_7_0 : r ≠ b33_7_0 := h_nn f6_2 z33_7_0
  have n_a3_b33_7_0 : a3 ≠ b33_7_0 := h_nn f6_3 z33_7_0
  have k7_0 := frn33_7.at (h_nm n_a1_a3 h_n0) f6_0
  have k7_1 := frn33_7.at (h_nm n_a2_a3 h_n0) f6_1
  have k7_2 := frn33_7.at (h_nm n_r_a3 h_n0) f6_2
  have z_b33_7_0 : g b33_7_0 = none := fr.nn z33_7_0 (h_nm (Ne.symm n_r_b33_7_0) h_n0)
  have fr := fr.call frn33_7 (fun z hz => by rcases List.mem_singleton.mp hz with rfl; exact Or.inr z_a3)
  refine hw_putF S0 hK hg hS k7_2 rfl inVe tyVe tokVe nmVe 3 (by decide) lf_Ve_27 rfl rfl hnm rfl rfl rfl (Nat.le_of_ble_eq_true rfl) dVe_init_36 (fun H locs hg hS => ?_)
  obtain ⟨g_8, eg_8⟩ : ∃ z, z = hs g_7 r (.inr (6, [.ref a1, .ref a2, .int (nI 0), .ref a3, .null])) := ⟨_, rfl⟩
  have hg : hw D hC AX g_8 H := by rw [eg_8]; exact hg
  have f8_0 : g_8 a1 = some (.inl (cI, 30, .inl (fun _ => 0))) := by rw [eg_8, hs_n _ _ (Ne.symm n_r_a1)]; exact k7_0
  have f8_1 : g_8 a2 = some (.inl (cI, 1800, .inl (fun _ => 0))) := by rw [eg_8, hs_n _ _ (Ne.symm n_r_a2)]; exact k7_1
  have f8_2 : g_8 a3 = some (.inr (5, [.ref b33_7_0, .int (nI 0)])) := by rw [eg_8, hs_n _ _ (Ne.symm n_r_a3)]; exact s33_7
  have f8_3 : g_8 b33_7_0 = some (.inl (cI, 60, .inl (fun _ => 0))) := by rw [eg_8, hs_n _ _ (Ne.symm n_r_b33_7_0)]; exact y33_7_0
  have f8_4 : g_8 r = some (.inr (6, [.ref a1, .ref a2, .int (nI 0), .ref a3, .null])) := by rw [eg_8]; exact hs_s _ _ _
  have fr := fr.put eg_8 (by simp)
  refine lv_aload_n S0.1 S0.2.1 dVe_init_39 rfl (lv_at hl 0 rfl) ?_
  refine lv_aload_n S0.1 S0.2.1 dVe_init_40 rfl (lv_at hl 1 rfl) ?_
  refine hw_putF S0 hK hg hS f8_4 rfl inVe tyVe tokVe nmVe 4 (by decide) lf_Ve_31 rfl rfl hnm rfl rfl rfl (Nat.le_of_ble_eq_true rfl) dVe_init_41 (fun H locs hg hS => ?_)
  obtain ⟨g_9, eg_9⟩ : ∃ z, z = hs g_8 r (.inr (6, [.ref a1, .ref a2, .int (nI 0), .ref a3, .ref cm])) := ⟨_, rfl⟩
  have hg : hw D hC AX g_9 H := by rw [eg_9]; exact hg
  have f9_0 : g_9 a1 = some (.inl (cI, 30, .inl (fun _ => 0))) := by rw [eg_9, hs_n _ _ (Ne.symm n_r_a1)]; exact f8_0
  have f9_1 : g_9 a2 = some (.inl (cI, 1800, .inl (fun _ => 0))) := by rw [eg_9, hs_n _ _ (Ne.symm n_r_a2)]; exact f8_1
  have f9_2 : g_9 a3 = some (.inr (5, [.ref b33_7_0, .int (nI 0)])) := by rw [eg_9, hs_n _ _ (Ne.symm n_r_a3)]; exact f8_2
  have f9_3 : g_9 b33_7_0 = some (.inl (cI, 60, .inl (fun _ => 0))) := by rw [eg_9, hs_n _ _ (Ne.symm n_r_b33_7_0)]; exact f8_3
  have f9_4 : g_9 r = some (.inr (6, [.ref a1, .ref a2, .int (nI 0), .ref a3, .ref cm])) := by rw [eg_9]; exact hs_s _ _ _
  have fr := fr.put eg_9 (by simp)
  exact hend _ _ _ _ _ _ _ (by decide) (by decide) (⟨a1, a2, a3, b33_7_0, z_a1, z_a2, z_a3, z_b33_7_0, fr, f9_4, f9_0, f9_1, f9_2, f9_3, n_a1_a2, n_a1_b33_7_0, n_a2_b33_7_0⟩) hg hS dVe_init_44
set_option maxRecDepth 100000 in
set_option maxHeartbeats 4000000 in
theorem c_Mg_init (l : Launch) (D : va_G) (cI cR cJ : ClassId) (g : Nat → Option va_E) (sz : Nat) (r c1 c2 : Nat) (h0 : g r = some (.inr (2, [.null, .null, .int (nI 0), .null, .null, .null, .null, .null]))) : hMv l yMg_init cMg_init 3 (hRm 3 80 12 320) D (hT cI cR cJ) g sz [.ref r, .ref c1, .ref c2] (fun g1 => ∃ ro lo cc p1 p2 p3, g ro = none ∧ g lo = none ∧ g cc = none ∧ g p1 = none ∧ g p2 = none ∧ g p3 = none ∧ hfn g g1 [r] ∧ g1 r = some (.inr (2, [.ref ro, .ref cc, .int (nI 0), .ref c1, .ref c2, .ref p1, .ref p2, .ref p3])) ∧ g1 ro = some (.inr (5, [.ref lo, .int (nI 0)])) ∧ g1 lo = some (.inl (cI, 120, .inl (fun _ => 0))) ∧ g1 cc = some (.inl (cI, 183, .inl (fun _ => 0))) ∧ ∃ w1 w2 w3, g1 p1 = some (.inr (3, [.ref w1, .int (nI 0), .int (nI 0)])) ∧ g1 p2 = some (.inr (3, [.ref w2, .int (nI 0), .int (nI 0)])) ∧ g1 p3 = some (.inr (3, [.ref w3, .int (nI 0), .int (nI 0)])) ∧ lo ≠ cc ∧ p1 ≠ p2 ∧ p1 ≠ p3 ∧ p2 ≠ p3) := by
  refine hMv_of (by decide +kernel) (Nat.le_of_ble_eq_true rfl) ?_
  intro pX eX RX sX mX argsX belowX methX cX QX AX hR S0 hnm hsz hg hK hS hA0 hend ls hl
  have hl : lv_has ls 3 [(0, .ref r), (1, .ref c1), (2, .ref c2)] := hl
  have fr : hfn g g [r] := hfn.rf
  refine lv_aload_n S0.1 S0.2.1 dMg_init_0 rfl (lv_at hl 0 rfl) ?_
  refine hw_objInit S0 hR hl.1 lm_Mg_3 rfl dMg_init_1 ?_
  refine lv_aload_n S0.1 S0.2.1 dMg_init_4 rfl (lv_at hl 0 rfl) ?_
  refine hw_new (fs := [.null, .int (nI 0)]) S0 hK hg hS hA0 (ci := 5) rfl inRo tyRo tokRo lc_Mg_9 insRo iniRo dflRo (Nat.le_trans (Nat.le_of_ble_eq_true rfl) hR.2.2.1) (Nat.le_trans (Nat.le_of_ble_eq_true rfl) hR.2.2.2) dMg_init_5 (fun a1 H ha1 hg hS => ?_)
  have n_r_a1 : r ≠ a1 := h_nn h0 ha1
  have z_a1 : g a1 = none := fr.nn ha1 (h_nm (Ne.symm n_r_a1) h_n0)
  obtain ⟨g_1, eg_1⟩ : ∃ z, z = hs g a1 (.inr (5, [.null, .int (nI 0)])) := ⟨_, rfl⟩
  have hg : hw D hC AX g_1 H := by rw [eg_1]; exact hg
  have f1_0 : g_1 r = some (.inr (2, [.null, .null, .int (nI 0), .null, .null, .null, .null, .null])) := by rw [eg_1, hs_n _ _ n_r_a1]; exact h0
  have f1_1 : g_1 a1 = some (.inr (5, [.null, .int (nI 0)])) := by rw [eg_1]; exact hs_s _ _ _
  have fr := fr.putN eg_1 z_a1
  refine lv_dup S0.1 S0.2.1 dMg_init_8 rfl ?_
  refine lv_bipush (v := nI 120) S0.1 S0.2.1 dMg_init_9 (by decide) ?_
  refine hw_I (As := [.int (nI 120)]) (rest := [.ref a1, .ref r]) S0 hK hg hS hA0 (c_Ro_init l D cI cR cJ g_1 _ a1 120 (by omega) f1_1) kRo_init lm_Mg_11 (hR.call rfl) rfl hl.1 rfl (Nat.le_of_ble_eq_true rfl) dMg_init_11 (hR.new (by decide) (by decide)) (fun g_2 H locs hp_11 hg hS => ?_)
  obtain ⟨b11_2_0, z11_2_0, frn11_2, s11_2, y11_2_0⟩ := hp_11
  have n_r_b11_2_0 : r ≠ b11_2_0 := h_nn f1_0 z11_2_0
  have n_a1_b11_2_0 : a1 ≠ b11_2_0 := h_nn f1_1 z11_2_0
  have k2_0 := frn11_2.at (h_nm n_r_a1 h_n0) f1_0
  have z_b11_2_0 : g b11_2_0 = none := fr.nn z11_2_0 (h_nm (Ne.symm n_r_b11_2_0) h_n0)
  have fr := fr.call frn11_2 (fun z hz => by rcases List.mem_singleton.mp hz with rfl; exact Or.inr z_a1)
  refine hw_putF S0 hK hg hS k2_0 rfl inMg tyMg tokMg nmMg 0 (by decide) lf_Mg_14 rfl rfl hnm rfl rfl rfl (Nat.le_of_ble_eq_true rfl) dMg_init_14 (fun H locs hg hS => ?_)
  obtain ⟨g_3, eg_3⟩ : ∃ z, z = hs g_2 r (.inr (2, [.ref a1, .null, .int (nI 0), .null, .null, .null, .null, .null])) := ⟨_, rfl⟩
  have hg : hw D hC AX g_3 H := by rw [eg_3]; exact hg
  have f3_0 : g_3 a1 = some (.inr (5, [.ref b11_2_0, .int (nI 0)])) := by rw [eg_3, hs_n _ _ (Ne.symm n_r_a1)]; exact s11_2
  have f3_1 : g_3 b11_2_0 = some (.inl (cI, 120, .inl (fun _ => 0))) := by rw [eg_3, hs_n _ _ (Ne.symm n_r_b11_2_0)]; exact y11_2_0
  have f3_2 : g_3 r = some (.inr (2, [.ref a1, .null, .int (nI 0), .null, .null, .null, .null, .null])) := by rw [eg_3]; exact hs_s _ _ _
  have fr := fr.put eg_3 (by simp)
  refine lv_aload_n S0.1 S0.2.1 dMg_init_17 rfl (lv_at hl 0 rfl) ?_
  refine lv_sipush (v := nI 183) S0.1 S0.2.1 dMg_init_18 (by decide) ?_
  refine hw_newa (ty := .int) (a0 := (183, .inl (fun _ => 0))) S0 hK hg hS hA0 rfl wI_arr 0 rfl (fun C h => by cases h) (fun _ => rfl) (by omega) (by show 183 * 4 ≤ 536870912; omega) (Nat.le_trans (Nat.le_of_ble_eq_true rfl) hR.2.2.1) (Nat.le_trans (Nat.le_of_ble_eq_true rfl) hR.2.2.2) dMg_init_21 (fun a2 H ha2 hg hS => ?_)
  have n_a1_a2 : a1 ≠ a2 := h_nn f3_0 ha2
  have n_b11_2_0_a2 : b11_2_0 ≠ a2 := h_nn f3_1 ha2
  have n_r_a2 : r ≠ a2 := h_nn f3_2 ha2
  have z_a2 : g a2 = none := fr.nn ha2 (h_nm (Ne.symm n_r_a2) h_n0)
  obtain ⟨g_4, eg_4⟩ : ∃ z, z = hs g_3 a2 (.inl (cI, 183, .inl (fun _ => 0))) := ⟨_, rfl⟩
  have hg : hw D hC AX g_4 H := by rw [eg_4]; exact hg
  have f4_0 : g_4 a1 = some (.inr (5, [.ref b11_2_0, .int (nI 0)])) := by rw [eg_4, hs_n _ _ n_a1_a2]; exact f3_0
  have f4_1 : g_4 b11_2_0 = some (.inl (cI, 120, .inl (fun _ => 0))) := by rw [eg_4, hs_n _ _ n_b11_2_0_a2]; exact f3_1
  have f4_2 : g_4 r = some (.inr (2, [.ref a1, .null, .int (nI 0), .null, .null, .null, .null, .null])) := by rw [eg_4, hs_n _ _ n_r_a2]; exact f3_2
  have f4_3 : g_4 a2 = some (.inl (cI, 183, .inl (fun _ => 0))) := by rw [eg_4]; exact hs_s _ _ _
  have fr := fr.putN eg_4 z_a2
  refine hw_putF S0 hK hg hS f4_2 rfl inMg tyMg tokMg nmMg 1 (by decide) lf_Mg_20 rfl rfl hnm rfl rfl rfl (Nat.le_of_ble_eq_true rfl) dMg_init_23 (fun H locs hg hS => ?_)
  obtain ⟨g_5, eg_5⟩ : ∃ z, z = hs g_4 r (.inr (2, [.ref a1, .ref a2, .int (nI 0), .null, .null, .null, .null, .null])) := ⟨_, rfl⟩
  have hg : hw D hC AX g_5 H := by rw [eg_5]; exact hg
  have f5_0 : g_5 a1 = some (.inr (5, [.ref b11_2_0, .int (nI 0)])) := by rw [eg_5, hs_n _ _ (Ne.symm n_r_a1)]; exact f4_0
  have f5_1 : g_5 b11_2_0 = some (.inl (cI, 120, .inl (fun _ => 0))) := by rw [eg_5, hs_n _ _ (Ne.symm n_r_b11_2_0)]; exact f4_1
  have f5_2 : g_5 a2 = some (.inl (cI, 183, .inl (fun _ => 0))) := by rw [eg_5, hs_n _ _ (Ne.symm n_r_a2)]; exact f4_3
  have f5_3 : g_5 r = some (.inr (2, [.ref a1, .ref a2, .int (nI 0), .null, .null, .null, .null, .null])) := by rw [eg_5]; exact hs_s _ _ _
  have fr := fr.put eg_5 (by simp)
  refine lv_aload_n S0.1 S0.2.1 dMg_init_26 rfl (lv_at hl 0 rfl) ?_
  refine lv_iconst (v := nI 0) S0.1 S0.2.1 dMg_init_27 (by decide) ?_
  refine hw_put S0 hK hg hS f5_3 rfl inMg tyMg tokMg nmMg 2 (by decide) lf_Mg_24 rfl rfl rfl rfl (Nat.le_of_ble_eq_true rfl) dMg_init_28 (fun H locs hg hS => ?_)
  obtain ⟨g_6, eg_6⟩ : ∃ z, z = hs g_5 r (.inr (2, [.ref a1, .ref a2, .int (nI 0), .null, .null, .null, .null, .null])) := ⟨_, rfl⟩
  have hg : hw D hC AX g_6 H := by rw [eg_6]; exact hg
  have f6_0 : g_6 a1 = some (.inr (5, [.ref b11_2_0, .int (nI 0)])) := by rw [eg_6, hs_n _ _ (Ne.symm n_r_a1)]; exact f5_0
  have f6_1 : g_6 b11_2_0 = some (.inl (cI, 120, .inl (fun _ => 0))) := by rw [eg_6, hs_n _ _ (Ne.symm n_r_b11_2_0)]; exact f5_1
  have f6_2 : g_6 a2 = some (.inl (cI, 183, .inl (fun _ => 0))) := by rw [eg_6, hs_n _ _ (Ne.symm n_r_a2)]; exact f5_2
  have f6_3 : g_6 r = some (.inr (2, [.ref a1, .ref a2, .int (nI 0), .null, .null, .null, .null, .null])) := by rw [eg_6]; exact hs_s _ _ _
  have fr := fr.put eg_6 (by simp)
  refine lv_aload_n S0.1 S0.2.1 dMg_init_31 rfl (lv_at hl 0 rfl) ?_
  refine lv_aload_n S0.1 S0.2.1 dMg_init_32 rfl (lv_at hl 1 rfl) ?_
  refine hw_putF S0 hK hg hS f6_3 rfl inMg tyMg tokMg nmMg 3 (by decide) lf_Mg_28 rfl rfl hnm rfl rfl rfl (Nat.le_of_ble_eq_true rfl) dMg_init_33 (fun H locs hg hS => ?_)
  obtain ⟨g_7, eg_7⟩ : ∃ z, z = hs g_6 r (.inr (2, [.ref a1, .ref a2, .int (nI 0), .ref c1, .null, .null, .null, .null])) := ⟨_, rfl⟩
  have hg : hw D hC AX g_7 H := by rw [eg_7]; exact hg
  have f7_0 : g_7 a1 = some (.inr (5, [.ref b11_2_0, .int (nI 0)])) := by rw [eg_7, hs_n _ _ (Ne.symm n_r_a1)]; exact f6_0
  have f7_1 : g_7 b11_2_0 = some (.inl (cI, 120, .inl (fun _ => 0))) := by rw [eg_7, hs_n _ _ (Ne.symm n_r_b11_2_0)]; exact f6_1
  have f7_2 : g_7 a2 = some (.inl (cI, 183, .inl (fun _ => 0))) := by rw [eg_7, hs_n _ _ (Ne.symm n_r_a2)]; exact f6_2
  have f7_3 : g_7 r = some (.inr (2, [.ref a1, .ref a2, .int (nI 0), .ref c1, .null, .null, .null, .null])) := by rw [eg_7]; exact hs_s _ _ _
  have fr := fr.put eg_7 (by simp)
  refine lv_aload_n S0.1 S0.2.1 dMg_init_36 rfl (lv_at hl 0 rfl) ?_
  refine lv_aload_n S0.1 S0.2.1 dMg_init_37 rfl (lv_at hl 2 rfl) ?_
  refine hw_putF S0 hK hg hS f7_3 rfl inMg tyMg tokMg nmMg 4 (by decide) lf_Mg_32 rfl rfl hnm rfl rfl rfl (Nat.le_of_ble_eq_true rfl) dMg_init_38 (fun H locs hg hS => ?_)
  obtain ⟨g_8, eg_8⟩ : ∃ z, z = hs g_7 r (.inr (2, [.ref a1, .ref a2, .int (nI 0), .ref c1, .ref c2, .null, .null, .null])) := ⟨_, rfl⟩
  have hg : hw D hC AX g_8 H := by rw [eg_8]; exact hg
  have f8_0 : g_8 a1 = some (.inr (5, [.ref b11_2_0, .int (nI 0)])) := by rw [eg_8, hs_n _ _ (Ne.symm n_r_a1)]; exact f7_0
  have f8_1 : g_8 b11_2_0 = some (.inl (cI, 120, .inl (fun _ => 0))) := by rw [eg_8, hs_n _ _ (Ne.symm n_r_b11_2_0)]; exact f7_1
  have f8_2 : g_8 a2 = some (.inl (cI, 183, .inl (fun _ => 0))) := by rw [eg_8, hs_n _ _ (Ne.symm n_r_a2)]; exact f7_2
  have f8_3 : g_8 r = some (.inr (2, [.ref a1, .ref a2, .int (nI 0), .ref c1, .ref c2, .null, .null, .null])) := by rw [eg_8]; exact hs_s _ _ _
  have fr := fr.put eg_8 (by simp)
  refine lv_aload_n S0.1 S0.2.1 dMg_init_41 rfl (lv_at hl 0 rfl) ?_
  refine hw_new (fs := [.null, .int (nI 0), .int (nI 0)]) S0 hK hg hS hA0 (ci := 3) rfl inPa tyPa tokPa lc_Mg_35 insPa iniPa dflPa (Nat.le_trans (Nat.le_of_ble_eq_true rfl) hR.2.2.1) (Nat.le_trans (Nat.le_of_ble_eq_true rfl) hR.2.2.2) dMg_init_42 (fun a3 H ha3 hg hS => ?_)
  have n_a1_a3 : a1 ≠ a3 := h_nn f8_0 ha3
  have n_b11_2_0_a3 : b11_2_0 ≠ a3 := h_nn f8_1 ha3
  have n_a2_a3 : a2 ≠ a3 := h_nn f8_2 ha3
  have n_r_a3 : r ≠ a3 := h_nn f8_3 ha3
  have z_a3 : g a3 = none := fr.nn ha3 (h_nm (Ne.symm n_r_a3) h_n0)
  obtain ⟨g_9, eg_9⟩ : ∃ z, z = hs g_8 a3 (.inr (3, [.null, .int (nI 0), .int (nI 0)])) := ⟨_, rfl⟩
  have hg : hw D hC AX g_9 H := by rw [eg_9]; exact hg
  have f9_0 : g_9 a1 = some (.inr (5, [.ref b11_2_0, .int (nI 0)])) := by rw [eg_9, hs_n _ _ n_a1_a3]; exact f8_0
  have f9_1 : g_9 b11_2_0 = some (.inl (cI, 120, .inl (fun _ => 0))) := by rw [eg_9, hs_n _ _ n_b11_2_0_a3]; exact f8_1
  have f9_2 : g_9 a2 = some (.inl (cI, 183, .inl (fun _ => 0))) := by rw [eg_9, hs_n _ _ n_a2_a3]; exact f8_2
  have f9_3 : g_9 r = some (.inr (2, [.ref a1, .ref a2, .int (nI 0), .ref c1, .ref c2, .null, .null, .null])) := by rw [eg_9, hs_n _ _ n_r_a3]; exact f8_3
  have f9_4 : g_9 a3 = some (.inr (3, [.null, .int (nI 0), .int (nI 0)])) := by rw [eg_9]; exact hs_s _ _ _
  have fr := fr.putN eg_9 z_a3
  refine lv_dup S0.1 S0.2.1 dMg_init_45 rfl ?_
  refine hw_I (As := []) (rest := [.ref a3, .ref r]) S0 hK hg hS hA0 (c_Pa_init l D cI cR cJ g_9 _ a3 f9_4) kPa_init lm_Mg_37 (hR.call rfl) rfl hl.1 rfl (Nat.le_of_ble_eq_true rfl) dMg_init_46 (hR.new (by decide) (by decide)) (fun g_10 H locs hp_46 hg hS => ?_)
  obtain ⟨frn46_10, w46_10, s46_10⟩ := hp_46
  have k10_0 := frn46_10.at (h_nm n_a1_a3 h_n0) f9_0
  have k10_1 := frn46_10.at (h_nm n_b11_2_0_a3 h_n0) f9_1
  have k10_2 := frn46_10.at (h_nm n_a2_a3 h_n0) f9_2
  have k10_3 := frn46_10.at (h_nm n_r_a3 h_n0) f9_3
  have fr := fr.call frn46_10 (fun z hz => by rcases List.mem_singleton.mp hz with rfl; exact Or.inr z_a3)
  refine hw_putF S0 hK hg hS k10_3 rfl inMg tyMg tokMg nmMg 5 (by decide) lf_Mg_38 rfl rfl hnm rfl rfl rfl (Nat.le_of_ble_eq_true rfl) dMg_init_49 (fun H locs hg hS => ?_)
  obtain ⟨g_11, eg_11⟩ : ∃ z, z = hs g_10 r (.inr (2, [.ref a1, .ref a2, .int (nI 0), .ref c1, .ref c2, .ref a3, .null, .null])) := ⟨_, rfl⟩
  have hg : hw D hC AX g_11 H := by rw [eg_11]; exact hg
  have f11_0 : g_11 a1 = some (.inr (5, [.ref b11_2_0, .int (nI 0)])) := by rw [eg_11, hs_n _ _ (Ne.symm n_r_a1)]; exact k10_0
  have f11_1 : g_11 b11_2_0 = some (.inl (cI, 120, .inl (fun _ => 0))) := by rw [eg_11, hs_n _ _ (Ne.symm n_r_b11_2_0)]; exact k10_1
  have f11_2 : g_11 a2 = some (.inl (cI, 183, .inl (fun _ => 0))) := by rw [eg_11, hs_n _ _ (Ne.symm n_r_a2)]; exact k10_2
  have f11_3 : g_11 a3 = some (.inr (3, [.ref w46_10, .int (nI 0), .int (nI 0)])) := by rw [eg_11, hs_n _ _ (Ne.symm n_r_a3)]; exact s46_10
  have f11_4 : g_11 r = some (.inr (2, [.ref a1, .ref a2, .int (nI 0), .ref c1, .ref c2, .ref a3, .null, .null])) := by rw [eg_11]; exact hs_s _ _ _
  have fr := fr.put eg_11 (by simp)
  refine lv_aload_n S0.1 S0.2.1 dMg_init_52 rfl (lv_at hl 0 rfl) ?_
  refine hw_new (fs := [.null, .int (nI 0), .int (nI 0)]) S0 hK hg hS hA0 (ci := 3) rfl inPa tyPa tokPa lc_Mg_35 insPa iniPa dflPa (Nat.le_trans (Nat.le_of_ble_eq_true rfl) hR.2.2.1) (Nat.le_trans (Nat.le_of_ble_eq_true rfl) hR.2.2.2) dMg_init_53 (fun a4 H ha4 hg hS => ?_)
  have n_a1_a4 : a1 ≠ a4 := h_nn f11_0 ha4
  have n_b11_2_0_a4 : b11_2_0 ≠ a4 := h_nn f11_1 ha4
  have n_a2_a4 : a2 ≠ a4 := h_nn f11_2 ha4
  have n_a3_a4 : a3 ≠ a4 := h_nn f11_3 ha4
  have n_r_a4 : r ≠ a4 := h_nn f11_4 ha4
  have z_a4 : g a4 = none := fr.nn ha4 (h_nm (Ne.symm n_r_a4) h_n0)
  obtain ⟨g_12, eg_12⟩ : ∃ z, z = hs g_11 a4 (.inr (3, [.null, .int (nI 0), .int (nI 0)])) := ⟨_, rfl⟩
  have hg : hw D hC AX g_12 H := by rw [eg_12]; exact hg
  have f12_0 : g_12 a1 = some (.inr (5, [.ref b11_2_0, .int (nI 0)])) := by rw [eg_12, hs_n _ _ n_a1_a4]; exact f11_0
  have f12_1 : g_12 b11_2_0 = some (.inl (cI, 120, .inl (fun _ => 0))) := by rw [eg_12, hs_n _ _ n_b11_2_0_a4]; exact f11_1
  have f12_2 : g_12 a2 = some (.inl (cI, 183, .inl (fun _ => 0))) := by rw [eg_12, hs_n _ _ n_a2_a4]; exact f11_2
  have f12_3 : g_12 a3 = some (.inr (3, [.ref w46_10, .int (nI 0), .int (nI 0)])) := by rw [eg_12, hs_n _ _ n_a3_a4]; exact f11_3
  have f12_4 : g_12 r = some (.inr (2, [.ref a1, .ref a2, .int (nI 0), .ref c1, .ref c2, .ref a3, .null, .null])) := by rw [eg_12, hs_n _ _ n_r_a4]; exact f11_4
  have f12_5 : g_12 a4 = some (.inr (3, [.null, .int (nI 0), .int (nI 0)])) := by rw [eg_12]; exact hs_s _ _ _
  have fr := fr.putN eg_12 z_a4
  refine lv_dup S0.1 S0.2.1 dMg_init_56 rfl ?_
  refine hw_I (As := []) (rest := [.ref a4, .ref r]) S0 hK hg hS hA0 (c_Pa_init l D cI cR cJ g_12 _ a4 f12_5) kPa_init lm_Mg_37 (hR.call rfl) rfl hl.1 rfl (Nat.le_of_ble_eq_true rfl) dMg_init_57 (hR.new (by decide) (by decide)) (fun g_13 H locs hp_57 hg hS => ?_)
  obtain ⟨frn57_13, w57_13, s57_13⟩ := hp_57
  have k13_0 := frn57_13.at (h_nm n_a1_a4 h_n0) f12_0
  have k13_1 := frn57_13.at (h_nm n_b11_2_0_a4 h_n0) f12_1
  have k13_2 := frn57_13.at (h_nm n_a2_a4 h_n0) f12_2
  have k13_3 := frn57_13.at (h_nm n_a3_a4 h_n0) f12_3
  have k13_4 := frn57_13.at (h_nm n_r_a4 h_n0) f12_4
  have fr := fr.call frn57_13 (fun z hz => by rcases List.mem_singleton.mp hz with rfl; exact Or.inr z_a4)
  refine hw_putF S0 hK hg hS k13_4 rfl inMg tyMg tokMg nmMg 6 (by decide) lf_Mg_42 rfl rfl hnm rfl rfl rfl (Nat.le_of_ble_eq_true rfl) dMg_init_60 (fun H locs hg hS => ?_)
  obtain ⟨g_14, eg_14⟩ : ∃ z, z = hs g_13 r (.inr (2, [.ref a1, .ref a2, .int (nI 0), .ref c1, .ref c2, .ref a3, .ref a4, .null])) := ⟨_, rfl⟩
  have hg : hw D hC AX g_14 H := by rw [eg_14]; exact hg
  have f14_0 : g_14 a1 = some (.inr (5, [.ref b11_2_0, .int (nI 0)])) := by rw [eg_14, hs_n _ _ (Ne.symm n_r_a1)]; exact k13_0
  have f14_1 : g_14 b11_2_0 = some (.inl (cI, 120, .inl (fun _ => 0))) := by rw [eg_14, hs_n _ _ (Ne.symm n_r_b11_2_0)]; exact k13_1
  have f14_2 : g_14 a2 = some (.inl (cI, 183, .inl (fun _ => 0))) := by rw [eg_14, hs_n _ _ (Ne.symm n_r_a2)]; exact k13_2
  have f14_3 : g_14 a3 = some (.inr (3, [.ref w46_10, .int (nI 0), .int (nI 0)])) := by rw [eg_14, hs_n _ _ (Ne.symm n_r_a3)]; exact k13_3
  have f14_4 : g_14 a4 = some (.inr (3, [.ref w57_13, .int (nI 0), .int (nI 0)])) := by rw [eg_14, hs_n _ _ (Ne.symm n_r_a4)]; exact s57_13
  have f14_5 : g_14 r = some (.inr (2, [.ref a1, .ref a2, .int (nI 0), .ref c1, .ref c2, .ref a3, .ref a4, .null])) := by rw [eg_14]; exact hs_s _ _ _
  have fr := fr.put eg_14 (by simp)
  refine lv_aload_n S0.1 S0.2.1 dMg_init_63 rfl (lv_at hl 0 rfl) ?_
  refine hw_new (fs := [.null, .int (nI 0), .int (nI 0)]) S0 hK hg hS hA0 (ci := 3) rfl inPa tyPa tokPa lc_Mg_35 insPa iniPa dflPa (Nat.le_trans (Nat.le_of_ble_eq_true rfl) hR.2.2.1) (Nat.le_trans (Nat.le_of_ble_eq_true rfl) hR.2.2.2) dMg_init_64 (fun a5 H ha5 hg hS => ?_)
  have n_a1_a5 : a1 ≠ a5 := h_nn f14_0 ha5
  have n_b11_2_0_a5 : b11_2_0 ≠ a5 := h_nn f14_1 ha5
  have n_a2_a5 : a2 ≠ a5 := h_nn f14_2 ha5
  have n_a3_a5 : a3 ≠ a5 := h_nn f14_3 ha5
  have n_a4_a5 : a4 ≠ a5 := h_nn f14_4 ha5
  have n_r_a5 : r ≠ a5 := h_nn f14_5 ha5
  have z_a5 : g a5 = none := fr.nn ha5 (h_nm (Ne.symm n_r_a5) h_n0)
  obtain ⟨g_15, eg_15⟩ : ∃ z, z = hs g_14 a5 (.inr (3, [.null, .int (nI 0), .int (nI 0)])) := ⟨_, rfl⟩
  have hg : hw D hC AX g_15 H := by rw [eg_15]; exact hg
  have f15_0 : g_15 a1 = some (.inr (5, [.ref b11_2_0, .int (nI 0)])) := by rw [eg_15, hs_n _ _ n_a1_a5]; exact f14_0
  have f15_1 : g_15 b11_2_0 = some (.inl (cI, 120, .inl (fun _ => 0))) := by rw [eg_15, hs_n _ _ n_b11_2_0_a5]; exact f14_1
  have f15_2 : g_15 a2 = some (.inl (cI, 183, .inl (fun _ => 0))) := by rw [eg_15, hs_n _ _ n_a2_a5]; exact f14_2
  have f15_3 : g_15 a3 = some (.inr (3, [.ref w46_10, .int (nI 0), .int (nI 0)])) := by rw [eg_15, hs_n _ _ n_a3_a5]; exact f14_3
  have f15_4 : g_15 a4 = some (.inr (3, [.ref w57_13, .int (nI 0), .int (nI 0)])) := by rw [eg_15, hs_n _ _ n_a4_a5]; exact f14_4
  have f15_5 : g_15 r = some (.inr (2, [.ref a1, .ref a2, .int (nI 0), .ref c1, .ref c2, .ref a3, .ref a4, .null])) := by rw [eg_15, hs_n _ _ n_r_a5]; exact f14_5
  have f15_6 : g_15 a5 = some (.inr (3, [.null, .int (nI 0), .int (nI 0)])) := by rw [eg_15]; exact hs_s _ _ _
  have fr := fr.putN eg_15 z_a5
  refine lv_dup S0.1 S0.2.1 dMg_init_67 rfl ?_
  refine hw_I (As := []) (rest := [.ref a5, .ref r]) S0 hK hg hS hA0 (c_Pa_init l D cI cR cJ g_15 _ a5 f15_6) kPa_init lm_Mg_37 (hR.call rfl) rfl hl.1 rfl (Nat.le_of_ble_eq_true rfl) dMg_init_68 (hR.new (by decide) (by decide)) (fun g_16 H locs hp_68 hg hS => ?_)
  obtain ⟨frn68_16, w68_16, s68_16⟩ := hp_68
  have k16_0 := frn68_16.at (h_nm n_a1_a5 h_n0) f15_0
  have k16_1 := frn68_16.at (h_nm n_b11_2_0_a5 h_n0) f15_1
  have k16_2 := frn68_16.at (h_nm n_a2_a5 h_n0) f15_2
  have k16_3 := frn68_16.at (h_nm n_a3_a5 h_n0) f15_3
  have k16_4 := frn68_16.at (h_nm n_a4_a5 h_n0) f15_4
  have k16_5 := frn68_16.at (h_nm n_r_a5 h_n0) f15_5
  have fr := fr.call frn68_16 (fun z hz => by rcases List.mem_singleton.mp hz with rfl; exact Or.inr z_a5)
  refine hw_putF S0 hK hg hS k16_5 rfl inMg tyMg tokMg nmMg 7 (by decide) lf_Mg_45 rfl rfl hnm rfl rfl rfl (Nat.le_of_ble_eq_true rfl) dMg_init_71 (fun H locs hg hS => ?_)
  obtain ⟨g_17, eg_17⟩ : ∃ z, z = hs g_16 r (.inr (2, [.ref a1, .ref a2, .int (nI 0), .ref c1, .ref c2, .ref a3, .ref a4, .ref a5])) := ⟨_, rfl⟩
  have hg : hw D hC AX g_17 H := by rw [eg_17]; exact hg
  have f17_0 : g_17 a1 = some (.inr (5, [.ref b11_2_0, .int (nI 0)])) := by rw [eg_17, hs_n _ _ (Ne.symm n_r_a1)]; exact k16_0
  have f17_1 : g_17 b11_2_0 = some (.inl (cI, 120, .inl (fun _ => 0))) := by rw [eg_17, hs_n _ _ (Ne.symm n_r_b11_2_0)]; exact k16_1
  have f17_2 : g_17 a2 = some (.inl (cI, 183, .inl (fun _ => 0))) := by rw [eg_17, hs_n _ _ (Ne.symm n_r_a2)]; exact k16_2
  have f17_3 : g_17 a3 = some (.inr (3, [.ref w46_10, .int (nI 0), .int (nI 0)])) := by rw [eg_17, hs_n _ _ (Ne.symm n_r_a3)]; exact k16_3
  have f17_4 : g_17 a4 = some (.inr (3, [.ref w57_13, .int (nI 0), .int (nI 0)])) := by rw [eg_17, hs_n _ _ (Ne.symm n_r_a4)]; exact k16_4
  have f17_5 : g_17 a5 = some (.inr (3, [.ref w68_16, .int (nI 0), .int (nI 0)])) := by rw [eg_17, hs_n _ _ (Ne.symm n_r_a5)]; exact s68_16
  have f17_6 : g_17 r = some (.inr (2, [.ref a1, .ref a2, .int (nI 0), .ref c1, .ref c2, .ref a3, .ref a4, .ref a5])) := by rw [eg_17]; exact hs_s _ _ _
  have fr := fr.put eg_17 (by simp)
  exact hend _ _ _ _ _ _ _ (by decide) (by decide) (⟨a1, b11_2_0, a2, a3, a4, a5, z_a1, z_b11_2_0, z_a2, z_a3, z_a4, z_a5, fr, f17_6, f17_0, f17_1, f17_2, _, _, _, f17_3, f17_4, f17_5, n_b11_2_0_a2, n_a3_a4, n_a3_a5, n_a4_a5⟩) hg hS dMg_init_74
