/-! PATCHING -/
def oI (o : Option Nat) : Int32 := match o with
  | none => -1
  | some p => nI p
theorem ln_of {a c : List Int32} {fa fc : Nat → Int32} {bg p k : Nat} (ea : rp fa a) (ec : rp fc c) (hk : k < a.length) (hc : c.length ≤ 60) (hp : p + k < 500) (hb : bg < 500) (h : ∃ q : Nat, q < c.length ∧ nI (p + k) - nI bg = nI q ∧ fc q = fa k) : lnB a bg c p k := by
  obtain ⟨q, h1, h2, h3⟩ := h
  have e := (nI_subeq (by omega) (by omega) (by omega)).mp h2
  refine ⟨by omega, by omega, ?_⟩
  rw [show p + k - bg = q by omega, ← ec q h1, h3, ea k hk]
theorem ln_not {a c : List Int32} {fa fc : Nat → Int32} {bg p k : Nat} (ea : rp fa a) (ec : rp fc c) (hk : k < a.length) (hc : c.length ≤ 60) (hp : p + k < 500) (hb : bg < 500) (h : ¬ ∃ q : Nat, q < c.length ∧ nI (p + k) - nI bg = nI q ∧ fc q = fa k) : ¬ lnB a bg c p k := by
  rintro ⟨h1, h2, h3⟩
  exact h ⟨p + k - bg, h2, (nI_subeq (by omega) (by omega) (by omega)).mpr (by omega), by rw [ec _ h2, h3, ea k hk]⟩
set_option maxRecDepth 100000 in
set_option maxHeartbeats 4000000 in
theorem c_Pg_fits (l : Launch) (D : va_G) (cI cR cJ : ClassId) (g : Nat → Option va_E) (sz : Nat) (ra la ca rc lc cc : Nat) (a c : List Int32) (fa fc : Nat → Int32) (h0 : g ra = some (.inr (5, [.ref la, .int (nI a.length)]))) (h1 : g la = some (.inl (cI, ca, .inl fa))) (h2 : g rc = some (.inr (5, [.ref lc, .int (nI c.length)]))) (h3 : g lc = some (.inl (cI, cc, .inl fc))) (ea : rp fa a) (ec : rp fc c) (hna : a.length ≤ 60) (hnc : c.length ≤ 60) (hca : a.length ≤ ca) (hcc : c.length ≤ cc) (hca4 : ca < 4000) (hcc4 : cc < 4000) (bg ln p : Nat) (hp : p + ln ≤ c.length) (hb : bg + ln ≤ a.length) : hMi l yPg_fits cPg_fits 8 .boolean (hRm 1 22 0 0) D (hT cI cR cJ) g sz [.ref ra, .int (nI bg), .int (nI ln), .ref rc, .int (nI p)] (fun o g1 => g1 = g ∧ ((o = nI 1 ∧ fitB a bg ln c p = true) ∨ (o = nI 0 ∧ ¬ fitB a bg ln c p = true))) := by
  refine hMi_of (by decide +kernel) (Nat.le_of_ble_eq_true rfl) ?_
  intro pX eX RX sX mX argsX belowX methX cX QX AX hR S0 hnm hsz hg hK hS hA0 hend ls hl
  have hl : lv_has ls 8 [(0, .ref ra), (1, .int (nI bg)), (2, .int (nI ln)), (3, .ref rc), (4, .int (nI p))] := hl
  refine lv_iload_n S0.1 S0.2.1 dPg_fits_0 rfl (lv_at hl 1 rfl) ?_
  refine lv_iconst (v := nI 1) S0.1 S0.2.1 dPg_fits_1 (by decide) ?_
  refine lv_isub S0.1 S0.2.1 dPg_fits_2 ?_
  refine hw_top (nJ bg) (rfl) ?_
  refine lv_iconst (v := nI 0) S0.1 S0.2.1 dPg_fits_3 (by decide) ?_
  refine hw_max S0 hR hl.1 lm_Pg_60 rfl ⟨Nat.zero_le _, Nat.zero_le _⟩ dPg_fits_4 ?_
  refine hw_top (nI (bg - 1)) (nJ_max (by omega)) ?_
  refine lv_istore (lv' := [(5, .int (nI (bg - 1))), (0, .ref ra), (1, .int (nI bg)), (2, .int (nI ln)), (3, .ref rc), (4, .int (nI p))]) S0.1 S0.2.1 dPg_fits_7 hl (by decide) rfl (fun ls hl => ?_)
  refine lv_iload_n S0.1 S0.2.1 dPg_fits_9 rfl (lv_at hl 2 rfl) ?_
  refine lv_iload_n S0.1 S0.2.1 dPg_fits_10 rfl (lv_at hl 3 rfl) ?_
  refine lv_iadd S0.1 S0.2.1 dPg_fits_11 ?_
  refine hw_top (nI (bg + ln)) (nI_add _ _) ?_
  refine lv_iconst (v := nI 1) S0.1 S0.2.1 dPg_fits_12 (by decide) ?_
  refine lv_iadd S0.1 S0.2.1 dPg_fits_13 ?_
  refine hw_top (nI ((bg + ln) + 1)) (nI_add _ _) ?_
  refine lv_aload_n S0.1 S0.2.1 dPg_fits_14 rfl (lv_at hl 1 rfl) ?_
  refine hw_get S0 hK hg h0 rfl inRo 1 (by decide) lf_Pg_34 rfl rfl dPg_fits_15 ?_
  refine hw_min S0 hR hl.1 lm_Pg_64 rfl ⟨Nat.zero_le _, Nat.zero_le _⟩ dPg_fits_18 ?_
  refine hw_top (nI (min ((bg + ln) + 1) a.length)) (nI_min (by omega) (by omega)) ?_
  refine lv_istore (lv' := [(6, .int (nI (min ((bg + ln) + 1) a.length))), (5, .int (nI (bg - 1))), (0, .ref ra), (1, .int (nI bg)), (2, .int (nI ln)), (3, .ref rc), (4, .int (nI p))]) S0.1 S0.2.1 dPg_fits_21 hl (by decide) rfl (fun ls hl => ?_)
  refine lv_iload S0.1 S0.2.1 dPg_fits_23 (lv_at hl 1 rfl) ?_
  refine lv_istore (lv' := [(7, .int (nI (bg - 1))), (6, .int (nI (min ((bg + ln) + 1) a.length))), (5, .int (nI (bg - 1))), (0, .ref ra), (1, .int (nI bg)), (2, .int (nI ln)), (3, .ref rc), (4, .int (nI p))]) S0.1 S0.2.1 dPg_fits_25 hl (by decide) rfl (fun ls hl => ?_)
  have loop_27 : ∀ (n_27 : Nat) (k : Nat) (H : Heap) (locs : List Loc) (ls : Array Slot), 61 - k < n_27 → (bg - 1 ≤ k) → (k ≤ max (bg - 1) (min ((bg + ln) + 1) a.length)) → (∀ q, bg - 1 ≤ q → q < k → lnB a bg c p q) → hw D hC AX g H → va_S AX sX.heap H locs → lv_has ls 8 [(0, .ref ra), (1, .int (nI bg)), (3, .ref rc), (4, .int (nI p)), (6, .int (nI (min ((bg + ln) + 1) a.length))), (7, .int (nI k))] → W pX l eX RX sX mX argsX belowX methX cX H locs 0 0 QX (F0 mX 27 ls []) := by
    intro n_27
    induction n_27 with
    | zero => intros; omega
    | succ n_27 ih_27 =>
      intro k H locs ls hm_27 hk1 hk2 hall hg hS hl
      refine lv_iload S0.1 S0.2.1 dPg_fits_27 (lv_at hl 5 rfl) ?_
      refine lv_iload S0.1 S0.2.1 dPg_fits_29 (lv_at hl 4 rfl) ?_
      refine lv_icmp_ge (tgt := 63) S0.1 S0.2.1 dPg_fits_31 (by decide) (fun c_31 => ?_) (fun c_31 => ?_)
      · skip
        have c_31 : (min ((bg + ln) + 1) a.length) ≤ k := (nI_leI (by omega) (by omega)).mp c_31
        refine lv_iconst (v := nI 1) S0.1 S0.2.1 dPg_fits_63 (by decide) ?_
        exact hend _ _ _ _ _ _ _ _ (by decide) (by decide) rfl (⟨rfl, Or.inl ⟨rfl, (fit_lines hp hb).mpr (fun q h1 h2 => hall q h1 (by omega))⟩⟩) hg hS dPg_fits_64
      · skip
        have c_31 : ¬ ((min ((bg + ln) + 1) a.length) ≤ k) := fun h => c_31 ((nI_leI (by omega) (by omega)).mpr h)
        refine lv_aload_n S0.1 S0.2.1 dPg_fits_34 rfl (lv_at hl 2 rfl) ?_
        refine lv_iload S0.1 S0.2.1 dPg_fits_35 (lv_at hl 3 rfl) ?_
        refine lv_iload S0.1 S0.2.1 dPg_fits_37 (lv_at hl 5 rfl) ?_
        refine lv_iadd S0.1 S0.2.1 dPg_fits_39 ?_
        refine hw_top (nI (p + k)) (nI_add _ _) ?_
        refine lv_iload_n S0.1 S0.2.1 dPg_fits_40 rfl (lv_at hl 1 rfl) ?_
        refine lv_isub S0.1 S0.2.1 dPg_fits_41 ?_
        refine lv_aload_n S0.1 S0.2.1 dPg_fits_42 rfl (lv_at hl 0 rfl) ?_
        refine hw_get S0 hK hg h0 rfl inRo 0 (by decide) lf_Pg_67 rfl rfl dPg_fits_43 ?_
        refine lv_iload S0.1 S0.2.1 dPg_fits_46 (lv_at hl 5 rfl) ?_
        refine hw_iald S0 hK hg h1 0 rfl (by omega) (by omega) dPg_fits_48 ?_
        refine hw_Vi (As := [.int ((nI (p + k)) - (nI bg)), .int (fa k)]) (rest := []) S0 hK hg hS hA0 h2 rfl (c_Ro_hasAt l D cI cR cJ g _ rc lc c.length cc fc (nI (p + k) - nI bg) (fa k) h2 h3 hcc hcc4) kRo_hasAt lm_Pg_70 (hR.call rfl) rfl hl.1 rfl (Nat.le_of_ble_eq_true rfl) dPg_fits_49 (hR.new (by decide) (by decide)) (fun r_49 g_1 H locs hp_49 hg hS => ?_)
        rw [hp_49.1] at hg
        replace hp_49 := hp_49.2
        rcases hp_49 with ⟨ho, hq⟩ | ⟨ho, hq⟩
        · skip
          subst ho
          have hln := ln_of ea ec (by omega) hnc (by omega) (by omega) hq
          refine lv_if_ne (tgt := 57) S0.1 S0.2.1 dPg_fits_52 (by decide) (fun c_52 => ?_) (fun c_52 => ?_)
          · skip
            refine lv_iinc (v := nI (k + 1)) (lv' := [(7, .int (nI (k + 1))), (0, .ref ra), (1, .int (nI bg)), (3, .ref rc), (4, .int (nI p)), (6, .int (nI (min ((bg + ln) + 1) a.length)))]) S0.1 S0.2.1 dPg_fits_57 hl (k := 5) rfl (by exact nI_add _ 1) (by decide) rfl (fun ls hl => ?_)
            refine lv_goto (tgt := 27) S0.1 S0.2.1 dPg_fits_60 (by decide) ?_
            exact ih_27 (k + 1) _ _ _ (by omega) (by omega) (by omega) (fun q h1 h2 => by rcases Nat.lt_or_ge q k with h9 | h9; exact hall q h1 h9; rw [show q = k by omega]; exact hln) hg hS (lv_sub hl [1, 2, 3, 4, 5, 0] rfl)
          · skip
            exact absurd c_52 (by decide)
        · skip
          subst ho
          have hln := ln_not ea ec (by omega) hnc (by omega) (by omega) hq
          refine lv_if_ne (tgt := 57) S0.1 S0.2.1 dPg_fits_52 (by decide) (fun c_52 => ?_) (fun c_52 => ?_)
          · skip
            exact absurd c_52 (by decide)
          · skip
            refine lv_iconst (v := nI 0) S0.1 S0.2.1 dPg_fits_55 (by decide) ?_
            exact hend _ _ _ _ _ _ _ _ (by decide) (by decide) rfl (⟨rfl, Or.inr ⟨rfl, fun h => hln ((fit_lines hp hb).mp h k hk1 (by omega))⟩⟩) hg hS dPg_fits_56
  exact loop_27 _ (bg - 1) _ _ _ (Nat.lt_succ_self _) (Nat.le_refl _) (by omega) (fun q h1 h2 => by omega) hg hS (lv_sub hl [3, 4, 6, 7, 1, 0] rfl)
set_option maxRecDepth 100000 in
set_option maxHeartbeats 4000000 in
theorem c_Pg_nearestFit (l : Launch) (D : va_G) (cI cR cJ : ClassId) (g : Nat → Option va_E) (sz : Nat) (ra la ca rc lc cc : Nat) (a c : List Int32) (fa fc : Nat → Int32) (h0 : g ra = some (.inr (5, [.ref la, .int (nI a.length)]))) (h1 : g la = some (.inl (cI, ca, .inl fa))) (h2 : g rc = some (.inr (5, [.ref lc, .int (nI c.length)]))) (h3 : g lc = some (.inl (cI, cc, .inl fc))) (ea : rp fa a) (ec : rp fc c) (hna : a.length ≤ 60) (hnc : c.length ≤ 60) (hca : a.length ≤ ca) (hcc : c.length ≤ cc) (hca4 : ca < 4000) (hcc4 : cc < 4000) (bg ln lo : Nat) (w : Int) (hb : bg + ln ≤ a.length) (hlo : lo ≤ c.length) (hw1 : -200 ≤ w) (hw2 : w ≤ 200) : hMi l yPg_nearestFit cPg_nearestFit 9 .int (hRm 2 49 0 0) D (hT cI cR cJ) g sz [.ref ra, .int (nI bg), .int (nI ln), .ref rc, .int (nI lo), .int (iZ w)] (fun o g1 => g1 = g ∧ o = oI (nrst (fitB a bg ln c) w lo (c.length + 1 - lo))) := by
  refine hMi_of (by decide +kernel) (Nat.le_of_ble_eq_true rfl) ?_
  intro pX eX RX sX mX argsX belowX methX cX QX AX hR S0 hnm hsz hg hK hS hA0 hend ls hl
  have hl : lv_has ls 9 [(0, .ref ra), (1, .int (nI bg)), (2, .int (nI ln)), (3, .ref rc), (4, .int (nI lo)), (5, .int (iZ w))] := hl
  refine lv_iconst (v := (-1)) S0.1 S0.2.1 dPg_nearestFit_0 (by decide) ?_
  refine lv_istore (lv' := [(6, .int (-1)), (0, .ref ra), (1, .int (nI bg)), (2, .int (nI ln)), (3, .ref rc), (4, .int (nI lo)), (5, .int (iZ w))]) S0.1 S0.2.1 dPg_nearestFit_1 hl (by decide) rfl (fun ls hl => ?_)
  refine lv_iload S0.1 S0.2.1 dPg_nearestFit_3 (lv_at hl 5 rfl) ?_
  refine lv_istore (lv' := [(7, .int (nI lo)), (6, .int (-1)), (0, .ref ra), (1, .int (nI bg)), (2, .int (nI ln)), (3, .ref rc), (4, .int (nI lo)), (5, .int (iZ w))]) S0.1 S0.2.1 dPg_nearestFit_5 hl (by decide) rfl (fun ls hl => ?_)
  have loop_7 : ∀ (n_7 : Nat) (t : Nat) (o : Option Nat) (H : Heap) (locs : List Loc) (ls : Array Slot), c.length + 2 - (lo + t) < n_7 → (lo + t ≤ c.length + 1) → (nrst (fitB a bg ln c) w lo t = o) → hw D hC AX g H → va_S AX sX.heap H locs → lv_has ls 9 [(0, .ref ra), (1, .int (nI bg)), (2, .int (nI ln)), (3, .ref rc), (5, .int (iZ w)), (6, .int (oI o)), (7, .int (nI (lo + t)))] → W pX l eX RX sX mX argsX belowX methX cX H locs 0 0 QX (F0 mX 7 ls []) := by
    intro n_7
    induction n_7 with
    | zero => intros; omega
    | succ n_7 ih_7 =>
      intro t o H locs ls hm_7 ht ho hg hS hl
      refine lv_iload S0.1 S0.2.1 dPg_nearestFit_7 (lv_at hl 6 rfl) ?_
      refine lv_aload_n S0.1 S0.2.1 dPg_nearestFit_9 rfl (lv_at hl 3 rfl) ?_
      refine hw_get S0 hK hg h2 rfl inRo 1 (by decide) lf_Pg_34 rfl rfl dPg_nearestFit_10 ?_
      refine lv_iload_n S0.1 S0.2.1 dPg_nearestFit_13 rfl (lv_at hl 2 rfl) ?_
      refine lv_isub S0.1 S0.2.1 dPg_nearestFit_14 ?_
      refine lv_icmp_gt (tgt := 77) S0.1 S0.2.1 dPg_nearestFit_15 (by decide) (fun c_15 => ?_) (fun c_15 => ?_)
      · skip
        have c_15 := (nI_sublt (by omega) (by omega) (by omega)).mp c_15
        refine lv_iload S0.1 S0.2.1 dPg_nearestFit_77 (lv_at hl 5 rfl) ?_
        exact hend _ _ _ _ _ _ _ _ (by decide) (by decide) rfl (⟨rfl, by rw [nrst_ext (t := t) (fun p hp h9 => by have := (fitB_iff.mp h9).1; omega) (by omega), ho]⟩) hg hS dPg_nearestFit_79
      · skip
        have c_15 : ¬ c.length < lo + t + ln := fun h => c_15 ((nI_sublt (by omega) (by omega) (by omega)).mpr h)
        rcases o with _ | q
        · skip
          have hl : lv_has ls 9 [(0, .ref ra), (1, .int (nI bg)), (2, .int (nI ln)), (3, .ref rc), (5, .int (iZ w)), (6, .int (-1)), (7, .int (nI (lo + t)))] := hl
          refine lv_iload S0.1 S0.2.1 dPg_nearestFit_18 (lv_at hl 5 rfl) ?_
          refine lv_iconst (v := (-1)) S0.1 S0.2.1 dPg_nearestFit_20 (by decide) ?_
          refine lv_icmp_eq (tgt := 43) S0.1 S0.2.1 dPg_nearestFit_21 (by decide) (fun c_21 => ?_) (fun c_21 => ?_)
          · skip
            refine lv_iconst (v := nI 1) S0.1 S0.2.1 dPg_nearestFit_43 (by decide) ?_
            refine lv_goto (tgt := 48) S0.1 S0.2.1 dPg_nearestFit_44 (by decide) ?_
            refine lv_istore (lv' := [(8, .int (nI 1)), (0, .ref ra), (1, .int (nI bg)), (2, .int (nI ln)), (3, .ref rc), (5, .int (iZ w)), (6, .int (-1)), (7, .int (nI (lo + t)))]) S0.1 S0.2.1 dPg_nearestFit_48 hl (by decide) rfl (fun ls hl => ?_)
            refine lv_iload S0.1 S0.2.1 dPg_nearestFit_50 (lv_at hl 0 rfl) ?_
            refine lv_if_eq (tgt := 71) S0.1 S0.2.1 dPg_nearestFit_52 (by decide) (fun c_52 => ?_) (fun c_52 => ?_)
            · skip
              rw [← nI_0] at c_52
              have c_52 : 1 = 0 := (nI_eq (by omega) (by omega)).mp c_52
              exact absurd c_52 (by decide)
            · skip
              rw [← nI_0] at c_52
              have c_52 : ¬ (1 = 0) := fun h => c_52 ((nI_eq (by omega) (by omega)).mpr h)
              refine lv_aload_n S0.1 S0.2.1 dPg_nearestFit_55 rfl (lv_at hl 1 rfl) ?_
              refine lv_iload_n S0.1 S0.2.1 dPg_nearestFit_56 rfl (lv_at hl 2 rfl) ?_
              refine lv_iload_n S0.1 S0.2.1 dPg_nearestFit_57 rfl (lv_at hl 3 rfl) ?_
              refine lv_aload_n S0.1 S0.2.1 dPg_nearestFit_58 rfl (lv_at hl 4 rfl) ?_
              refine lv_iload S0.1 S0.2.1 dPg_nearestFit_59 (lv_at hl 7 rfl) ?_
              refine hw_Si (As := [.ref ra, .int (nI bg), .int (nI ln), .ref rc, .int (nI (lo + t))]) (rest := []) S0 hK hg hS hA0 (c_Pg_fits l D cI cR cJ g _ ra la ca rc lc cc a c fa fc h0 h1 h2 h3 ea ec hna hnc hca hcc hca4 hcc4 bg ln (lo + t) (by omega) hb) kPg_fits lm_Pg_56 (hR.call rfl) rfl hl.1 rfl (Nat.le_of_ble_eq_true rfl) dPg_nearestFit_61 (hR.new (by decide) (by decide)) (fun r_61 g_1 H locs hp_61 hg hS => ?_)
              rw [hp_61.1] at hg
              replace hp_61 := hp_61.2
              rcases hp_61 with ⟨hf, hq⟩ | ⟨hf, hq⟩
              · skip
                subst hf
                refine lv_if_eq (tgt := 71) S0.1 S0.2.1 dPg_nearestFit_64 (by decide) (fun c_64 => ?_) (fun c_64 => ?_)
                · skip
                  rw [← nI_0] at c_64
                  have c_64 : 1 = 0 := (nI_eq (by omega) (by omega)).mp c_64
                  exact absurd c_64 (by decide)
                · skip
                  rw [← nI_0] at c_64
                  have c_64 : ¬ (1 = 0) := fun h => c_64 ((nI_eq (by omega) (by omega)).mpr h)
                  refine lv_iload S0.1 S0.2.1 dPg_nearestFit_67 (lv_at hl 7 rfl) ?_
                  refine lv_istore (lv' := [(6, .int (nI (lo + t))), (8, .int (nI 1)), (0, .ref ra), (1, .int (nI bg)), (2, .int (nI ln)), (3, .ref rc), (5, .int (iZ w)), (7, .int (nI (lo + t)))]) S0.1 S0.2.1 dPg_nearestFit_69 hl (by decide) rfl (fun ls hl => ?_)
                  refine lv_iinc (v := nI (lo + t + 1)) (lv' := [(7, .int (nI (lo + t + 1))), (6, .int (nI (lo + t))), (8, .int (nI 1)), (0, .ref ra), (1, .int (nI bg)), (2, .int (nI ln)), (3, .ref rc), (5, .int (iZ w))]) S0.1 S0.2.1 dPg_nearestFit_71 hl (k := 7) rfl (by exact nI_add _ 1) (by decide) rfl (fun ls hl => ?_)
                  refine lv_goto (tgt := 7) S0.1 S0.2.1 dPg_nearestFit_74 (by decide) ?_
                  exact ih_7 (t + 1) (some (lo + t)) _ _ _ (by omega) (by omega) (nrst_new hq (Or.inl ho)) hg hS (lv_sub hl [3, 4, 5, 6, 7, 1, 0] rfl)
              · skip
                subst hf
                refine lv_if_eq (tgt := 71) S0.1 S0.2.1 dPg_nearestFit_64 (by decide) (fun c_64 => ?_) (fun c_64 => ?_)
                · skip
                  rw [← nI_0] at c_64
                  have c_64 : 0 = 0 := (nI_eq (by omega) (by omega)).mp c_64
                  refine lv_iinc (v := nI (lo + t + 1)) (lv' := [(7, .int (nI (lo + t + 1))), (8, .int (nI 1)), (0, .ref ra), (1, .int (nI bg)), (2, .int (nI ln)), (3, .ref rc), (5, .int (iZ w)), (6, .int (-1))]) S0.1 S0.2.1 dPg_nearestFit_71 hl (k := 7) rfl (by exact nI_add _ 1) (by decide) rfl (fun ls hl => ?_)
                  refine lv_goto (tgt := 7) S0.1 S0.2.1 dPg_nearestFit_74 (by decide) ?_
                  exact ih_7 (t + 1) none _ _ _ (by omega) (by omega) (by rw [nrst_no hq]; exact ho) hg hS (lv_sub hl [2, 3, 4, 5, 6, 7, 0] rfl)
                · skip
                  rw [← nI_0] at c_64
                  have c_64 : ¬ (0 = 0) := fun h => c_64 ((nI_eq (by omega) (by omega)).mpr h)
                  exact absurd c_64 (by decide)
          · skip
            exact absurd rfl c_21
        · skip
          have hl : lv_has ls 9 [(0, .ref ra), (1, .int (nI bg)), (2, .int (nI ln)), (3, .ref rc), (5, .int (iZ w)), (6, .int (nI q)), (7, .int (nI (lo + t)))] := hl
          have hqi := nrst_in ho
          refine lv_iload S0.1 S0.2.1 dPg_nearestFit_18 (lv_at hl 5 rfl) ?_
          refine lv_iconst (v := (-1)) S0.1 S0.2.1 dPg_nearestFit_20 (by decide) ?_
          refine lv_icmp_eq (tgt := 43) S0.1 S0.2.1 dPg_nearestFit_21 (by decide) (fun c_21 => ?_) (fun c_21 => ?_)
          · skip
            exact absurd c_21 (nI_m1 (by omega))
          · skip
            refine lv_iload S0.1 S0.2.1 dPg_nearestFit_24 (lv_at hl 6 rfl) ?_
            refine lv_iload S0.1 S0.2.1 dPg_nearestFit_26 (lv_at hl 4 rfl) ?_
            refine lv_isub S0.1 S0.2.1 dPg_nearestFit_28 ?_
            refine hw_top (iZ (((lo + t : Nat) : Int) - w)) (by rw [iZ_nat, iZ_sub]) ?_
            refine hw_abs S0 hR hl.1 lm_Pg_50 rfl ⟨Nat.zero_le _, Nat.zero_le _⟩ dPg_nearestFit_29 ?_
            refine hw_top (nI ((((lo + t : Nat) : Int) - w).natAbs)) (iZ_abs (by omega) (by omega)) ?_
            refine lv_iload S0.1 S0.2.1 dPg_nearestFit_32 (lv_at hl 5 rfl) ?_
            refine lv_iload S0.1 S0.2.1 dPg_nearestFit_34 (lv_at hl 4 rfl) ?_
            refine lv_isub S0.1 S0.2.1 dPg_nearestFit_36 ?_
            refine hw_top (iZ (((q : Nat) : Int) - w)) (by rw [iZ_nat, iZ_sub]) ?_
            refine hw_abs S0 hR hl.1 lm_Pg_50 rfl ⟨Nat.zero_le _, Nat.zero_le _⟩ dPg_nearestFit_37 ?_
            refine hw_top (nI ((((q : Nat) : Int) - w).natAbs)) (iZ_abs (by omega) (by omega)) ?_
            refine lv_icmp_ge (tgt := 47) S0.1 S0.2.1 dPg_nearestFit_40 (by decide) (fun c_40 => ?_) (fun c_40 => ?_)
            · skip
              have c_40 : ((((q : Nat) : Int) - w).natAbs) ≤ ((((lo + t : Nat) : Int) - w).natAbs) := (nI_leI (by omega) (by omega)).mp c_40
              refine lv_iconst (v := nI 0) S0.1 S0.2.1 dPg_nearestFit_47 (by decide) ?_
              refine lv_istore (lv' := [(8, .int (nI 0)), (0, .ref ra), (1, .int (nI bg)), (2, .int (nI ln)), (3, .ref rc), (5, .int (iZ w)), (6, .int (nI q)), (7, .int (nI (lo + t)))]) S0.1 S0.2.1 dPg_nearestFit_48 hl (by decide) rfl (fun ls hl => ?_)
              refine lv_iload S0.1 S0.2.1 dPg_nearestFit_50 (lv_at hl 0 rfl) ?_
              refine lv_if_eq (tgt := 71) S0.1 S0.2.1 dPg_nearestFit_52 (by decide) (fun c_52 => ?_) (fun c_52 => ?_)
              · skip
                rw [← nI_0] at c_52
                have c_52 : 0 = 0 := (nI_eq (by omega) (by omega)).mp c_52
                refine lv_iinc (v := nI (lo + t + 1)) (lv' := [(7, .int (nI (lo + t + 1))), (8, .int (nI 0)), (0, .ref ra), (1, .int (nI bg)), (2, .int (nI ln)), (3, .ref rc), (5, .int (iZ w)), (6, .int (nI q))]) S0.1 S0.2.1 dPg_nearestFit_71 hl (k := 7) rfl (by exact nI_add _ 1) (by decide) rfl (fun ls hl => ?_)
                refine lv_goto (tgt := 7) S0.1 S0.2.1 dPg_nearestFit_74 (by decide) ?_
                exact ih_7 (t + 1) (some q) _ _ _ (by omega) (by omega) (by rw [nrst_far ho (by omega)]; exact ho) hg hS (lv_sub hl [2, 3, 4, 5, 6, 7, 0] rfl)
              · skip
                rw [← nI_0] at c_52
                have c_52 : ¬ (0 = 0) := fun h => c_52 ((nI_eq (by omega) (by omega)).mpr h)
                exact absurd c_52 (by decide)
            · skip
              have c_40 : ¬ (((((q : Nat) : Int) - w).natAbs) ≤ ((((lo + t : Nat) : Int) - w).natAbs)) := fun h => c_40 ((nI_leI (by omega) (by omega)).mpr h)
              refine lv_iconst (v := nI 1) S0.1 S0.2.1 dPg_nearestFit_43 (by decide) ?_
              refine lv_goto (tgt := 48) S0.1 S0.2.1 dPg_nearestFit_44 (by decide) ?_
              refine lv_istore (lv' := [(8, .int (nI 1)), (0, .ref ra), (1, .int (nI bg)), (2, .int (nI ln)), (3, .ref rc), (5, .int (iZ w)), (6, .int (nI q)), (7, .int (nI (lo + t)))]) S0.1 S0.2.1 dPg_nearestFit_48 hl (by decide) rfl (fun ls hl => ?_)
              refine lv_iload S0.1 S0.2.1 dPg_nearestFit_50 (lv_at hl 0 rfl) ?_
              refine lv_if_eq (tgt := 71) S0.1 S0.2.1 dPg_nearestFit_52 (by decide) (fun c_52 => ?_) (fun c_52 => ?_)
              · skip
                rw [← nI_0] at c_52
                have c_52 : 1 = 0 := (nI_eq (by omega) (by omega)).mp c_52
                exact absurd c_52 (by decide)
              · skip
                rw [← nI_0] at c_52
                have c_52 : ¬ (1 = 0) := fun h => c_52 ((nI_eq (by omega) (by omega)).mpr h)
                refine lv_aload_n S0.1 S0.2.1 dPg_nearestFit_55 rfl (lv_at hl 1 rfl) ?_
                refine lv_iload_n S0.1 S0.2.1 dPg_nearestFit_56 rfl (lv_at hl 2 rfl) ?_
                refine lv_iload_n S0.1 S0.2.1 dPg_nearestFit_57 rfl (lv_at hl 3 rfl) ?_
                refine lv_aload_n S0.1 S0.2.1 dPg_nearestFit_58 rfl (lv_at hl 4 rfl) ?_
                refine lv_iload S0.1 S0.2.1 dPg_nearestFit_59 (lv_at hl 7 rfl) ?_
                refine hw_Si (As := [.ref ra, .int (nI bg), .int (nI ln), .ref rc, .int (nI (lo + t))]) (rest := []) S0 hK hg hS hA0 (c_Pg_fits l D cI cR cJ g _ ra la ca rc lc cc a c fa fc h0 h1 h2 h3 ea ec hna hnc hca hcc hca4 hcc4 bg ln (lo + t) (by omega) hb) kPg_fits lm_Pg_56 (hR.call rfl) rfl hl.1 rfl (Nat.le_of_ble_eq_true rfl) dPg_nearestFit_61 (hR.new (by decide) (by decide)) (fun r_61 g_2 H locs hp_61 hg hS => ?_)
                rw [hp_61.1] at hg
                replace hp_61 := hp_61.2
                rcases hp_61 with ⟨hf, hq⟩ | ⟨hf, hq⟩
                · skip
                  subst hf
                  refine lv_if_eq (tgt := 71) S0.1 S0.2.1 dPg_nearestFit_64 (by decide) (fun c_64 => ?_) (fun c_64 => ?_)
                  · skip
                    rw [← nI_0] at c_64
                    have c_64 : 1 = 0 := (nI_eq (by omega) (by omega)).mp c_64
                    exact absurd c_64 (by decide)
                  · skip
                    rw [← nI_0] at c_64
                    have c_64 : ¬ (1 = 0) := fun h => c_64 ((nI_eq (by omega) (by omega)).mpr h)
                    refine lv_iload S0.1 S0.2.1 dPg_nearestFit_67 (lv_at hl 7 rfl) ?_
                    refine lv_istore (lv' := [(6, .int (nI (lo + t))), (8, .int (nI 1)), (0, .ref ra), (1, .int (nI bg)), (2, .int (nI ln)), (3, .ref rc), (5, .int (iZ w)), (7, .int (nI (lo + t)))]) S0.1 S0.2.1 dPg_nearestFit_69 hl (by decide) rfl (fun ls hl => ?_)
                    refine lv_iinc (v := nI (lo + t + 1)) (lv' := [(7, .int (nI (lo + t + 1))), (6, .int (nI (lo + t))), (8, .int (nI 1)), (0, .ref ra), (1, .int (nI bg)), (2, .int (nI ln)), (3, .ref rc), (5, .int (iZ w))]) S0.1 S0.2.1 dPg_nearestFit_71 hl (k := 7) rfl (by exact nI_add _ 1) (by decide) rfl (fun ls hl => ?_)
                    refine lv_goto (tgt := 7) S0.1 S0.2.1 dPg_nearestFit_74 (by decide) ?_
                    exact ih_7 (t + 1) (some (lo + t)) _ _ _ (by omega) (by omega) (nrst_new hq (Or.inr ⟨q, ho, by omega⟩)) hg hS (lv_sub hl [3, 4, 5, 6, 7, 1, 0] rfl)
                · skip
                  subst hf
                  refine lv_if_eq (tgt := 71) S0.1 S0.2.1 dPg_nearestFit_64 (by decide) (fun c_64 => ?_) (fun c_64 => ?_)
                  · skip
                    rw [← nI_0] at c_64
                    have c_64 : 0 = 0 := (nI_eq (by omega) (by omega)).mp c_64
                    refine lv_iinc (v := nI (lo + t + 1)) (lv' := [(7, .int (nI (lo + t + 1))), (8, .int (nI 1)), (0, .ref ra), (1, .int (nI bg)), (2, .int (nI ln)), (3, .ref rc), (5, .int (iZ w)), (6, .int (nI q))]) S0.1 S0.2.1 dPg_nearestFit_71 hl (k := 7) rfl (by exact nI_add _ 1) (by decide) rfl (fun ls hl => ?_)
                    refine lv_goto (tgt := 7) S0.1 S0.2.1 dPg_nearestFit_74 (by decide) ?_
                    exact ih_7 (t + 1) (some q) _ _ _ (by omega) (by omega) (by rw [nrst_no hq]; exact ho) hg hS (lv_sub hl [2, 3, 4, 5, 6, 7, 0] rfl)
                  · skip
                    rw [← nI_0] at c_64
                    have c_64 : ¬ (0 = 0) := fun h => c_64 ((nI_eq (by omega) (by omega)).mpr h)
                    exact absurd c_64 (by decide)
  exact loop_7 _ 0 none _ _ _ (Nat.lt_succ_self _) (by omega) rfl hg hS (lv_sub hl [2, 3, 4, 5, 7, 1, 0] rfl)
