/-! THE LAW: one call of each kind, on both sides -/
def LwC (l : Launch) (p : Program) (s : State) (m : MethodId) (c : Code) (b L : Nat) (xs : Nat → Int32) (D : va_G) (cI cR cJ : ClassId) (x : Nat → Nat) (mm : Nat) (q : Nat → Nat) (ou : Nat) : Prop :=
  CallFix p m c code 7 s #[Value.ref b] hB RLa ∧ va_K D hC (hT cI cR cJ) s ∧ hXs s ∧ hZZ (fun q => s.heap.size ≤ q) s s.heap ∧ va_X b L xs s s.heap ∧ b < s.heap.size ∧ L ≤ 2560 ∧ ou ∉ xS x ∧ ou ∉ mS mm q ∧ (∀ a ∈ mS mm q, a ∉ ou :: xS x) ∧ (∀ i, i < 50 → x i ∉ mS mm q) ∧ l.stackTraces = false
abbrev LwK (p : Program) (l : Launch) (e : Env) (s : State) (m : MethodId) (below : List Frame) (meth : Method) (c : Code) (Q : State → Prop) (b : Nat) (D : va_G) (cI cR cJ : ClassId) (x : Nat → Nat) (mm : Nat) (q : Nat → Nat) (ou k : Nat) (pc : Nat) : Prop :=
  ∀ (S : ST) (t : Nat) (fo : Nat → Int64) (g : Nat → Option va_E) (H : Heap) (locs : List Loc) (ls : Array Slot) (cells slots : Nat), cells ≤ 305 + 5 * k → slots ≤ 40030 + 30 * k → repX cI cR g x S → repM cI g mm q t S → g ou = some (.inl (cJ, 1, .inr (.inl fo))) → hw D hC (fun q => s.heap.size ≤ q) g H → va_S (fun q => s.heap.size ≤ q) s.heap H locs → lv_has ls 7 [(0, .ref b), (1, .ref (x 0)), (2, .ref mm), (3, .ref ou), (4, .int (nI (5 * k)))] → W p l e room_1 s m #[Value.ref b] below meth c H locs cells slots Q (F0 m pc ls [])
theorem o3_put (p0 p1 : Int32) (S : ST) : (o_put p0 p1 S).1 < 3 := by
  unfold o_put
  (repeat' split) <;> simp
set_option maxRecDepth 100000 in
set_option maxHeartbeats 4000000 in
theorem law_put {p : Program} {l : Launch} {e : Env} {s : State} {m : MethodId} {below : List Frame} {meth : Method} {c : Code} {Q : State → Prop} {b L : Nat} {xs : Nat → Int32} {D : va_G} {cI cR cJ : ClassId} {x : Nat → Nat} {mm : Nat} {q : Nat → Nat} {ou k : Nat} (C : LwC l p s m c b L xs D cI cR cJ x mm q ou) (hk : 5 * k + 5 ≤ L) {S : ST} {t : Nat} {fo : Nat → Int64} {g : Nat → Option va_E} {H : Heap} {locs : List Loc} {ls : Array Slot} {cells slots : Nat} (hc : cells ≤ 300 + 5 * k) (hs : slots ≤ 40000 + 30 * k) (HX : repX cI cR g x S) (HM : repM cI g mm q t S) (ho : g ou = some (.inl (cJ, 1, .inr (.inl fo)))) (hg : hw D hC (fun q => s.heap.size ≤ q) g H) (hS : va_S (fun q => s.heap.size ≤ q) s.heap H locs) (hl : lv_has ls 7 [(0, .ref b), (1, .ref (x 0)), (2, .ref mm), (3, .ref ou), (4, .int (nI (5 * k)))]) (kk : LwK p l e s m below meth c Q b D cI cR cJ x mm q ou k 980) : W p l e room_1 s m #[Value.ref b] below meth c H locs cells slots Q (F0 m 104 ls []) := by
  obtain ⟨S0, hK, hx, hz, hX, hbl, hL, hou, houm, hdm, hxm, hst⟩ := C
  have hA0 : ∀ q : Nat, s.heap.size ≤ q → (fun q : Nat => s.heap.size ≤ q) q := fun _ h => h
  have hbA : ¬ (fun q : Nat => s.heap.size ≤ q) b := Nat.not_le.mpr hbl
  have hc3 := o3_put (xs ((5 * k) + 1)) (xs ((5 * k) + 2)) S
  refine lv_aload_n S0.1 S0.2.1 dLa_law_104 rfl (lv_at hl 1 rfl) ?_
  refine lv_aload_n S0.1 S0.2.1 dLa_law_105 rfl (lv_at hl 0 rfl) ?_
  refine lv_iload S0.1 S0.2.1 dLa_law_106 (lv_at hl 4 rfl) ?_
  refine lv_iconst (v := nI 1) S0.1 S0.2.1 dLa_law_108 (by decide) ?_
  refine lv_iadd S0.1 S0.2.1 dLa_law_109 ?_
  refine hw_top (nI ((5 * k) + 1)) (nI_add _ _) ?_
  refine hw_sld S0.1 S0.2.1 hX hbl hbA hS (i := ((5 * k) + 1)) (by omega) (by omega) dLa_law_110 ?_
  refine lv_aload_n S0.1 S0.2.1 dLa_law_111 rfl (lv_at hl 0 rfl) ?_
  refine lv_iload S0.1 S0.2.1 dLa_law_112 (lv_at hl 4 rfl) ?_
  refine lv_iconst (v := nI 2) S0.1 S0.2.1 dLa_law_114 (by decide) ?_
  refine lv_iadd S0.1 S0.2.1 dLa_law_115 ?_
  refine hw_top (nI ((5 * k) + 2)) (nI_add _ _) ?_
  refine hw_sld S0.1 S0.2.1 hX hbl hbA hS (i := ((5 * k) + 2)) (by omega) (by omega) dLa_law_116 ?_
  refine lv_aload_n S0.1 S0.2.1 dLa_law_117 rfl (lv_at hl 3 rfl) ?_
  refine hx_SWi (As := [.ref (x 0), .int (xs ((5 * k) + 1)), .int (xs ((5 * k) + 2)), .ref ou]) (rest := []) S0 hK hg hS hA0 hx hz (c_La_put l D cI cR cJ g _ hst x S (xs ((5 * k) + 1)) (xs ((5 * k) + 2)) ou fo ho hou HX) kLa_put lm_La_62 ⟨Nat.le_of_ble_eq_true rfl, Nat.le_of_ble_eq_true rfl⟩ rfl hl.1 rfl (Nat.le_of_ble_eq_true rfl) dLa_law_118 ⟨show cells + 5 ≤ 601024 by omega, show slots + 30 ≤ 7293034 by omega⟩ (fun r g1 H locs hp hg hS => ?_)
  refine W.widen (k := cells + 5) (n := slots + 30) (Nat.le_refl _) (Nat.le_refl _) ?_
  obtain ⟨fr1, HX1, hr, f1, ho1, hf1⟩ := hp
  subst hr
  have HM1 : repM cI g1 mm q t S := HM.kept (fr1 mm (hdm _ List.mem_cons_self)) (fun i hi => fr1 (q i) (hdm _ (mS_q hi)))
  refine lv_istore (lv' := [(5, .int (nI ((o_put (xs ((5 * k) + 1)) (xs ((5 * k) + 2)) S).1))), (0, .ref b), (1, .ref (x 0)), (2, .ref mm), (3, .ref ou), (4, .int (nI (5 * k)))]) S0.1 S0.2.1 dLa_law_121 hl (by decide) rfl (fun ls hl => ?_)
  refine lv_aload_n S0.1 S0.2.1 dLa_law_123 rfl (lv_at hl 3 rfl) ?_
  refine lv_aload_n S0.1 S0.2.1 dLa_law_124 rfl (lv_at hl 1 rfl) ?_
  refine lv_iload S0.1 S0.2.1 dLa_law_125 (lv_at hl 5 rfl) ?_
  refine lv_iconst (v := nI 1) S0.1 S0.2.1 dLa_law_127 (by decide) ?_
  refine lv_iadd S0.1 S0.2.1 dLa_law_128 ?_
  refine hw_top (nI ((5 * k) + 1)) (nI_add _ _) ?_
  refine hw_sld S0.1 S0.2.1 hX hbl hbA hS (i := ((5 * k) + 1)) (by omega) (by omega) dLa_law_129 ?_
  refine lv_aload_n S0.1 S0.2.1 dLa_law_130 rfl (lv_at hl 1 rfl) ?_
  refine lv_iload S0.1 S0.2.1 dLa_law_131 (lv_at hl 5 rfl) ?_
  refine lv_iconst (v := nI 2) S0.1 S0.2.1 dLa_law_133 (by decide) ?_
  refine lv_iadd S0.1 S0.2.1 dLa_law_134 ?_
  refine hw_top (nI ((5 * k) + 2)) (nI_add _ _) ?_
  refine hw_sld S0.1 S0.2.1 hX hbl hbA hS (i := ((5 * k) + 2)) (by omega) (by omega) dLa_law_135 ?_
  obtain ⟨fm, hm0⟩ := repM0 HM1
  refine hw_Vi (As := [.int (xs ((5 * k) + 1)), .int (xs ((5 * k) + 2))]) (rest := []) S0 hK hg hS hA0 hm0 rfl (c_MM_put l D cI cR cJ g1 _ mm q t S (xs ((5 * k) + 1)) (xs ((5 * k) + 2)) HM1) kMM_put lm_La_67 ⟨Nat.le_of_ble_eq_true rfl, Nat.le_of_ble_eq_true rfl⟩ rfl hl.1 rfl (Nat.le_of_ble_eq_true rfl) dLa_law_136 ⟨show cells + 5 + 0 ≤ 601024 by omega, show slots + 30 + 0 ≤ 7293034 by omega⟩ (fun o2 g2 H locs hp hg hS => ?_)
  refine W.widen (k := cells + 5) (n := slots + 30) (Nat.le_refl _) (Nat.le_refl _) ?_
  obtain ⟨fr2, HM2, hval⟩ := hp
  have HX2 : repX cI cR g2 x (o_put (xs ((5 * k) + 1)) (xs ((5 * k) + 2)) S).2.2 := HX1.kept (fun i hi => fr2 (x i) (hxm i hi))
  have ho2 := fr2.at houm ho1
  refine lv_istore (lv' := [(6, .int o2), (5, .int (nI ((o_put (xs ((5 * k) + 1)) (xs ((5 * k) + 2)) S).1))), (0, .ref b), (1, .ref (x 0)), (2, .ref mm), (3, .ref ou), (4, .int (nI (5 * k)))]) S0.1 S0.2.1 dLa_law_139 hl (by decide) rfl (fun ls hl => ?_)
  refine lv_aload_n S0.1 S0.2.1 dLa_law_141 rfl (lv_at hl 4 rfl) ?_
  obtain ⟨fm2, hm2⟩ := repM0 HM2
  refine hw_Vi (As := []) (rest := []) S0 hK hg hS hA0 hm2 rfl (c_MM_thr l D cI cR cJ g2 _ mm q _ _ HM2) kMM_thrown lm_La_68 ⟨Nat.le_of_ble_eq_true rfl, Nat.le_of_ble_eq_true rfl⟩ rfl hl.1 rfl (Nat.le_of_ble_eq_true rfl) dLa_law_142 ⟨show cells + 5 + 0 ≤ 601024 by omega, show slots + 30 + 0 ≤ 7293034 by omega⟩ (fun o3 g3 H locs hp hg hS => ?_)
  refine W.widen (k := cells + 5) (n := slots + 30) (Nat.le_refl _) (Nat.le_refl _) ?_
  obtain ⟨eg, eo⟩ := hp
  rw [eg] at hg
  subst eo
  refine lv_iload S0.1 S0.2.1 dLa_law_145 (lv_at hl 1 rfl) ?_
  refine lv_icmp_eq (tgt := 152) S0.1 S0.2.1 dLa_law_147 (by decide) (fun c_147 => ?_) (fun c_147 => ?_)
  · skip
    have c_147 : ((o_put (xs ((5 * k) + 1)) (xs ((5 * k) + 2)) S).1) = ((o_put (xs ((5 * k) + 1)) (xs ((5 * k) + 2)) S).1) := (nI_eq (by omega) (by omega)).mp c_147
    refine lv_iload S0.1 S0.2.1 dLa_law_152 (lv_at hl 1 rfl) ?_
    refine lv_if_ne (tgt := 169) S0.1 S0.2.1 dLa_law_154 (by decide) (fun c_154 => ?_) (fun c_154 => ?_)
    · skip
      rw [← nI_0] at c_154
      have c_154 : ¬ (((o_put (xs ((5 * k) + 1)) (xs ((5 * k) + 2)) S).1) = 0) := fun h => c_154 ((nI_eq (by omega) (by omega)).mpr h)
      refine lv_goto (tgt := 980) S0.1 S0.2.1 dLa_law_169 (by decide) ?_
      exact kk (o_put (xs ((5 * k) + 1)) (xs ((5 * k) + 2)) S).2.2 (o_put (xs ((5 * k) + 1)) (xs ((5 * k) + 2)) S).1 f1 g2 _ _ _ _ _ (by omega) (by omega) HX2 HM2 ho2 hg hS (lv_sub hl [2, 3, 4, 5, 6] rfl)
    · skip
      rw [← nI_0] at c_154
      have c_154 : ((o_put (xs ((5 * k) + 1)) (xs ((5 * k) + 2)) S).1) = 0 := (nI_eq (by omega) (by omega)).mp c_154
      refine lv_aload_n S0.1 S0.2.1 dLa_law_157 rfl (lv_at hl 5 rfl) ?_
      refine lv_iconst (v := nI 0) S0.1 S0.2.1 dLa_law_158 (by decide) ?_
      refine hw_lald S0 hK hg ho2 2 rfl (by omega) (by omega) dLa_law_159 ?_
      refine lv_iload S0.1 S0.2.1 dLa_law_160 (lv_at hl 0 rfl) ?_
      refine lv_i2l (v := (o2).toInt64) S0.1 S0.2.1 dLa_law_162 rfl ?_
      refine lv_lcmpE S0.1 S0.2.1 (show f1 0 = o2.toInt64 by rw [hf1 c_154, hval c_154]) dLa_law_163 ?_
      refine hw_top (nI 0) rfl ?_
      refine lv_if_eq (tgt := 169) S0.1 S0.2.1 dLa_law_164 (by decide) (fun c_164 => ?_) (fun c_164 => ?_)
      · skip
        rw [← nI_0] at c_164
        have c_164 : 0 = 0 := (nI_eq (by omega) (by omega)).mp c_164
        refine lv_goto (tgt := 980) S0.1 S0.2.1 dLa_law_169 (by decide) ?_
        exact kk (o_put (xs ((5 * k) + 1)) (xs ((5 * k) + 2)) S).2.2 (o_put (xs ((5 * k) + 1)) (xs ((5 * k) + 2)) S).1 f1 g2 _ _ _ _ _ (by omega) (by omega) HX2 HM2 ho2 hg hS (lv_sub hl [2, 3, 4, 5, 6] rfl)
      · skip
        rw [← nI_0] at c_164
        have c_164 : ¬ (0 = 0) := fun h => c_164 ((nI_eq (by omega) (by omega)).mpr h)
        exact absurd c_164 (by decide)
  · skip
    have c_147 : ¬ (((o_put (xs ((5 * k) + 1)) (xs ((5 * k) + 2)) S).1) = ((o_put (xs ((5 * k) + 1)) (xs ((5 * k) + 2)) S).1)) := fun h => c_147 ((nI_eq (by omega) (by omega)).mpr h)
    exact absurd rfl c_147
theorem o3_clear (p0 : Int32) (S : ST) : (o_clear p0 S).1 < 3 := by
  unfold o_clear
  (repeat' split) <;> simp
set_option maxRecDepth 100000 in
set_option maxHeartbeats 4000000 in
theorem law_clear {p : Program} {l : Launch} {e : Env} {s : State} {m : MethodId} {below : List Frame} {meth : Method} {c : Code} {Q : State → Prop} {b L : Nat} {xs : Nat → Int32} {D : va_G} {cI cR cJ : ClassId} {x : Nat → Nat} {mm : Nat} {q : Nat → Nat} {ou k : Nat} (C : LwC l p s m c b L xs D cI cR cJ x mm q ou) (hk : 5 * k + 5 ≤ L) {S : ST} {t : Nat} {fo : Nat → Int64} {g : Nat → Option va_E} {H : Heap} {locs : List Loc} {ls : Array Slot} {cells slots : Nat} (hc : cells ≤ 300 + 5 * k) (hs : slots ≤ 40000 + 30 * k) (HX : repX cI cR g x S) (HM : repM cI g mm q t S) (ho : g ou = some (.inl (cJ, 1, .inr (.inl fo)))) (hg : hw D hC (fun q => s.heap.size ≤ q) g H) (hS : va_S (fun q => s.heap.size ≤ q) s.heap H locs) (hl : lv_has ls 7 [(0, .ref b), (1, .ref (x 0)), (2, .ref mm), (3, .ref ou), (4, .int (nI (5 * k)))]) (kk : LwK p l e s m below meth c Q b D cI cR cJ x mm q ou k 980) : W p l e room_1 s m #[Value.ref b] below meth c H locs cells slots Q (F0 m 172 ls []) := by
  obtain ⟨S0, hK, hx, hz, hX, hbl, hL, hou, houm, hdm, hxm, hst⟩ := C
  have hA0 : ∀ q : Nat, s.heap.size ≤ q → (fun q : Nat => s.heap.size ≤ q) q := fun _ h => h
  have hbA : ¬ (fun q : Nat => s.heap.size ≤ q) b := Nat.not_le.mpr hbl
  have hc3 := o3_clear (xs ((5 * k) + 1)) S
  refine lv_aload_n S0.1 S0.2.1 dLa_law_172 rfl (lv_at hl 1 rfl) ?_
  refine lv_aload_n S0.1 S0.2.1 dLa_law_173 rfl (lv_at hl 0 rfl) ?_
  refine lv_iload S0.1 S0.2.1 dLa_law_174 (lv_at hl 4 rfl) ?_
  refine lv_iconst (v := nI 1) S0.1 S0.2.1 dLa_law_176 (by decide) ?_
  refine lv_iadd S0.1 S0.2.1 dLa_law_177 ?_
  refine hw_top (nI ((5 * k) + 1)) (nI_add _ _) ?_
  refine hw_sld S0.1 S0.2.1 hX hbl hbA hS (i := ((5 * k) + 1)) (by omega) (by omega) dLa_law_178 ?_
  refine hx_SWi (As := [.ref (x 0), .int (xs ((5 * k) + 1))]) (rest := []) S0 hK hg hS hA0 hx hz (c_La_clear l D cI cR cJ g _ hst x S (xs ((5 * k) + 1)) HX) kLa_clear lm_La_72 ⟨Nat.le_of_ble_eq_true rfl, Nat.le_of_ble_eq_true rfl⟩ rfl hl.1 rfl (Nat.le_of_ble_eq_true rfl) dLa_law_179 ⟨show cells + 5 ≤ 601024 by omega, show slots + 30 ≤ 7293034 by omega⟩ (fun r g1 H locs hp hg hS => ?_)
  refine W.widen (k := cells + 5) (n := slots + 30) (Nat.le_refl _) (Nat.le_refl _) ?_
  obtain ⟨fr1, HX1, hr⟩ := hp
  subst hr
  have HM1 : repM cI g1 mm q t S := HM.kept (fr1 mm (fun h => hdm _ List.mem_cons_self (List.mem_cons_of_mem _ h))) (fun i hi => fr1 (q i) (fun h => hdm _ (mS_q hi) (List.mem_cons_of_mem _ h)))
  have ho1 := fr1.at hou ho
  refine lv_istore (lv' := [(5, .int (nI ((o_clear (xs ((5 * k) + 1)) S).1))), (0, .ref b), (1, .ref (x 0)), (2, .ref mm), (3, .ref ou), (4, .int (nI (5 * k)))]) S0.1 S0.2.1 dLa_law_182 hl (by decide) rfl (fun ls hl => ?_)
  refine lv_aload_n S0.1 S0.2.1 dLa_law_184 rfl (lv_at hl 3 rfl) ?_
  refine lv_aload_n S0.1 S0.2.1 dLa_law_185 rfl (lv_at hl 1 rfl) ?_
  refine lv_iload S0.1 S0.2.1 dLa_law_186 (lv_at hl 5 rfl) ?_
  refine lv_iconst (v := nI 1) S0.1 S0.2.1 dLa_law_188 (by decide) ?_
  refine lv_iadd S0.1 S0.2.1 dLa_law_189 ?_
  refine hw_top (nI ((5 * k) + 1)) (nI_add _ _) ?_
  refine hw_sld S0.1 S0.2.1 hX hbl hbA hS (i := ((5 * k) + 1)) (by omega) (by omega) dLa_law_190 ?_
  obtain ⟨fm, hm0⟩ := repM0 HM1
  refine hw_Vv (As := [.int (xs ((5 * k) + 1))]) (rest := []) S0 hK hg hS hA0 hm0 rfl (c_MM_clear l D cI cR cJ g1 _ mm q t S (xs ((5 * k) + 1)) HM1) kMM_clear lm_La_75 ⟨Nat.le_of_ble_eq_true rfl, Nat.le_of_ble_eq_true rfl⟩ rfl hl.1 rfl (Nat.le_of_ble_eq_true rfl) dLa_law_191 ⟨show cells + 5 + 0 ≤ 601024 by omega, show slots + 30 + 0 ≤ 7293034 by omega⟩ (fun g2 H locs hp hg hS => ?_)
  refine W.widen (k := cells + 5) (n := slots + 30) (Nat.le_refl _) (Nat.le_refl _) ?_
  obtain ⟨fr2, HM2⟩ := hp
  have HX2 : repX cI cR g2 x (o_clear (xs ((5 * k) + 1)) S).2.2 := HX1.kept (fun i hi => fr2 (x i) (hxm i hi))
  have ho2 := fr2.at houm ho1
  refine lv_aload_n S0.1 S0.2.1 dLa_law_194 rfl (lv_at hl 3 rfl) ?_
  obtain ⟨fm2, hm2⟩ := repM0 HM2
  refine hw_Vi (As := []) (rest := []) S0 hK hg hS hA0 hm2 rfl (c_MM_thr l D cI cR cJ g2 _ mm q _ _ HM2) kMM_thrown lm_La_68 ⟨Nat.le_of_ble_eq_true rfl, Nat.le_of_ble_eq_true rfl⟩ rfl hl.1 rfl (Nat.le_of_ble_eq_true rfl) dLa_law_195 ⟨show cells + 5 + 0 ≤ 601024 by omega, show slots + 30 + 0 ≤ 7293034 by omega⟩ (fun o3 g3 H locs hp hg hS => ?_)
  refine W.widen (k := cells + 5) (n := slots + 30) (Nat.le_refl _) (Nat.le_refl _) ?_
  obtain ⟨eg, eo⟩ := hp
  rw [eg] at hg
  subst eo
  refine lv_iload S0.1 S0.2.1 dLa_law_198 (lv_at hl 0 rfl) ?_
  refine lv_icmp_eq (tgt := 205) S0.1 S0.2.1 dLa_law_200 (by decide) (fun c_200 => ?_) (fun c_200 => ?_)
  · skip
    have c_200 : ((o_clear (xs ((5 * k) + 1)) S).1) = ((o_clear (xs ((5 * k) + 1)) S).1) := (nI_eq (by omega) (by omega)).mp c_200
    refine lv_goto (tgt := 980) S0.1 S0.2.1 dLa_law_205 (by decide) ?_
    exact kk (o_clear (xs ((5 * k) + 1)) S).2.2 (o_clear (xs ((5 * k) + 1)) S).1 fo g2 _ _ _ _ _ (by omega) (by omega) HX2 HM2 ho2 hg hS (lv_sub hl [1, 2, 3, 4, 5] rfl)
  · skip
    have c_200 : ¬ (((o_clear (xs ((5 * k) + 1)) S).1) = ((o_clear (xs ((5 * k) + 1)) S).1)) := fun h => c_200 ((nI_eq (by omega) (by omega)).mpr h)
    exact absurd rfl c_200
theorem o3_size (p0 : Int32) (S : ST) : (o_size p0 S).1 < 3 := by
  unfold o_size
  (repeat' split) <;> simp
set_option maxRecDepth 100000 in
set_option maxHeartbeats 4000000 in
theorem law_size {p : Program} {l : Launch} {e : Env} {s : State} {m : MethodId} {below : List Frame} {meth : Method} {c : Code} {Q : State → Prop} {b L : Nat} {xs : Nat → Int32} {D : va_G} {cI cR cJ : ClassId} {x : Nat → Nat} {mm : Nat} {q : Nat → Nat} {ou k : Nat} (C : LwC l p s m c b L xs D cI cR cJ x mm q ou) (hk : 5 * k + 5 ≤ L) {S : ST} {t : Nat} {fo : Nat → Int64} {g : Nat → Option va_E} {H : Heap} {locs : List Loc} {ls : Array Slot} {cells slots : Nat} (hc : cells ≤ 300 + 5 * k) (hs : slots ≤ 40000 + 30 * k) (HX : repX cI cR g x S) (HM : repM cI g mm q t S) (ho : g ou = some (.inl (cJ, 1, .inr (.inl fo)))) (hg : hw D hC (fun q => s.heap.size ≤ q) g H) (hS : va_S (fun q => s.heap.size ≤ q) s.heap H locs) (hl : lv_has ls 7 [(0, .ref b), (1, .ref (x 0)), (2, .ref mm), (3, .ref ou), (4, .int (nI (5 * k)))]) (kk : LwK p l e s m below meth c Q b D cI cR cJ x mm q ou k 980) : W p l e room_1 s m #[Value.ref b] below meth c H locs cells slots Q (F0 m 208 ls []) := by
  obtain ⟨S0, hK, hx, hz, hX, hbl, hL, hou, houm, hdm, hxm, hst⟩ := C
  have hA0 : ∀ q : Nat, s.heap.size ≤ q → (fun q : Nat => s.heap.size ≤ q) q := fun _ h => h
  have hbA : ¬ (fun q : Nat => s.heap.size ≤ q) b := Nat.not_le.mpr hbl
  have hc3 := o3_size (xs ((5 * k) + 1)) S
  refine lv_aload_n S0.1 S0.2.1 dLa_law_208 rfl (lv_at hl 1 rfl) ?_
  refine lv_aload_n S0.1 S0.2.1 dLa_law_209 rfl (lv_at hl 0 rfl) ?_
  refine lv_iload S0.1 S0.2.1 dLa_law_210 (lv_at hl 4 rfl) ?_
  refine lv_iconst (v := nI 1) S0.1 S0.2.1 dLa_law_212 (by decide) ?_
  refine lv_iadd S0.1 S0.2.1 dLa_law_213 ?_
  refine hw_top (nI ((5 * k) + 1)) (nI_add _ _) ?_
  refine hw_sld S0.1 S0.2.1 hX hbl hbA hS (i := ((5 * k) + 1)) (by omega) (by omega) dLa_law_214 ?_
  refine lv_aload_n S0.1 S0.2.1 dLa_law_215 rfl (lv_at hl 3 rfl) ?_
  refine hx_SWi (As := [.ref (x 0), .int (xs ((5 * k) + 1)), .ref ou]) (rest := []) S0 hK hg hS hA0 hx hz (c_La_size l D cI cR cJ g _ hst x S (xs ((5 * k) + 1)) ou fo ho hou HX) kLa_size lm_La_76 ⟨Nat.le_of_ble_eq_true rfl, Nat.le_of_ble_eq_true rfl⟩ rfl hl.1 rfl (Nat.le_of_ble_eq_true rfl) dLa_law_216 ⟨show cells + 5 ≤ 601024 by omega, show slots + 30 ≤ 7293034 by omega⟩ (fun r g1 H locs hp hg hS => ?_)
  refine W.widen (k := cells + 5) (n := slots + 30) (Nat.le_refl _) (Nat.le_refl _) ?_
  obtain ⟨fr1, HX1, hr, f1, ho1, hf1⟩ := hp
  subst hr
  have HM1 : repM cI g1 mm q t S := HM.kept (fr1 mm (hdm _ List.mem_cons_self)) (fun i hi => fr1 (q i) (hdm _ (mS_q hi)))
  refine lv_istore (lv' := [(5, .int (nI ((o_size (xs ((5 * k) + 1)) S).1))), (0, .ref b), (1, .ref (x 0)), (2, .ref mm), (3, .ref ou), (4, .int (nI (5 * k)))]) S0.1 S0.2.1 dLa_law_219 hl (by decide) rfl (fun ls hl => ?_)
  refine lv_aload_n S0.1 S0.2.1 dLa_law_221 rfl (lv_at hl 3 rfl) ?_
  refine lv_aload_n S0.1 S0.2.1 dLa_law_222 rfl (lv_at hl 1 rfl) ?_
  refine lv_iload S0.1 S0.2.1 dLa_law_223 (lv_at hl 5 rfl) ?_
  refine lv_iconst (v := nI 1) S0.1 S0.2.1 dLa_law_225 (by decide) ?_
  refine lv_iadd S0.1 S0.2.1 dLa_law_226 ?_
  refine hw_top (nI ((5 * k) + 1)) (nI_add _ _) ?_
  refine hw_sld S0.1 S0.2.1 hX hbl hbA hS (i := ((5 * k) + 1)) (by omega) (by omega) dLa_law_227 ?_
  obtain ⟨fm, hm0⟩ := repM0 HM1
  refine hw_Vi (As := [.int (xs ((5 * k) + 1))]) (rest := []) S0 hK hg hS hA0 hm0 rfl (c_MM_size l D cI cR cJ g1 _ mm q t S (xs ((5 * k) + 1)) HM1) kMM_size lm_La_79 ⟨Nat.le_of_ble_eq_true rfl, Nat.le_of_ble_eq_true rfl⟩ rfl hl.1 rfl (Nat.le_of_ble_eq_true rfl) dLa_law_228 ⟨show cells + 5 + 0 ≤ 601024 by omega, show slots + 30 + 0 ≤ 7293034 by omega⟩ (fun o2 g2 H locs hp hg hS => ?_)
  refine W.widen (k := cells + 5) (n := slots + 30) (Nat.le_refl _) (Nat.le_refl _) ?_
  obtain ⟨fr2, HM2, hval⟩ := hp
  have HX2 : repX cI cR g2 x (o_size (xs ((5 * k) + 1)) S).2.2 := HX1.kept (fun i hi => fr2 (x i) (hxm i hi))
  have ho2 := fr2.at houm ho1
  refine lv_istore (lv' := [(6, .int o2), (5, .int (nI ((o_size (xs ((5 * k) + 1)) S).1))), (0, .ref b), (1, .ref (x 0)), (2, .ref mm), (3, .ref ou), (4, .int (nI (5 * k)))]) S0.1 S0.2.1 dLa_law_231 hl (by decide) rfl (fun ls hl => ?_)
  refine lv_aload_n S0.1 S0.2.1 dLa_law_233 rfl (lv_at hl 4 rfl) ?_
  obtain ⟨fm2, hm2⟩ := repM0 HM2
  refine hw_Vi (As := []) (rest := []) S0 hK hg hS hA0 hm2 rfl (c_MM_thr l D cI cR cJ g2 _ mm q _ _ HM2) kMM_thrown lm_La_68 ⟨Nat.le_of_ble_eq_true rfl, Nat.le_of_ble_eq_true rfl⟩ rfl hl.1 rfl (Nat.le_of_ble_eq_true rfl) dLa_law_234 ⟨show cells + 5 + 0 ≤ 601024 by omega, show slots + 30 + 0 ≤ 7293034 by omega⟩ (fun o3 g3 H locs hp hg hS => ?_)
  refine W.widen (k := cells + 5) (n := slots + 30) (Nat.le_refl _) (Nat.le_refl _) ?_
  obtain ⟨eg, eo⟩ := hp
  rw [eg] at hg
  subst eo
  refine lv_iload S0.1 S0.2.1 dLa_law_237 (lv_at hl 1 rfl) ?_
  refine lv_icmp_eq (tgt := 244) S0.1 S0.2.1 dLa_law_239 (by decide) (fun c_239 => ?_) (fun c_239 => ?_)
  · skip
    have c_239 : ((o_size (xs ((5 * k) + 1)) S).1) = ((o_size (xs ((5 * k) + 1)) S).1) := (nI_eq (by omega) (by omega)).mp c_239
    refine lv_iload S0.1 S0.2.1 dLa_law_244 (lv_at hl 1 rfl) ?_
    refine lv_if_ne (tgt := 261) S0.1 S0.2.1 dLa_law_246 (by decide) (fun c_246 => ?_) (fun c_246 => ?_)
    · skip
      rw [← nI_0] at c_246
      have c_246 : ¬ (((o_size (xs ((5 * k) + 1)) S).1) = 0) := fun h => c_246 ((nI_eq (by omega) (by omega)).mpr h)
      refine lv_goto (tgt := 980) S0.1 S0.2.1 dLa_law_261 (by decide) ?_
      exact kk (o_size (xs ((5 * k) + 1)) S).2.2 (o_size (xs ((5 * k) + 1)) S).1 f1 g2 _ _ _ _ _ (by omega) (by omega) HX2 HM2 ho2 hg hS (lv_sub hl [2, 3, 4, 5, 6] rfl)
    · skip
      rw [← nI_0] at c_246
      have c_246 : ((o_size (xs ((5 * k) + 1)) S).1) = 0 := (nI_eq (by omega) (by omega)).mp c_246
      refine lv_aload_n S0.1 S0.2.1 dLa_law_249 rfl (lv_at hl 5 rfl) ?_
      refine lv_iconst (v := nI 0) S0.1 S0.2.1 dLa_law_250 (by decide) ?_
      refine hw_lald S0 hK hg ho2 2 rfl (by omega) (by omega) dLa_law_251 ?_
      refine lv_iload S0.1 S0.2.1 dLa_law_252 (lv_at hl 0 rfl) ?_
      refine lv_i2l (v := (o2).toInt64) S0.1 S0.2.1 dLa_law_254 rfl ?_
      refine lv_lcmpE S0.1 S0.2.1 (show f1 0 = o2.toInt64 by rw [hf1 c_246, hval c_246]) dLa_law_255 ?_
      refine hw_top (nI 0) rfl ?_
      refine lv_if_eq (tgt := 261) S0.1 S0.2.1 dLa_law_256 (by decide) (fun c_256 => ?_) (fun c_256 => ?_)
      · skip
        rw [← nI_0] at c_256
        have c_256 : 0 = 0 := (nI_eq (by omega) (by omega)).mp c_256
        refine lv_goto (tgt := 980) S0.1 S0.2.1 dLa_law_261 (by decide) ?_
        exact kk (o_size (xs ((5 * k) + 1)) S).2.2 (o_size (xs ((5 * k) + 1)) S).1 f1 g2 _ _ _ _ _ (by omega) (by omega) HX2 HM2 ho2 hg hS (lv_sub hl [2, 3, 4, 5, 6] rfl)
      · skip
        rw [← nI_0] at c_256
        have c_256 : ¬ (0 = 0) := fun h => c_256 ((nI_eq (by omega) (by omega)).mpr h)
        exact absurd c_256 (by decide)
  · skip
    have c_239 : ¬ (((o_size (xs ((5 * k) + 1)) S).1) = ((o_size (xs ((5 * k) + 1)) S).1)) := fun h => c_239 ((nI_eq (by omega) (by omega)).mpr h)
    exact absurd rfl c_239
theorem o3_get (p0 p1 : Int32) (S : ST) : (o_get p0 p1 S).1 < 3 := by
  unfold o_get
  (repeat' split) <;> simp
set_option maxRecDepth 100000 in
set_option maxHeartbeats 4000000 in
theorem law_get {p : Program} {l : Launch} {e : Env} {s : State} {m : MethodId} {below : List Frame} {meth : Method} {c : Code} {Q : State → Prop} {b L : Nat} {xs : Nat → Int32} {D : va_G} {cI cR cJ : ClassId} {x : Nat → Nat} {mm : Nat} {q : Nat → Nat} {ou k : Nat} (C : LwC l p s m c b L xs D cI cR cJ x mm q ou) (hk : 5 * k + 5 ≤ L) {S : ST} {t : Nat} {fo : Nat → Int64} {g : Nat → Option va_E} {H : Heap} {locs : List Loc} {ls : Array Slot} {cells slots : Nat} (hc : cells ≤ 300 + 5 * k) (hs : slots ≤ 40000 + 30 * k) (HX : repX cI cR g x S) (HM : repM cI g mm q t S) (ho : g ou = some (.inl (cJ, 1, .inr (.inl fo)))) (hg : hw D hC (fun q => s.heap.size ≤ q) g H) (hS : va_S (fun q => s.heap.size ≤ q) s.heap H locs) (hl : lv_has ls 7 [(0, .ref b), (1, .ref (x 0)), (2, .ref mm), (3, .ref ou), (4, .int (nI (5 * k)))]) (kk : LwK p l e s m below meth c Q b D cI cR cJ x mm q ou k 980) : W p l e room_1 s m #[Value.ref b] below meth c H locs cells slots Q (F0 m 264 ls []) := by
  obtain ⟨S0, hK, hx, hz, hX, hbl, hL, hou, houm, hdm, hxm, hst⟩ := C
  have hA0 : ∀ q : Nat, s.heap.size ≤ q → (fun q : Nat => s.heap.size ≤ q) q := fun _ h => h
  have hbA : ¬ (fun q : Nat => s.heap.size ≤ q) b := Nat.not_le.mpr hbl
  have hc3 := o3_get (xs ((5 * k) + 1)) (xs ((5 * k) + 2)) S
  refine lv_aload_n S0.1 S0.2.1 dLa_law_264 rfl (lv_at hl 1 rfl) ?_
  refine lv_aload_n S0.1 S0.2.1 dLa_law_265 rfl (lv_at hl 0 rfl) ?_
  refine lv_iload S0.1 S0.2.1 dLa_law_266 (lv_at hl 4 rfl) ?_
  refine lv_iconst (v := nI 1) S0.1 S0.2.1 dLa_law_268 (by decide) ?_
  refine lv_iadd S0.1 S0.2.1 dLa_law_269 ?_
  refine hw_top (nI ((5 * k) + 1)) (nI_add _ _) ?_
  refine hw_sld S0.1 S0.2.1 hX hbl hbA hS (i := ((5 * k) + 1)) (by omega) (by omega) dLa_law_270 ?_
  refine lv_aload_n S0.1 S0.2.1 dLa_law_271 rfl (lv_at hl 0 rfl) ?_
  refine lv_iload S0.1 S0.2.1 dLa_law_272 (lv_at hl 4 rfl) ?_
  refine lv_iconst (v := nI 2) S0.1 S0.2.1 dLa_law_274 (by decide) ?_
  refine lv_iadd S0.1 S0.2.1 dLa_law_275 ?_
  refine hw_top (nI ((5 * k) + 2)) (nI_add _ _) ?_
  refine hw_sld S0.1 S0.2.1 hX hbl hbA hS (i := ((5 * k) + 2)) (by omega) (by omega) dLa_law_276 ?_
  refine lv_aload_n S0.1 S0.2.1 dLa_law_277 rfl (lv_at hl 3 rfl) ?_
  refine hx_SWi (As := [.ref (x 0), .int (xs ((5 * k) + 1)), .int (xs ((5 * k) + 2)), .ref ou]) (rest := []) S0 hK hg hS hA0 hx hz (c_La_get l D cI cR cJ g _ hst x S (xs ((5 * k) + 1)) (xs ((5 * k) + 2)) ou fo ho hou HX) kLa_get lm_La_80 ⟨Nat.le_of_ble_eq_true rfl, Nat.le_of_ble_eq_true rfl⟩ rfl hl.1 rfl (Nat.le_of_ble_eq_true rfl) dLa_law_278 ⟨show cells + 5 ≤ 601024 by omega, show slots + 30 ≤ 7293034 by omega⟩ (fun r g1 H locs hp hg hS => ?_)
  refine W.widen (k := cells + 5) (n := slots + 30) (Nat.le_refl _) (Nat.le_refl _) ?_
  obtain ⟨fr1, HX1, hr, f1, ho1, hf1⟩ := hp
  subst hr
  have HM1 : repM cI g1 mm q t S := HM.kept (fr1 mm (hdm _ List.mem_cons_self)) (fun i hi => fr1 (q i) (hdm _ (mS_q hi)))
  refine lv_istore (lv' := [(5, .int (nI ((o_get (xs ((5 * k) + 1)) (xs ((5 * k) + 2)) S).1))), (0, .ref b), (1, .ref (x 0)), (2, .ref mm), (3, .ref ou), (4, .int (nI (5 * k)))]) S0.1 S0.2.1 dLa_law_281 hl (by decide) rfl (fun ls hl => ?_)
  refine lv_aload_n S0.1 S0.2.1 dLa_law_283 rfl (lv_at hl 3 rfl) ?_
  refine lv_aload_n S0.1 S0.2.1 dLa_law_284 rfl (lv_at hl 1 rfl) ?_
  refine lv_iload S0.1 S0.2.1 dLa_law_285 (lv_at hl 5 rfl) ?_
  refine lv_iconst (v := nI 1) S0.1 S0.2.1 dLa_law_287 (by decide) ?_
  refine lv_iadd S0.1 S0.2.1 dLa_law_288 ?_
  refine hw_top (nI ((5 * k) + 1)) (nI_add _ _) ?_
  refine hw_sld S0.1 S0.2.1 hX hbl hbA hS (i := ((5 * k) + 1)) (by omega) (by omega) dLa_law_289 ?_
  refine lv_aload_n S0.1 S0.2.1 dLa_law_290 rfl (lv_at hl 1 rfl) ?_
  refine lv_iload S0.1 S0.2.1 dLa_law_291 (lv_at hl 5 rfl) ?_
  refine lv_iconst (v := nI 2) S0.1 S0.2.1 dLa_law_293 (by decide) ?_
  refine lv_iadd S0.1 S0.2.1 dLa_law_294 ?_
  refine hw_top (nI ((5 * k) + 2)) (nI_add _ _) ?_
  refine hw_sld S0.1 S0.2.1 hX hbl hbA hS (i := ((5 * k) + 2)) (by omega) (by omega) dLa_law_295 ?_
  obtain ⟨fm, hm0⟩ := repM0 HM1
  refine hw_Vi (As := [.int (xs ((5 * k) + 1)), .int (xs ((5 * k) + 2))]) (rest := []) S0 hK hg hS hA0 hm0 rfl (c_MM_get l D cI cR cJ g1 _ mm q t S (xs ((5 * k) + 1)) (xs ((5 * k) + 2)) HM1) kMM_get lm_La_82 ⟨Nat.le_of_ble_eq_true rfl, Nat.le_of_ble_eq_true rfl⟩ rfl hl.1 rfl (Nat.le_of_ble_eq_true rfl) dLa_law_296 ⟨show cells + 5 + 0 ≤ 601024 by omega, show slots + 30 + 0 ≤ 7293034 by omega⟩ (fun o2 g2 H locs hp hg hS => ?_)
  refine W.widen (k := cells + 5) (n := slots + 30) (Nat.le_refl _) (Nat.le_refl _) ?_
  obtain ⟨fr2, HM2, hval⟩ := hp
  have HX2 : repX cI cR g2 x (o_get (xs ((5 * k) + 1)) (xs ((5 * k) + 2)) S).2.2 := HX1.kept (fun i hi => fr2 (x i) (hxm i hi))
  have ho2 := fr2.at houm ho1
  refine lv_istore (lv' := [(6, .int o2), (5, .int (nI ((o_get (xs ((5 * k) + 1)) (xs ((5 * k) + 2)) S).1))), (0, .ref b), (1, .ref (x 0)), (2, .ref mm), (3, .ref ou), (4, .int (nI (5 * k)))]) S0.1 S0.2.1 dLa_law_299 hl (by decide) rfl (fun ls hl => ?_)
  refine lv_aload_n S0.1 S0.2.1 dLa_law_301 rfl (lv_at hl 4 rfl) ?_
  obtain ⟨fm2, hm2⟩ := repM0 HM2
  refine hw_Vi (As := []) (rest := []) S0 hK hg hS hA0 hm2 rfl (c_MM_thr l D cI cR cJ g2 _ mm q _ _ HM2) kMM_thrown lm_La_68 ⟨Nat.le_of_ble_eq_true rfl, Nat.le_of_ble_eq_true rfl⟩ rfl hl.1 rfl (Nat.le_of_ble_eq_true rfl) dLa_law_302 ⟨show cells + 5 + 0 ≤ 601024 by omega, show slots + 30 + 0 ≤ 7293034 by omega⟩ (fun o3 g3 H locs hp hg hS => ?_)
  refine W.widen (k := cells + 5) (n := slots + 30) (Nat.le_refl _) (Nat.le_refl _) ?_
  obtain ⟨eg, eo⟩ := hp
  rw [eg] at hg
  subst eo
  refine lv_iload S0.1 S0.2.1 dLa_law_305 (lv_at hl 1 rfl) ?_
  refine lv_icmp_eq (tgt := 312) S0.1 S0.2.1 dLa_law_307 (by decide) (fun c_307 => ?_) (fun c_307 => ?_)
  · skip
    have c_307 : ((o_get (xs ((5 * k) + 1)) (xs ((5 * k) + 2)) S).1) = ((o_get (xs ((5 * k) + 1)) (xs ((5 * k) + 2)) S).1) := (nI_eq (by omega) (by omega)).mp c_307
    refine lv_iload S0.1 S0.2.1 dLa_law_312 (lv_at hl 1 rfl) ?_
    refine lv_if_ne (tgt := 329) S0.1 S0.2.1 dLa_law_314 (by decide) (fun c_314 => ?_) (fun c_314 => ?_)
    · skip
      rw [← nI_0] at c_314
      have c_314 : ¬ (((o_get (xs ((5 * k) + 1)) (xs ((5 * k) + 2)) S).1) = 0) := fun h => c_314 ((nI_eq (by omega) (by omega)).mpr h)
      refine lv_goto (tgt := 980) S0.1 S0.2.1 dLa_law_329 (by decide) ?_
      exact kk (o_get (xs ((5 * k) + 1)) (xs ((5 * k) + 2)) S).2.2 (o_get (xs ((5 * k) + 1)) (xs ((5 * k) + 2)) S).1 f1 g2 _ _ _ _ _ (by omega) (by omega) HX2 HM2 ho2 hg hS (lv_sub hl [2, 3, 4, 5, 6] rfl)
    · skip
      rw [← nI_0] at c_314
      have c_314 : ((o_get (xs ((5 * k) + 1)) (xs ((5 * k) + 2)) S).1) = 0 := (nI_eq (by omega) (by omega)).mp c_314
      refine lv_aload_n S0.1 S0.2.1 dLa_law_317 rfl (lv_at hl 5 rfl) ?_
      refine lv_iconst (v := nI 0) S0.1 S0.2.1 dLa_law_318 (by decide) ?_
      refine hw_lald S0 hK hg ho2 2 rfl (by omega) (by omega) dLa_law_319 ?_
      refine lv_iload S0.1 S0.2.1 dLa_law_320 (lv_at hl 0 rfl) ?_
      refine lv_i2l (v := (o2).toInt64) S0.1 S0.2.1 dLa_law_322 rfl ?_
      refine lv_lcmpE S0.1 S0.2.1 (show f1 0 = o2.toInt64 by rw [hf1 c_314, hval c_314]) dLa_law_323 ?_
      refine hw_top (nI 0) rfl ?_
      refine lv_if_eq (tgt := 329) S0.1 S0.2.1 dLa_law_324 (by decide) (fun c_324 => ?_) (fun c_324 => ?_)
      · skip
        rw [← nI_0] at c_324
        have c_324 : 0 = 0 := (nI_eq (by omega) (by omega)).mp c_324
        refine lv_goto (tgt := 980) S0.1 S0.2.1 dLa_law_329 (by decide) ?_
        exact kk (o_get (xs ((5 * k) + 1)) (xs ((5 * k) + 2)) S).2.2 (o_get (xs ((5 * k) + 1)) (xs ((5 * k) + 2)) S).1 f1 g2 _ _ _ _ _ (by omega) (by omega) HX2 HM2 ho2 hg hS (lv_sub hl [2, 3, 4, 5, 6] rfl)
      · skip
        rw [← nI_0] at c_324
        have c_324 : ¬ (0 = 0) := fun h => c_324 ((nI_eq (by omega) (by omega)).mpr h)
        exact absurd c_324 (by decide)
  · skip
    have c_307 : ¬ (((o_get (xs ((5 * k) + 1)) (xs ((5 * k) + 2)) S).1) = ((o_get (xs ((5 * k) + 1)) (xs ((5 * k) + 2)) S).1)) := fun h => c_307 ((nI_eq (by omega) (by omega)).mpr h)
    exact absurd rfl c_307
theorem o3_common (p0 p1 : Int32) (S : ST) : (o_common p0 p1 S).1 < 3 := by
  unfold o_common
  (repeat' split) <;> simp
set_option maxRecDepth 100000 in
set_option maxHeartbeats 4000000 in
theorem law_common {p : Program} {l : Launch} {e : Env} {s : State} {m : MethodId} {below : List Frame} {meth : Method} {c : Code} {Q : State → Prop} {b L : Nat} {xs : Nat → Int32} {D : va_G} {cI cR cJ : ClassId} {x : Nat → Nat} {mm : Nat} {q : Nat → Nat} {ou k : Nat} (C : LwC l p s m c b L xs D cI cR cJ x mm q ou) (hk : 5 * k + 5 ≤ L) {S : ST} {t : Nat} {fo : Nat → Int64} {g : Nat → Option va_E} {H : Heap} {locs : List Loc} {ls : Array Slot} {cells slots : Nat} (hc : cells ≤ 300 + 5 * k) (hs : slots ≤ 40000 + 30 * k) (HX : repX cI cR g x S) (HM : repM cI g mm q t S) (ho : g ou = some (.inl (cJ, 1, .inr (.inl fo)))) (hg : hw D hC (fun q => s.heap.size ≤ q) g H) (hS : va_S (fun q => s.heap.size ≤ q) s.heap H locs) (hl : lv_has ls 7 [(0, .ref b), (1, .ref (x 0)), (2, .ref mm), (3, .ref ou), (4, .int (nI (5 * k)))]) (kk : LwK p l e s m below meth c Q b D cI cR cJ x mm q ou k 980) : W p l e room_1 s m #[Value.ref b] below meth c H locs cells slots Q (F0 m 332 ls []) := by
  obtain ⟨S0, hK, hx, hz, hX, hbl, hL, hou, houm, hdm, hxm, hst⟩ := C
  have hA0 : ∀ q : Nat, s.heap.size ≤ q → (fun q : Nat => s.heap.size ≤ q) q := fun _ h => h
  have hbA : ¬ (fun q : Nat => s.heap.size ≤ q) b := Nat.not_le.mpr hbl
  have hc3 := o3_common (xs ((5 * k) + 1)) (xs ((5 * k) + 2)) S
  refine lv_aload_n S0.1 S0.2.1 dLa_law_332 rfl (lv_at hl 1 rfl) ?_
  refine lv_aload_n S0.1 S0.2.1 dLa_law_333 rfl (lv_at hl 0 rfl) ?_
  refine lv_iload S0.1 S0.2.1 dLa_law_334 (lv_at hl 4 rfl) ?_
  refine lv_iconst (v := nI 1) S0.1 S0.2.1 dLa_law_336 (by decide) ?_
  refine lv_iadd S0.1 S0.2.1 dLa_law_337 ?_
  refine hw_top (nI ((5 * k) + 1)) (nI_add _ _) ?_
  refine hw_sld S0.1 S0.2.1 hX hbl hbA hS (i := ((5 * k) + 1)) (by omega) (by omega) dLa_law_338 ?_
  refine lv_aload_n S0.1 S0.2.1 dLa_law_339 rfl (lv_at hl 0 rfl) ?_
  refine lv_iload S0.1 S0.2.1 dLa_law_340 (lv_at hl 4 rfl) ?_
  refine lv_iconst (v := nI 2) S0.1 S0.2.1 dLa_law_342 (by decide) ?_
  refine lv_iadd S0.1 S0.2.1 dLa_law_343 ?_
  refine hw_top (nI ((5 * k) + 2)) (nI_add _ _) ?_
  refine hw_sld S0.1 S0.2.1 hX hbl hbA hS (i := ((5 * k) + 2)) (by omega) (by omega) dLa_law_344 ?_
  refine lv_aload_n S0.1 S0.2.1 dLa_law_345 rfl (lv_at hl 3 rfl) ?_
  refine hx_SWi (As := [.ref (x 0), .int (xs ((5 * k) + 1)), .int (xs ((5 * k) + 2)), .ref ou]) (rest := []) S0 hK hg hS hA0 hx hz (c_La_common l D cI cR cJ g _ hst x S (xs ((5 * k) + 1)) (xs ((5 * k) + 2)) ou fo ho hou HX) kLa_common lm_La_83 ⟨Nat.le_of_ble_eq_true rfl, Nat.le_of_ble_eq_true rfl⟩ rfl hl.1 rfl (Nat.le_of_ble_eq_true rfl) dLa_law_346 ⟨show cells + 5 ≤ 601024 by omega, show slots + 30 ≤ 7293034 by omega⟩ (fun r g1 H locs hp hg hS => ?_)
  refine W.widen (k := cells + 5) (n := slots + 30) (Nat.le_refl _) (Nat.le_refl _) ?_
  obtain ⟨fr1, HX1, hr, f1, ho1, hf1⟩ := hp
  subst hr
  have HM1 : repM cI g1 mm q t S := HM.kept (fr1 mm (hdm _ List.mem_cons_self)) (fun i hi => fr1 (q i) (hdm _ (mS_q hi)))
  refine lv_istore (lv' := [(5, .int (nI ((o_common (xs ((5 * k) + 1)) (xs ((5 * k) + 2)) S).1))), (0, .ref b), (1, .ref (x 0)), (2, .ref mm), (3, .ref ou), (4, .int (nI (5 * k)))]) S0.1 S0.2.1 dLa_law_349 hl (by decide) rfl (fun ls hl => ?_)
  refine lv_aload_n S0.1 S0.2.1 dLa_law_351 rfl (lv_at hl 3 rfl) ?_
  refine lv_aload_n S0.1 S0.2.1 dLa_law_352 rfl (lv_at hl 1 rfl) ?_
  refine lv_iload S0.1 S0.2.1 dLa_law_353 (lv_at hl 5 rfl) ?_
  refine lv_iconst (v := nI 1) S0.1 S0.2.1 dLa_law_355 (by decide) ?_
  refine lv_iadd S0.1 S0.2.1 dLa_law_356 ?_
  refine hw_top (nI ((5 * k) + 1)) (nI_add _ _) ?_
  refine hw_sld S0.1 S0.2.1 hX hbl hbA hS (i := ((5 * k) + 1)) (by omega) (by omega) dLa_law_357 ?_
  refine lv_aload_n S0.1 S0.2.1 dLa_law_358 rfl (lv_at hl 1 rfl) ?_
  refine lv_iload S0.1 S0.2.1 dLa_law_359 (lv_at hl 5 rfl) ?_
  refine lv_iconst (v := nI 2) S0.1 S0.2.1 dLa_law_361 (by decide) ?_
  refine lv_iadd S0.1 S0.2.1 dLa_law_362 ?_
  refine hw_top (nI ((5 * k) + 2)) (nI_add _ _) ?_
  refine hw_sld S0.1 S0.2.1 hX hbl hbA hS (i := ((5 * k) + 2)) (by omega) (by omega) dLa_law_363 ?_
  obtain ⟨fm, hm0⟩ := repM0 HM1
  refine hw_Vi (As := [.int (xs ((5 * k) + 1)), .int (xs ((5 * k) + 2))]) (rest := []) S0 hK hg hS hA0 hm0 rfl (c_MM_common l D cI cR cJ g1 _ mm q t S (xs ((5 * k) + 1)) (xs ((5 * k) + 2)) HM1) kMM_common lm_La_85 ⟨Nat.le_of_ble_eq_true rfl, Nat.le_of_ble_eq_true rfl⟩ rfl hl.1 rfl (Nat.le_of_ble_eq_true rfl) dLa_law_364 ⟨show cells + 5 + 0 ≤ 601024 by omega, show slots + 30 + 0 ≤ 7293034 by omega⟩ (fun o2 g2 H locs hp hg hS => ?_)
  refine W.widen (k := cells + 5) (n := slots + 30) (Nat.le_refl _) (Nat.le_refl _) ?_
  obtain ⟨fr2, HM2, hval⟩ := hp
  have HX2 : repX cI cR g2 x (o_common (xs ((5 * k) + 1)) (xs ((5 * k) + 2)) S).2.2 := HX1.kept (fun i hi => fr2 (x i) (hxm i hi))
  have ho2 := fr2.at houm ho1
  refine lv_istore (lv' := [(6, .int o2), (5, .int (nI ((o_common (xs ((5 * k) + 1)) (xs ((5 * k) + 2)) S).1))), (0, .ref b), (1, .ref (x 0)), (2, .ref mm), (3, .ref ou), (4, .int (nI (5 * k)))]) S0.1 S0.2.1 dLa_law_367 hl (by decide) rfl (fun ls hl => ?_)
  refine lv_aload_n S0.1 S0.2.1 dLa_law_369 rfl (lv_at hl 4 rfl) ?_
  obtain ⟨fm2, hm2⟩ := repM0 HM2
  refine hw_Vi (As := []) (rest := []) S0 hK hg hS hA0 hm2 rfl (c_MM_thr l D cI cR cJ g2 _ mm q _ _ HM2) kMM_thrown lm_La_68 ⟨Nat.le_of_ble_eq_true rfl, Nat.le_of_ble_eq_true rfl⟩ rfl hl.1 rfl (Nat.le_of_ble_eq_true rfl) dLa_law_370 ⟨show cells + 5 + 0 ≤ 601024 by omega, show slots + 30 + 0 ≤ 7293034 by omega⟩ (fun o3 g3 H locs hp hg hS => ?_)
  refine W.widen (k := cells + 5) (n := slots + 30) (Nat.le_refl _) (Nat.le_refl _) ?_
  obtain ⟨eg, eo⟩ := hp
  rw [eg] at hg
  subst eo
  refine lv_iload S0.1 S0.2.1 dLa_law_373 (lv_at hl 1 rfl) ?_
  refine lv_icmp_eq (tgt := 380) S0.1 S0.2.1 dLa_law_375 (by decide) (fun c_375 => ?_) (fun c_375 => ?_)
  · skip
    have c_375 : ((o_common (xs ((5 * k) + 1)) (xs ((5 * k) + 2)) S).1) = ((o_common (xs ((5 * k) + 1)) (xs ((5 * k) + 2)) S).1) := (nI_eq (by omega) (by omega)).mp c_375
    refine lv_iload S0.1 S0.2.1 dLa_law_380 (lv_at hl 1 rfl) ?_
    refine lv_if_ne (tgt := 397) S0.1 S0.2.1 dLa_law_382 (by decide) (fun c_382 => ?_) (fun c_382 => ?_)
    · skip
      rw [← nI_0] at c_382
      have c_382 : ¬ (((o_common (xs ((5 * k) + 1)) (xs ((5 * k) + 2)) S).1) = 0) := fun h => c_382 ((nI_eq (by omega) (by omega)).mpr h)
      refine lv_goto (tgt := 980) S0.1 S0.2.1 dLa_law_397 (by decide) ?_
      exact kk (o_common (xs ((5 * k) + 1)) (xs ((5 * k) + 2)) S).2.2 (o_common (xs ((5 * k) + 1)) (xs ((5 * k) + 2)) S).1 f1 g2 _ _ _ _ _ (by omega) (by omega) HX2 HM2 ho2 hg hS (lv_sub hl [2, 3, 4, 5, 6] rfl)
    · skip
      rw [← nI_0] at c_382
      have c_382 : ((o_common (xs ((5 * k) + 1)) (xs ((5 * k) + 2)) S).1) = 0 := (nI_eq (by omega) (by omega)).mp c_382
      refine lv_aload_n S0.1 S0.2.1 dLa_law_385 rfl (lv_at hl 5 rfl) ?_
      refine lv_iconst (v := nI 0) S0.1 S0.2.1 dLa_law_386 (by decide) ?_
      refine hw_lald S0 hK hg ho2 2 rfl (by omega) (by omega) dLa_law_387 ?_
      refine lv_iload S0.1 S0.2.1 dLa_law_388 (lv_at hl 0 rfl) ?_
      refine lv_i2l (v := (o2).toInt64) S0.1 S0.2.1 dLa_law_390 rfl ?_
      refine lv_lcmpE S0.1 S0.2.1 (show f1 0 = o2.toInt64 by rw [hf1 c_382, hval c_382]) dLa_law_391 ?_
      refine hw_top (nI 0) rfl ?_
      refine lv_if_eq (tgt := 397) S0.1 S0.2.1 dLa_law_392 (by decide) (fun c_392 => ?_) (fun c_392 => ?_)
      · skip
        rw [← nI_0] at c_392
        have c_392 : 0 = 0 := (nI_eq (by omega) (by omega)).mp c_392
        refine lv_goto (tgt := 980) S0.1 S0.2.1 dLa_law_397 (by decide) ?_
        exact kk (o_common (xs ((5 * k) + 1)) (xs ((5 * k) + 2)) S).2.2 (o_common (xs ((5 * k) + 1)) (xs ((5 * k) + 2)) S).1 f1 g2 _ _ _ _ _ (by omega) (by omega) HX2 HM2 ho2 hg hS (lv_sub hl [2, 3, 4, 5, 6] rfl)
      · skip
        rw [← nI_0] at c_392
        have c_392 : ¬ (0 = 0) := fun h => c_392 ((nI_eq (by omega) (by omega)).mpr h)
        exact absurd c_392 (by decide)
  · skip
    have c_375 : ¬ (((o_common (xs ((5 * k) + 1)) (xs ((5 * k) + 2)) S).1) = ((o_common (xs ((5 * k) + 1)) (xs ((5 * k) + 2)) S).1)) := fun h => c_375 ((nI_eq (by omega) (by omega)).mpr h)
    exact absurd rfl c_375
theorem o3_pair (p0 p1 : Int32) (S : ST) : (o_pair p0 p1 S).1 < 3 := by
  unfold o_pair
  (repeat' split) <;> simp
set_option maxRecDepth 100000 in
set_option maxHeartbeats 4000000 in
theorem law_pair {p : Program} {l : Launch} {e : Env} {s : State} {m : MethodId} {below : List Frame} {meth : Method} {c : Code} {Q : State → Prop} {b L : Nat} {xs : Nat → Int32} {D : va_G} {cI cR cJ : ClassId} {x : Nat → Nat} {mm : Nat} {q : Nat → Nat} {ou k : Nat} (C : LwC l p s m c b L xs D cI cR cJ x mm q ou) (hk : 5 * k + 5 ≤ L) {S : ST} {t : Nat} {fo : Nat → Int64} {g : Nat → Option va_E} {H : Heap} {locs : List Loc} {ls : Array Slot} {cells slots : Nat} (hc : cells ≤ 300 + 5 * k) (hs : slots ≤ 40000 + 30 * k) (HX : repX cI cR g x S) (HM : repM cI g mm q t S) (ho : g ou = some (.inl (cJ, 1, .inr (.inl fo)))) (hg : hw D hC (fun q => s.heap.size ≤ q) g H) (hS : va_S (fun q => s.heap.size ≤ q) s.heap H locs) (hl : lv_has ls 7 [(0, .ref b), (1, .ref (x 0)), (2, .ref mm), (3, .ref ou), (4, .int (nI (5 * k)))]) (kk : LwK p l e s m below meth c Q b D cI cR cJ x mm q ou k 980) : W p l e room_1 s m #[Value.ref b] below meth c H locs cells slots Q (F0 m 400 ls []) := by
  obtain ⟨S0, hK, hx, hz, hX, hbl, hL, hou, houm, hdm, hxm, hst⟩ := C
  have hA0 : ∀ q : Nat, s.heap.size ≤ q → (fun q : Nat => s.heap.size ≤ q) q := fun _ h => h
  have hbA : ¬ (fun q : Nat => s.heap.size ≤ q) b := Nat.not_le.mpr hbl
  have hc3 := o3_pair (xs ((5 * k) + 1)) (xs ((5 * k) + 2)) S
  refine lv_aload_n S0.1 S0.2.1 dLa_law_400 rfl (lv_at hl 1 rfl) ?_
  refine lv_aload_n S0.1 S0.2.1 dLa_law_401 rfl (lv_at hl 0 rfl) ?_
  refine lv_iload S0.1 S0.2.1 dLa_law_402 (lv_at hl 4 rfl) ?_
  refine lv_iconst (v := nI 1) S0.1 S0.2.1 dLa_law_404 (by decide) ?_
  refine lv_iadd S0.1 S0.2.1 dLa_law_405 ?_
  refine hw_top (nI ((5 * k) + 1)) (nI_add _ _) ?_
  refine hw_sld S0.1 S0.2.1 hX hbl hbA hS (i := ((5 * k) + 1)) (by omega) (by omega) dLa_law_406 ?_
  refine lv_aload_n S0.1 S0.2.1 dLa_law_407 rfl (lv_at hl 0 rfl) ?_
  refine lv_iload S0.1 S0.2.1 dLa_law_408 (lv_at hl 4 rfl) ?_
  refine lv_iconst (v := nI 2) S0.1 S0.2.1 dLa_law_410 (by decide) ?_
  refine lv_iadd S0.1 S0.2.1 dLa_law_411 ?_
  refine hw_top (nI ((5 * k) + 2)) (nI_add _ _) ?_
  refine hw_sld S0.1 S0.2.1 hX hbl hbA hS (i := ((5 * k) + 2)) (by omega) (by omega) dLa_law_412 ?_
  refine lv_aload_n S0.1 S0.2.1 dLa_law_413 rfl (lv_at hl 3 rfl) ?_
  refine hx_SWi (As := [.ref (x 0), .int (xs ((5 * k) + 1)), .int (xs ((5 * k) + 2)), .ref ou]) (rest := []) S0 hK hg hS hA0 hx hz (c_La_pair l D cI cR cJ g _ hst x S (xs ((5 * k) + 1)) (xs ((5 * k) + 2)) ou fo ho hou HX) kLa_pair lm_La_86 ⟨Nat.le_of_ble_eq_true rfl, Nat.le_of_ble_eq_true rfl⟩ rfl hl.1 rfl (Nat.le_of_ble_eq_true rfl) dLa_law_414 ⟨show cells + 5 ≤ 601024 by omega, show slots + 30 ≤ 7293034 by omega⟩ (fun r g1 H locs hp hg hS => ?_)
  refine W.widen (k := cells + 5) (n := slots + 30) (Nat.le_refl _) (Nat.le_refl _) ?_
  obtain ⟨fr1, HX1, hr, f1, ho1, hf1⟩ := hp
  subst hr
  have HM1 : repM cI g1 mm q t S := HM.kept (fr1 mm (hdm _ List.mem_cons_self)) (fun i hi => fr1 (q i) (hdm _ (mS_q hi)))
  refine lv_istore (lv' := [(5, .int (nI ((o_pair (xs ((5 * k) + 1)) (xs ((5 * k) + 2)) S).1))), (0, .ref b), (1, .ref (x 0)), (2, .ref mm), (3, .ref ou), (4, .int (nI (5 * k)))]) S0.1 S0.2.1 dLa_law_417 hl (by decide) rfl (fun ls hl => ?_)
  refine lv_aload_n S0.1 S0.2.1 dLa_law_419 rfl (lv_at hl 3 rfl) ?_
  refine lv_aload_n S0.1 S0.2.1 dLa_law_420 rfl (lv_at hl 1 rfl) ?_
  refine lv_iload S0.1 S0.2.1 dLa_law_421 (lv_at hl 5 rfl) ?_
  refine lv_iconst (v := nI 1) S0.1 S0.2.1 dLa_law_423 (by decide) ?_
  refine lv_iadd S0.1 S0.2.1 dLa_law_424 ?_
  refine hw_top (nI ((5 * k) + 1)) (nI_add _ _) ?_
  refine hw_sld S0.1 S0.2.1 hX hbl hbA hS (i := ((5 * k) + 1)) (by omega) (by omega) dLa_law_425 ?_
  refine lv_aload_n S0.1 S0.2.1 dLa_law_426 rfl (lv_at hl 1 rfl) ?_
  refine lv_iload S0.1 S0.2.1 dLa_law_427 (lv_at hl 5 rfl) ?_
  refine lv_iconst (v := nI 2) S0.1 S0.2.1 dLa_law_429 (by decide) ?_
  refine lv_iadd S0.1 S0.2.1 dLa_law_430 ?_
  refine hw_top (nI ((5 * k) + 2)) (nI_add _ _) ?_
  refine hw_sld S0.1 S0.2.1 hX hbl hbA hS (i := ((5 * k) + 2)) (by omega) (by omega) dLa_law_431 ?_
  obtain ⟨fm, hm0⟩ := repM0 HM1
  refine hw_Vi (As := [.int (xs ((5 * k) + 1)), .int (xs ((5 * k) + 2))]) (rest := []) S0 hK hg hS hA0 hm0 rfl (c_MM_pair l D cI cR cJ g1 _ mm q t S (xs ((5 * k) + 1)) (xs ((5 * k) + 2)) HM1) kMM_pair lm_La_88 ⟨Nat.le_of_ble_eq_true rfl, Nat.le_of_ble_eq_true rfl⟩ rfl hl.1 rfl (Nat.le_of_ble_eq_true rfl) dLa_law_432 ⟨show cells + 5 + 0 ≤ 601024 by omega, show slots + 30 + 0 ≤ 7293034 by omega⟩ (fun o2 g2 H locs hp hg hS => ?_)
  refine W.widen (k := cells + 5) (n := slots + 30) (Nat.le_refl _) (Nat.le_refl _) ?_
  obtain ⟨fr2, HM2, hval⟩ := hp
  have HX2 : repX cI cR g2 x (o_pair (xs ((5 * k) + 1)) (xs ((5 * k) + 2)) S).2.2 := HX1.kept (fun i hi => fr2 (x i) (hxm i hi))
  have ho2 := fr2.at houm ho1
  refine lv_istore (lv' := [(6, .int o2), (5, .int (nI ((o_pair (xs ((5 * k) + 1)) (xs ((5 * k) + 2)) S).1))), (0, .ref b), (1, .ref (x 0)), (2, .ref mm), (3, .ref ou), (4, .int (nI (5 * k)))]) S0.1 S0.2.1 dLa_law_435 hl (by decide) rfl (fun ls hl => ?_)
  refine lv_aload_n S0.1 S0.2.1 dLa_law_437 rfl (lv_at hl 4 rfl) ?_
  obtain ⟨fm2, hm2⟩ := repM0 HM2
  refine hw_Vi (As := []) (rest := []) S0 hK hg hS hA0 hm2 rfl (c_MM_thr l D cI cR cJ g2 _ mm q _ _ HM2) kMM_thrown lm_La_68 ⟨Nat.le_of_ble_eq_true rfl, Nat.le_of_ble_eq_true rfl⟩ rfl hl.1 rfl (Nat.le_of_ble_eq_true rfl) dLa_law_438 ⟨show cells + 5 + 0 ≤ 601024 by omega, show slots + 30 + 0 ≤ 7293034 by omega⟩ (fun o3 g3 H locs hp hg hS => ?_)
  refine W.widen (k := cells + 5) (n := slots + 30) (Nat.le_refl _) (Nat.le_refl _) ?_
  obtain ⟨eg, eo⟩ := hp
  rw [eg] at hg
  subst eo
  refine lv_iload S0.1 S0.2.1 dLa_law_441 (lv_at hl 1 rfl) ?_
  refine lv_icmp_eq (tgt := 448) S0.1 S0.2.1 dLa_law_443 (by decide) (fun c_443 => ?_) (fun c_443 => ?_)
  · skip
    have c_443 : ((o_pair (xs ((5 * k) + 1)) (xs ((5 * k) + 2)) S).1) = ((o_pair (xs ((5 * k) + 1)) (xs ((5 * k) + 2)) S).1) := (nI_eq (by omega) (by omega)).mp c_443
    refine lv_iload S0.1 S0.2.1 dLa_law_448 (lv_at hl 1 rfl) ?_
    refine lv_if_ne (tgt := 465) S0.1 S0.2.1 dLa_law_450 (by decide) (fun c_450 => ?_) (fun c_450 => ?_)
    · skip
      rw [← nI_0] at c_450
      have c_450 : ¬ (((o_pair (xs ((5 * k) + 1)) (xs ((5 * k) + 2)) S).1) = 0) := fun h => c_450 ((nI_eq (by omega) (by omega)).mpr h)
      refine lv_goto (tgt := 980) S0.1 S0.2.1 dLa_law_465 (by decide) ?_
      exact kk (o_pair (xs ((5 * k) + 1)) (xs ((5 * k) + 2)) S).2.2 (o_pair (xs ((5 * k) + 1)) (xs ((5 * k) + 2)) S).1 f1 g2 _ _ _ _ _ (by omega) (by omega) HX2 HM2 ho2 hg hS (lv_sub hl [2, 3, 4, 5, 6] rfl)
    · skip
      rw [← nI_0] at c_450
      have c_450 : ((o_pair (xs ((5 * k) + 1)) (xs ((5 * k) + 2)) S).1) = 0 := (nI_eq (by omega) (by omega)).mp c_450
      refine lv_aload_n S0.1 S0.2.1 dLa_law_453 rfl (lv_at hl 5 rfl) ?_
      refine lv_iconst (v := nI 0) S0.1 S0.2.1 dLa_law_454 (by decide) ?_
      refine hw_lald S0 hK hg ho2 2 rfl (by omega) (by omega) dLa_law_455 ?_
      refine lv_iload S0.1 S0.2.1 dLa_law_456 (lv_at hl 0 rfl) ?_
      refine lv_i2l (v := (o2).toInt64) S0.1 S0.2.1 dLa_law_458 rfl ?_
      refine lv_lcmpE S0.1 S0.2.1 (show f1 0 = o2.toInt64 by rw [hf1 c_450, hval c_450]) dLa_law_459 ?_
      refine hw_top (nI 0) rfl ?_
      refine lv_if_eq (tgt := 465) S0.1 S0.2.1 dLa_law_460 (by decide) (fun c_460 => ?_) (fun c_460 => ?_)
      · skip
        rw [← nI_0] at c_460
        have c_460 : 0 = 0 := (nI_eq (by omega) (by omega)).mp c_460
        refine lv_goto (tgt := 980) S0.1 S0.2.1 dLa_law_465 (by decide) ?_
        exact kk (o_pair (xs ((5 * k) + 1)) (xs ((5 * k) + 2)) S).2.2 (o_pair (xs ((5 * k) + 1)) (xs ((5 * k) + 2)) S).1 f1 g2 _ _ _ _ _ (by omega) (by omega) HX2 HM2 ho2 hg hS (lv_sub hl [2, 3, 4, 5, 6] rfl)
      · skip
        rw [← nI_0] at c_460
        have c_460 : ¬ (0 = 0) := fun h => c_460 ((nI_eq (by omega) (by omega)).mpr h)
        exact absurd c_460 (by decide)
  · skip
    have c_443 : ¬ (((o_pair (xs ((5 * k) + 1)) (xs ((5 * k) + 2)) S).1) = ((o_pair (xs ((5 * k) + 1)) (xs ((5 * k) + 2)) S).1)) := fun h => c_443 ((nI_eq (by omega) (by omega)).mpr h)
    exact absurd rfl c_443
theorem o3_hunks (p0 p1 : Int32) (S : ST) : (o_hunks p0 p1 S).1 < 3 := by
  unfold o_hunks
  (repeat' split) <;> simp
set_option maxRecDepth 100000 in
set_option maxHeartbeats 4000000 in
theorem law_hunks {p : Program} {l : Launch} {e : Env} {s : State} {m : MethodId} {below : List Frame} {meth : Method} {c : Code} {Q : State → Prop} {b L : Nat} {xs : Nat → Int32} {D : va_G} {cI cR cJ : ClassId} {x : Nat → Nat} {mm : Nat} {q : Nat → Nat} {ou k : Nat} (C : LwC l p s m c b L xs D cI cR cJ x mm q ou) (hk : 5 * k + 5 ≤ L) {S : ST} {t : Nat} {fo : Nat → Int64} {g : Nat → Option va_E} {H : Heap} {locs : List Loc} {ls : Array Slot} {cells slots : Nat} (hc : cells ≤ 300 + 5 * k) (hs : slots ≤ 40000 + 30 * k) (HX : repX cI cR g x S) (HM : repM cI g mm q t S) (ho : g ou = some (.inl (cJ, 1, .inr (.inl fo)))) (hg : hw D hC (fun q => s.heap.size ≤ q) g H) (hS : va_S (fun q => s.heap.size ≤ q) s.heap H locs) (hl : lv_has ls 7 [(0, .ref b), (1, .ref (x 0)), (2, .ref mm), (3, .ref ou), (4, .int (nI (5 * k)))]) (kk : LwK p l e s m below meth c Q b D cI cR cJ x mm q ou k 980) : W p l e room_1 s m #[Value.ref b] below meth c H locs cells slots Q (F0 m 468 ls []) := by
  obtain ⟨S0, hK, hx, hz, hX, hbl, hL, hou, houm, hdm, hxm, hst⟩ := C
  have hA0 : ∀ q : Nat, s.heap.size ≤ q → (fun q : Nat => s.heap.size ≤ q) q := fun _ h => h
  have hbA : ¬ (fun q : Nat => s.heap.size ≤ q) b := Nat.not_le.mpr hbl
  have hc3 := o3_hunks (xs ((5 * k) + 1)) (xs ((5 * k) + 2)) S
  refine lv_aload_n S0.1 S0.2.1 dLa_law_468 rfl (lv_at hl 1 rfl) ?_
  refine lv_aload_n S0.1 S0.2.1 dLa_law_469 rfl (lv_at hl 0 rfl) ?_
  refine lv_iload S0.1 S0.2.1 dLa_law_470 (lv_at hl 4 rfl) ?_
  refine lv_iconst (v := nI 1) S0.1 S0.2.1 dLa_law_472 (by decide) ?_
  refine lv_iadd S0.1 S0.2.1 dLa_law_473 ?_
  refine hw_top (nI ((5 * k) + 1)) (nI_add _ _) ?_
  refine hw_sld S0.1 S0.2.1 hX hbl hbA hS (i := ((5 * k) + 1)) (by omega) (by omega) dLa_law_474 ?_
  refine lv_aload_n S0.1 S0.2.1 dLa_law_475 rfl (lv_at hl 0 rfl) ?_
  refine lv_iload S0.1 S0.2.1 dLa_law_476 (lv_at hl 4 rfl) ?_
  refine lv_iconst (v := nI 2) S0.1 S0.2.1 dLa_law_478 (by decide) ?_
  refine lv_iadd S0.1 S0.2.1 dLa_law_479 ?_
  refine hw_top (nI ((5 * k) + 2)) (nI_add _ _) ?_
  refine hw_sld S0.1 S0.2.1 hX hbl hbA hS (i := ((5 * k) + 2)) (by omega) (by omega) dLa_law_480 ?_
  refine lv_aload_n S0.1 S0.2.1 dLa_law_481 rfl (lv_at hl 3 rfl) ?_
  refine hx_SWi (As := [.ref (x 0), .int (xs ((5 * k) + 1)), .int (xs ((5 * k) + 2)), .ref ou]) (rest := []) S0 hK hg hS hA0 hx hz (c_La_hunks l D cI cR cJ g _ hst x S (xs ((5 * k) + 1)) (xs ((5 * k) + 2)) ou fo ho hou HX) kLa_hunks lm_La_89 ⟨Nat.le_of_ble_eq_true rfl, Nat.le_of_ble_eq_true rfl⟩ rfl hl.1 rfl (Nat.le_of_ble_eq_true rfl) dLa_law_482 ⟨show cells + 5 ≤ 601024 by omega, show slots + 30 ≤ 7293034 by omega⟩ (fun r g1 H locs hp hg hS => ?_)
  refine W.widen (k := cells + 5) (n := slots + 30) (Nat.le_refl _) (Nat.le_refl _) ?_
  obtain ⟨fr1, HX1, hr, f1, ho1, hf1⟩ := hp
  subst hr
  have HM1 : repM cI g1 mm q t S := HM.kept (fr1 mm (hdm _ List.mem_cons_self)) (fun i hi => fr1 (q i) (hdm _ (mS_q hi)))
  refine lv_istore (lv' := [(5, .int (nI ((o_hunks (xs ((5 * k) + 1)) (xs ((5 * k) + 2)) S).1))), (0, .ref b), (1, .ref (x 0)), (2, .ref mm), (3, .ref ou), (4, .int (nI (5 * k)))]) S0.1 S0.2.1 dLa_law_485 hl (by decide) rfl (fun ls hl => ?_)
  refine lv_aload_n S0.1 S0.2.1 dLa_law_487 rfl (lv_at hl 3 rfl) ?_
  refine lv_aload_n S0.1 S0.2.1 dLa_law_488 rfl (lv_at hl 1 rfl) ?_
  refine lv_iload S0.1 S0.2.1 dLa_law_489 (lv_at hl 5 rfl) ?_
  refine lv_iconst (v := nI 1) S0.1 S0.2.1 dLa_law_491 (by decide) ?_
  refine lv_iadd S0.1 S0.2.1 dLa_law_492 ?_
  refine hw_top (nI ((5 * k) + 1)) (nI_add _ _) ?_
  refine hw_sld S0.1 S0.2.1 hX hbl hbA hS (i := ((5 * k) + 1)) (by omega) (by omega) dLa_law_493 ?_
  refine lv_aload_n S0.1 S0.2.1 dLa_law_494 rfl (lv_at hl 1 rfl) ?_
  refine lv_iload S0.1 S0.2.1 dLa_law_495 (lv_at hl 5 rfl) ?_
  refine lv_iconst (v := nI 2) S0.1 S0.2.1 dLa_law_497 (by decide) ?_
  refine lv_iadd S0.1 S0.2.1 dLa_law_498 ?_
  refine hw_top (nI ((5 * k) + 2)) (nI_add _ _) ?_
  refine hw_sld S0.1 S0.2.1 hX hbl hbA hS (i := ((5 * k) + 2)) (by omega) (by omega) dLa_law_499 ?_
  obtain ⟨fm, hm0⟩ := repM0 HM1
  refine hw_Vi (As := [.int (xs ((5 * k) + 1)), .int (xs ((5 * k) + 2))]) (rest := []) S0 hK hg hS hA0 hm0 rfl (c_MM_hunks l D cI cR cJ g1 _ mm q t S (xs ((5 * k) + 1)) (xs ((5 * k) + 2)) HM1) kMM_hunks lm_La_91 ⟨Nat.le_of_ble_eq_true rfl, Nat.le_of_ble_eq_true rfl⟩ rfl hl.1 rfl (Nat.le_of_ble_eq_true rfl) dLa_law_500 ⟨show cells + 5 + 0 ≤ 601024 by omega, show slots + 30 + 0 ≤ 7293034 by omega⟩ (fun o2 g2 H locs hp hg hS => ?_)
  refine W.widen (k := cells + 5) (n := slots + 30) (Nat.le_refl _) (Nat.le_refl _) ?_
  obtain ⟨fr2, HM2, hval⟩ := hp
  have HX2 : repX cI cR g2 x (o_hunks (xs ((5 * k) + 1)) (xs ((5 * k) + 2)) S).2.2 := HX1.kept (fun i hi => fr2 (x i) (hxm i hi))
  have ho2 := fr2.at houm ho1
  refine lv_istore (lv' := [(6, .int o2), (5, .int (nI ((o_hunks (xs ((5 * k) + 1)) (xs ((5 * k) + 2)) S).1))), (0, .ref b), (1, .ref (x 0)), (2, .ref mm), (3, .ref ou), (4, .int (nI (5 * k)))]) S0.1 S0.2.1 dLa_law_503 hl (by decide) rfl (fun ls hl => ?_)
  refine lv_aload_n S0.1 S0.2.1 dLa_law_505 rfl (lv_at hl 4 rfl) ?_
  obtain ⟨fm2, hm2⟩ := repM0 HM2
  refine hw_Vi (As := []) (rest := []) S0 hK hg hS hA0 hm2 rfl (c_MM_thr l D cI cR cJ g2 _ mm q _ _ HM2) kMM_thrown lm_La_68 ⟨Nat.le_of_ble_eq_true rfl, Nat.le_of_ble_eq_true rfl⟩ rfl hl.1 rfl (Nat.le_of_ble_eq_true rfl) dLa_law_506 ⟨show cells + 5 + 0 ≤ 601024 by omega, show slots + 30 + 0 ≤ 7293034 by omega⟩ (fun o3 g3 H locs hp hg hS => ?_)
  refine W.widen (k := cells + 5) (n := slots + 30) (Nat.le_refl _) (Nat.le_refl _) ?_
  obtain ⟨eg, eo⟩ := hp
  rw [eg] at hg
  subst eo
  refine lv_iload S0.1 S0.2.1 dLa_law_509 (lv_at hl 1 rfl) ?_
  refine lv_icmp_eq (tgt := 516) S0.1 S0.2.1 dLa_law_511 (by decide) (fun c_511 => ?_) (fun c_511 => ?_)
  · skip
    have c_511 : ((o_hunks (xs ((5 * k) + 1)) (xs ((5 * k) + 2)) S).1) = ((o_hunks (xs ((5 * k) + 1)) (xs ((5 * k) + 2)) S).1) := (nI_eq (by omega) (by omega)).mp c_511
    refine lv_iload S0.1 S0.2.1 dLa_law_516 (lv_at hl 1 rfl) ?_
    refine lv_if_ne (tgt := 533) S0.1 S0.2.1 dLa_law_518 (by decide) (fun c_518 => ?_) (fun c_518 => ?_)
    · skip
      rw [← nI_0] at c_518
      have c_518 : ¬ (((o_hunks (xs ((5 * k) + 1)) (xs ((5 * k) + 2)) S).1) = 0) := fun h => c_518 ((nI_eq (by omega) (by omega)).mpr h)
      refine lv_goto (tgt := 980) S0.1 S0.2.1 dLa_law_533 (by decide) ?_
      exact kk (o_hunks (xs ((5 * k) + 1)) (xs ((5 * k) + 2)) S).2.2 (o_hunks (xs ((5 * k) + 1)) (xs ((5 * k) + 2)) S).1 f1 g2 _ _ _ _ _ (by omega) (by omega) HX2 HM2 ho2 hg hS (lv_sub hl [2, 3, 4, 5, 6] rfl)
    · skip
      rw [← nI_0] at c_518
      have c_518 : ((o_hunks (xs ((5 * k) + 1)) (xs ((5 * k) + 2)) S).1) = 0 := (nI_eq (by omega) (by omega)).mp c_518
      refine lv_aload_n S0.1 S0.2.1 dLa_law_521 rfl (lv_at hl 5 rfl) ?_
      refine lv_iconst (v := nI 0) S0.1 S0.2.1 dLa_law_522 (by decide) ?_
      refine hw_lald S0 hK hg ho2 2 rfl (by omega) (by omega) dLa_law_523 ?_
      refine lv_iload S0.1 S0.2.1 dLa_law_524 (lv_at hl 0 rfl) ?_
      refine lv_i2l (v := (o2).toInt64) S0.1 S0.2.1 dLa_law_526 rfl ?_
      refine lv_lcmpE S0.1 S0.2.1 (show f1 0 = o2.toInt64 by rw [hf1 c_518, hval c_518]) dLa_law_527 ?_
      refine hw_top (nI 0) rfl ?_
      refine lv_if_eq (tgt := 533) S0.1 S0.2.1 dLa_law_528 (by decide) (fun c_528 => ?_) (fun c_528 => ?_)
      · skip
        rw [← nI_0] at c_528
        have c_528 : 0 = 0 := (nI_eq (by omega) (by omega)).mp c_528
        refine lv_goto (tgt := 980) S0.1 S0.2.1 dLa_law_533 (by decide) ?_
        exact kk (o_hunks (xs ((5 * k) + 1)) (xs ((5 * k) + 2)) S).2.2 (o_hunks (xs ((5 * k) + 1)) (xs ((5 * k) + 2)) S).1 f1 g2 _ _ _ _ _ (by omega) (by omega) HX2 HM2 ho2 hg hS (lv_sub hl [2, 3, 4, 5, 6] rfl)
      · skip
        rw [← nI_0] at c_528
        have c_528 : ¬ (0 = 0) := fun h => c_528 ((nI_eq (by omega) (by omega)).mpr h)
        exact absurd c_528 (by decide)
  · skip
    have c_511 : ¬ (((o_hunks (xs ((5 * k) + 1)) (xs ((5 * k) + 2)) S).1) = ((o_hunks (xs ((5 * k) + 1)) (xs ((5 * k) + 2)) S).1)) := fun h => c_511 ((nI_eq (by omega) (by omega)).mpr h)
    exact absurd rfl c_511
theorem o3_hunk (p0 p1 : Int32) (S : ST) : (o_hunk p0 p1 S).1 < 3 := by
  unfold o_hunk
  (repeat' split) <;> simp
set_option maxRecDepth 100000 in
set_option maxHeartbeats 4000000 in
theorem law_hunk {p : Program} {l : Launch} {e : Env} {s : State} {m : MethodId} {below : List Frame} {meth : Method} {c : Code} {Q : State → Prop} {b L : Nat} {xs : Nat → Int32} {D : va_G} {cI cR cJ : ClassId} {x : Nat → Nat} {mm : Nat} {q : Nat → Nat} {ou k : Nat} (C : LwC l p s m c b L xs D cI cR cJ x mm q ou) (hk : 5 * k + 5 ≤ L) {S : ST} {t : Nat} {fo : Nat → Int64} {g : Nat → Option va_E} {H : Heap} {locs : List Loc} {ls : Array Slot} {cells slots : Nat} (hc : cells ≤ 300 + 5 * k) (hs : slots ≤ 40000 + 30 * k) (HX : repX cI cR g x S) (HM : repM cI g mm q t S) (ho : g ou = some (.inl (cJ, 1, .inr (.inl fo)))) (hg : hw D hC (fun q => s.heap.size ≤ q) g H) (hS : va_S (fun q => s.heap.size ≤ q) s.heap H locs) (hl : lv_has ls 7 [(0, .ref b), (1, .ref (x 0)), (2, .ref mm), (3, .ref ou), (4, .int (nI (5 * k)))]) (kk : LwK p l e s m below meth c Q b D cI cR cJ x mm q ou k 980) : W p l e room_1 s m #[Value.ref b] below meth c H locs cells slots Q (F0 m 536 ls []) := by
  obtain ⟨S0, hK, hx, hz, hX, hbl, hL, hou, houm, hdm, hxm, hst⟩ := C
  have hA0 : ∀ q : Nat, s.heap.size ≤ q → (fun q : Nat => s.heap.size ≤ q) q := fun _ h => h
  have hbA : ¬ (fun q : Nat => s.heap.size ≤ q) b := Nat.not_le.mpr hbl
  have hc3 := o3_hunk (xs ((5 * k) + 1)) (xs ((5 * k) + 2)) S
  refine lv_aload_n S0.1 S0.2.1 dLa_law_536 rfl (lv_at hl 1 rfl) ?_
  refine lv_aload_n S0.1 S0.2.1 dLa_law_537 rfl (lv_at hl 0 rfl) ?_
  refine lv_iload S0.1 S0.2.1 dLa_law_538 (lv_at hl 4 rfl) ?_
  refine lv_iconst (v := nI 1) S0.1 S0.2.1 dLa_law_540 (by decide) ?_
  refine lv_iadd S0.1 S0.2.1 dLa_law_541 ?_
  refine hw_top (nI ((5 * k) + 1)) (nI_add _ _) ?_
  refine hw_sld S0.1 S0.2.1 hX hbl hbA hS (i := ((5 * k) + 1)) (by omega) (by omega) dLa_law_542 ?_
  refine lv_aload_n S0.1 S0.2.1 dLa_law_543 rfl (lv_at hl 0 rfl) ?_
  refine lv_iload S0.1 S0.2.1 dLa_law_544 (lv_at hl 4 rfl) ?_
  refine lv_iconst (v := nI 2) S0.1 S0.2.1 dLa_law_546 (by decide) ?_
  refine lv_iadd S0.1 S0.2.1 dLa_law_547 ?_
  refine hw_top (nI ((5 * k) + 2)) (nI_add _ _) ?_
  refine hw_sld S0.1 S0.2.1 hX hbl hbA hS (i := ((5 * k) + 2)) (by omega) (by omega) dLa_law_548 ?_
  refine lv_aload_n S0.1 S0.2.1 dLa_law_549 rfl (lv_at hl 3 rfl) ?_
  refine hx_SWi (As := [.ref (x 0), .int (xs ((5 * k) + 1)), .int (xs ((5 * k) + 2)), .ref ou]) (rest := []) S0 hK hg hS hA0 hx hz (c_La_hunk l D cI cR cJ g _ hst x S (xs ((5 * k) + 1)) (xs ((5 * k) + 2)) ou fo ho hou HX) kLa_hunk lm_La_92 ⟨Nat.le_of_ble_eq_true rfl, Nat.le_of_ble_eq_true rfl⟩ rfl hl.1 rfl (Nat.le_of_ble_eq_true rfl) dLa_law_550 ⟨show cells + 5 ≤ 601024 by omega, show slots + 30 ≤ 7293034 by omega⟩ (fun r g1 H locs hp hg hS => ?_)
  refine W.widen (k := cells + 5) (n := slots + 30) (Nat.le_refl _) (Nat.le_refl _) ?_
  obtain ⟨fr1, HX1, hr, f1, ho1, hf1⟩ := hp
  subst hr
  have HM1 : repM cI g1 mm q t S := HM.kept (fr1 mm (hdm _ List.mem_cons_self)) (fun i hi => fr1 (q i) (hdm _ (mS_q hi)))
  refine lv_istore (lv' := [(5, .int (nI ((o_hunk (xs ((5 * k) + 1)) (xs ((5 * k) + 2)) S).1))), (0, .ref b), (1, .ref (x 0)), (2, .ref mm), (3, .ref ou), (4, .int (nI (5 * k)))]) S0.1 S0.2.1 dLa_law_553 hl (by decide) rfl (fun ls hl => ?_)
  refine lv_aload_n S0.1 S0.2.1 dLa_law_555 rfl (lv_at hl 3 rfl) ?_
  refine lv_aload_n S0.1 S0.2.1 dLa_law_556 rfl (lv_at hl 1 rfl) ?_
  refine lv_iload S0.1 S0.2.1 dLa_law_557 (lv_at hl 5 rfl) ?_
  refine lv_iconst (v := nI 1) S0.1 S0.2.1 dLa_law_559 (by decide) ?_
  refine lv_iadd S0.1 S0.2.1 dLa_law_560 ?_
  refine hw_top (nI ((5 * k) + 1)) (nI_add _ _) ?_
  refine hw_sld S0.1 S0.2.1 hX hbl hbA hS (i := ((5 * k) + 1)) (by omega) (by omega) dLa_law_561 ?_
  refine lv_aload_n S0.1 S0.2.1 dLa_law_562 rfl (lv_at hl 1 rfl) ?_
  refine lv_iload S0.1 S0.2.1 dLa_law_563 (lv_at hl 5 rfl) ?_
  refine lv_iconst (v := nI 2) S0.1 S0.2.1 dLa_law_565 (by decide) ?_
  refine lv_iadd S0.1 S0.2.1 dLa_law_566 ?_
  refine hw_top (nI ((5 * k) + 2)) (nI_add _ _) ?_
  refine hw_sld S0.1 S0.2.1 hX hbl hbA hS (i := ((5 * k) + 2)) (by omega) (by omega) dLa_law_567 ?_
  obtain ⟨fm, hm0⟩ := repM0 HM1
  refine hw_Vi (As := [.int (xs ((5 * k) + 1)), .int (xs ((5 * k) + 2))]) (rest := []) S0 hK hg hS hA0 hm0 rfl (c_MM_hunk l D cI cR cJ g1 _ mm q t S (xs ((5 * k) + 1)) (xs ((5 * k) + 2)) HM1) kMM_hunk lm_La_94 ⟨Nat.le_of_ble_eq_true rfl, Nat.le_of_ble_eq_true rfl⟩ rfl hl.1 rfl (Nat.le_of_ble_eq_true rfl) dLa_law_568 ⟨show cells + 5 + 0 ≤ 601024 by omega, show slots + 30 + 0 ≤ 7293034 by omega⟩ (fun o2 g2 H locs hp hg hS => ?_)
  refine W.widen (k := cells + 5) (n := slots + 30) (Nat.le_refl _) (Nat.le_refl _) ?_
  obtain ⟨fr2, HM2, hval⟩ := hp
  have HX2 : repX cI cR g2 x (o_hunk (xs ((5 * k) + 1)) (xs ((5 * k) + 2)) S).2.2 := HX1.kept (fun i hi => fr2 (x i) (hxm i hi))
  have ho2 := fr2.at houm ho1
  refine lv_istore (lv' := [(6, .int o2), (5, .int (nI ((o_hunk (xs ((5 * k) + 1)) (xs ((5 * k) + 2)) S).1))), (0, .ref b), (1, .ref (x 0)), (2, .ref mm), (3, .ref ou), (4, .int (nI (5 * k)))]) S0.1 S0.2.1 dLa_law_571 hl (by decide) rfl (fun ls hl => ?_)
  refine lv_aload_n S0.1 S0.2.1 dLa_law_573 rfl (lv_at hl 4 rfl) ?_
  obtain ⟨fm2, hm2⟩ := repM0 HM2
  refine hw_Vi (As := []) (rest := []) S0 hK hg hS hA0 hm2 rfl (c_MM_thr l D cI cR cJ g2 _ mm q _ _ HM2) kMM_thrown lm_La_68 ⟨Nat.le_of_ble_eq_true rfl, Nat.le_of_ble_eq_true rfl⟩ rfl hl.1 rfl (Nat.le_of_ble_eq_true rfl) dLa_law_574 ⟨show cells + 5 + 0 ≤ 601024 by omega, show slots + 30 + 0 ≤ 7293034 by omega⟩ (fun o3 g3 H locs hp hg hS => ?_)
  refine W.widen (k := cells + 5) (n := slots + 30) (Nat.le_refl _) (Nat.le_refl _) ?_
  obtain ⟨eg, eo⟩ := hp
  rw [eg] at hg
  subst eo
  refine lv_iload S0.1 S0.2.1 dLa_law_577 (lv_at hl 1 rfl) ?_
  refine lv_icmp_eq (tgt := 584) S0.1 S0.2.1 dLa_law_579 (by decide) (fun c_579 => ?_) (fun c_579 => ?_)
  · skip
    have c_579 : ((o_hunk (xs ((5 * k) + 1)) (xs ((5 * k) + 2)) S).1) = ((o_hunk (xs ((5 * k) + 1)) (xs ((5 * k) + 2)) S).1) := (nI_eq (by omega) (by omega)).mp c_579
    refine lv_iload S0.1 S0.2.1 dLa_law_584 (lv_at hl 1 rfl) ?_
    refine lv_if_ne (tgt := 601) S0.1 S0.2.1 dLa_law_586 (by decide) (fun c_586 => ?_) (fun c_586 => ?_)
    · skip
      rw [← nI_0] at c_586
      have c_586 : ¬ (((o_hunk (xs ((5 * k) + 1)) (xs ((5 * k) + 2)) S).1) = 0) := fun h => c_586 ((nI_eq (by omega) (by omega)).mpr h)
      refine lv_goto (tgt := 980) S0.1 S0.2.1 dLa_law_601 (by decide) ?_
      exact kk (o_hunk (xs ((5 * k) + 1)) (xs ((5 * k) + 2)) S).2.2 (o_hunk (xs ((5 * k) + 1)) (xs ((5 * k) + 2)) S).1 f1 g2 _ _ _ _ _ (by omega) (by omega) HX2 HM2 ho2 hg hS (lv_sub hl [2, 3, 4, 5, 6] rfl)
    · skip
      rw [← nI_0] at c_586
      have c_586 : ((o_hunk (xs ((5 * k) + 1)) (xs ((5 * k) + 2)) S).1) = 0 := (nI_eq (by omega) (by omega)).mp c_586
      refine lv_aload_n S0.1 S0.2.1 dLa_law_589 rfl (lv_at hl 5 rfl) ?_
      refine lv_iconst (v := nI 0) S0.1 S0.2.1 dLa_law_590 (by decide) ?_
      refine hw_lald S0 hK hg ho2 2 rfl (by omega) (by omega) dLa_law_591 ?_
      refine lv_iload S0.1 S0.2.1 dLa_law_592 (lv_at hl 0 rfl) ?_
      refine lv_i2l (v := (o2).toInt64) S0.1 S0.2.1 dLa_law_594 rfl ?_
      refine lv_lcmpE S0.1 S0.2.1 (show f1 0 = o2.toInt64 by rw [hf1 c_586, hval c_586]) dLa_law_595 ?_
      refine hw_top (nI 0) rfl ?_
      refine lv_if_eq (tgt := 601) S0.1 S0.2.1 dLa_law_596 (by decide) (fun c_596 => ?_) (fun c_596 => ?_)
      · skip
        rw [← nI_0] at c_596
        have c_596 : 0 = 0 := (nI_eq (by omega) (by omega)).mp c_596
        refine lv_goto (tgt := 980) S0.1 S0.2.1 dLa_law_601 (by decide) ?_
        exact kk (o_hunk (xs ((5 * k) + 1)) (xs ((5 * k) + 2)) S).2.2 (o_hunk (xs ((5 * k) + 1)) (xs ((5 * k) + 2)) S).1 f1 g2 _ _ _ _ _ (by omega) (by omega) HX2 HM2 ho2 hg hS (lv_sub hl [2, 3, 4, 5, 6] rfl)
      · skip
        rw [← nI_0] at c_596
        have c_596 : ¬ (0 = 0) := fun h => c_596 ((nI_eq (by omega) (by omega)).mpr h)
        exact absurd c_596 (by decide)
  · skip
    have c_579 : ¬ (((o_hunk (xs ((5 * k) + 1)) (xs ((5 * k) + 2)) S).1) = ((o_hunk (xs ((5 * k) + 1)) (xs ((5 * k) + 2)) S).1)) := fun h => c_579 ((nI_eq (by omega) (by omega)).mpr h)
    exact absurd rfl c_579
theorem o3_merge (p0 p1 p2 p3 : Int32) (S : ST) : (o_merge p0 p1 p2 p3 S).1 < 3 := by
  unfold o_merge
  (repeat' split) <;> simp
set_option maxRecDepth 100000 in
set_option maxHeartbeats 4000000 in
theorem law_merge {p : Program} {l : Launch} {e : Env} {s : State} {m : MethodId} {below : List Frame} {meth : Method} {c : Code} {Q : State → Prop} {b L : Nat} {xs : Nat → Int32} {D : va_G} {cI cR cJ : ClassId} {x : Nat → Nat} {mm : Nat} {q : Nat → Nat} {ou k : Nat} (C : LwC l p s m c b L xs D cI cR cJ x mm q ou) (hk : 5 * k + 5 ≤ L) {S : ST} {t : Nat} {fo : Nat → Int64} {g : Nat → Option va_E} {H : Heap} {locs : List Loc} {ls : Array Slot} {cells slots : Nat} (hc : cells ≤ 300 + 5 * k) (hs : slots ≤ 40000 + 30 * k) (HX : repX cI cR g x S) (HM : repM cI g mm q t S) (ho : g ou = some (.inl (cJ, 1, .inr (.inl fo)))) (hg : hw D hC (fun q => s.heap.size ≤ q) g H) (hS : va_S (fun q => s.heap.size ≤ q) s.heap H locs) (hl : lv_has ls 7 [(0, .ref b), (1, .ref (x 0)), (2, .ref mm), (3, .ref ou), (4, .int (nI (5 * k)))]) (kk : LwK p l e s m below meth c Q b D cI cR cJ x mm q ou k 980) : W p l e room_1 s m #[Value.ref b] below meth c H locs cells slots Q (F0 m 604 ls []) := by
  obtain ⟨S0, hK, hx, hz, hX, hbl, hL, hou, houm, hdm, hxm, hst⟩ := C
  have hA0 : ∀ q : Nat, s.heap.size ≤ q → (fun q : Nat => s.heap.size ≤ q) q := fun _ h => h
  have hbA : ¬ (fun q : Nat => s.heap.size ≤ q) b := Nat.not_le.mpr hbl
  have hc3 := o3_merge (xs ((5 * k) + 1)) (xs ((5 * k) + 2)) (xs ((5 * k) + 3)) (xs ((5 * k) + 4)) S
  refine lv_aload_n S0.1 S0.2.1 dLa_law_604 rfl (lv_at hl 1 rfl) ?_
  refine lv_aload_n S0.1 S0.2.1 dLa_law_605 rfl (lv_at hl 0 rfl) ?_
  refine lv_iload S0.1 S0.2.1 dLa_law_606 (lv_at hl 4 rfl) ?_
  refine lv_iconst (v := nI 1) S0.1 S0.2.1 dLa_law_608 (by decide) ?_
  refine lv_iadd S0.1 S0.2.1 dLa_law_609 ?_
  refine hw_top (nI ((5 * k) + 1)) (nI_add _ _) ?_
  refine hw_sld S0.1 S0.2.1 hX hbl hbA hS (i := ((5 * k) + 1)) (by omega) (by omega) dLa_law_610 ?_
  refine lv_aload_n S0.1 S0.2.1 dLa_law_611 rfl (lv_at hl 0 rfl) ?_
  refine lv_iload S0.1 S0.2.1 dLa_law_612 (lv_at hl 4 rfl) ?_
  refine lv_iconst (v := nI 2) S0.1 S0.2.1 dLa_law_614 (by decide) ?_
  refine lv_iadd S0.1 S0.2.1 dLa_law_615 ?_
  refine hw_top (nI ((5 * k) + 2)) (nI_add _ _) ?_
  refine hw_sld S0.1 S0.2.1 hX hbl hbA hS (i := ((5 * k) + 2)) (by omega) (by omega) dLa_law_616 ?_
  refine lv_aload_n S0.1 S0.2.1 dLa_law_617 rfl (lv_at hl 0 rfl) ?_
  refine lv_iload S0.1 S0.2.1 dLa_law_618 (lv_at hl 4 rfl) ?_
  refine lv_iconst (v := nI 3) S0.1 S0.2.1 dLa_law_620 (by decide) ?_
  refine lv_iadd S0.1 S0.2.1 dLa_law_621 ?_
  refine hw_top (nI ((5 * k) + 3)) (nI_add _ _) ?_
  refine hw_sld S0.1 S0.2.1 hX hbl hbA hS (i := ((5 * k) + 3)) (by omega) (by omega) dLa_law_622 ?_
  refine lv_aload_n S0.1 S0.2.1 dLa_law_623 rfl (lv_at hl 0 rfl) ?_
  refine lv_iload S0.1 S0.2.1 dLa_law_624 (lv_at hl 4 rfl) ?_
  refine lv_iconst (v := nI 4) S0.1 S0.2.1 dLa_law_626 (by decide) ?_
  refine lv_iadd S0.1 S0.2.1 dLa_law_627 ?_
  refine hw_top (nI ((5 * k) + 4)) (nI_add _ _) ?_
  refine hw_sld S0.1 S0.2.1 hX hbl hbA hS (i := ((5 * k) + 4)) (by omega) (by omega) dLa_law_628 ?_
  refine lv_aload_n S0.1 S0.2.1 dLa_law_629 rfl (lv_at hl 3 rfl) ?_
  refine hx_SWi (As := [.ref (x 0), .int (xs ((5 * k) + 1)), .int (xs ((5 * k) + 2)), .int (xs ((5 * k) + 3)), .int (xs ((5 * k) + 4)), .ref ou]) (rest := []) S0 hK hg hS hA0 hx hz (c_La_merge l D cI cR cJ g _ hst x S (xs ((5 * k) + 1)) (xs ((5 * k) + 2)) (xs ((5 * k) + 3)) (xs ((5 * k) + 4)) ou fo ho hou HX) kLa_merge lm_La_95 ⟨Nat.le_of_ble_eq_true rfl, Nat.le_of_ble_eq_true rfl⟩ rfl hl.1 rfl (Nat.le_of_ble_eq_true rfl) dLa_law_630 ⟨show cells + 5 ≤ 601024 by omega, show slots + 30 ≤ 7293034 by omega⟩ (fun r g1 H locs hp hg hS => ?_)
  refine W.widen (k := cells + 5) (n := slots + 30) (Nat.le_refl _) (Nat.le_refl _) ?_
  obtain ⟨fr1, HX1, hr, f1, ho1, hf1⟩ := hp
  subst hr
  have HM1 : repM cI g1 mm q t S := HM.kept (fr1 mm (hdm _ List.mem_cons_self)) (fun i hi => fr1 (q i) (hdm _ (mS_q hi)))
  refine lv_istore (lv' := [(5, .int (nI ((o_merge (xs ((5 * k) + 1)) (xs ((5 * k) + 2)) (xs ((5 * k) + 3)) (xs ((5 * k) + 4)) S).1))), (0, .ref b), (1, .ref (x 0)), (2, .ref mm), (3, .ref ou), (4, .int (nI (5 * k)))]) S0.1 S0.2.1 dLa_law_633 hl (by decide) rfl (fun ls hl => ?_)
  refine lv_aload_n S0.1 S0.2.1 dLa_law_635 rfl (lv_at hl 3 rfl) ?_
  refine lv_aload_n S0.1 S0.2.1 dLa_law_636 rfl (lv_at hl 1 rfl) ?_
  refine lv_iload S0.1 S0.2.1 dLa_law_637 (lv_at hl 5 rfl) ?_
  refine lv_iconst (v := nI 1) S0.1 S0.2.1 dLa_law_639 (by decide) ?_
  refine lv_iadd S0.1 S0.2.1 dLa_law_640 ?_
  refine hw_top (nI ((5 * k) + 1)) (nI_add _ _) ?_
  refine hw_sld S0.1 S0.2.1 hX hbl hbA hS (i := ((5 * k) + 1)) (by omega) (by omega) dLa_law_641 ?_
  refine lv_aload_n S0.1 S0.2.1 dLa_law_642 rfl (lv_at hl 1 rfl) ?_
  refine lv_iload S0.1 S0.2.1 dLa_law_643 (lv_at hl 5 rfl) ?_
  refine lv_iconst (v := nI 2) S0.1 S0.2.1 dLa_law_645 (by decide) ?_
  refine lv_iadd S0.1 S0.2.1 dLa_law_646 ?_
  refine hw_top (nI ((5 * k) + 2)) (nI_add _ _) ?_
  refine hw_sld S0.1 S0.2.1 hX hbl hbA hS (i := ((5 * k) + 2)) (by omega) (by omega) dLa_law_647 ?_
  refine lv_aload_n S0.1 S0.2.1 dLa_law_648 rfl (lv_at hl 1 rfl) ?_
  refine lv_iload S0.1 S0.2.1 dLa_law_649 (lv_at hl 5 rfl) ?_
  refine lv_iconst (v := nI 3) S0.1 S0.2.1 dLa_law_651 (by decide) ?_
  refine lv_iadd S0.1 S0.2.1 dLa_law_652 ?_
  refine hw_top (nI ((5 * k) + 3)) (nI_add _ _) ?_
  refine hw_sld S0.1 S0.2.1 hX hbl hbA hS (i := ((5 * k) + 3)) (by omega) (by omega) dLa_law_653 ?_
  refine lv_aload_n S0.1 S0.2.1 dLa_law_654 rfl (lv_at hl 1 rfl) ?_
  refine lv_iload S0.1 S0.2.1 dLa_law_655 (lv_at hl 5 rfl) ?_
  refine lv_iconst (v := nI 4) S0.1 S0.2.1 dLa_law_657 (by decide) ?_
  refine lv_iadd S0.1 S0.2.1 dLa_law_658 ?_
  refine hw_top (nI ((5 * k) + 4)) (nI_add _ _) ?_
  refine hw_sld S0.1 S0.2.1 hX hbl hbA hS (i := ((5 * k) + 4)) (by omega) (by omega) dLa_law_659 ?_
  obtain ⟨fm, hm0⟩ := repM0 HM1
  refine hw_Vi (As := [.int (xs ((5 * k) + 1)), .int (xs ((5 * k) + 2)), .int (xs ((5 * k) + 3)), .int (xs ((5 * k) + 4))]) (rest := []) S0 hK hg hS hA0 hm0 rfl (c_MM_merge l D cI cR cJ g1 _ mm q t S (xs ((5 * k) + 1)) (xs ((5 * k) + 2)) (xs ((5 * k) + 3)) (xs ((5 * k) + 4)) HM1) kMM_merge lm_La_98 ⟨Nat.le_of_ble_eq_true rfl, Nat.le_of_ble_eq_true rfl⟩ rfl hl.1 rfl (Nat.le_of_ble_eq_true rfl) dLa_law_660 ⟨show cells + 5 + 0 ≤ 601024 by omega, show slots + 30 + 0 ≤ 7293034 by omega⟩ (fun o2 g2 H locs hp hg hS => ?_)
  refine W.widen (k := cells + 5) (n := slots + 30) (Nat.le_refl _) (Nat.le_refl _) ?_
  obtain ⟨fr2, HM2, hval⟩ := hp
  have HX2 : repX cI cR g2 x (o_merge (xs ((5 * k) + 1)) (xs ((5 * k) + 2)) (xs ((5 * k) + 3)) (xs ((5 * k) + 4)) S).2.2 := HX1.kept (fun i hi => fr2 (x i) (hxm i hi))
  have ho2 := fr2.at houm ho1
  refine lv_istore (lv' := [(6, .int o2), (5, .int (nI ((o_merge (xs ((5 * k) + 1)) (xs ((5 * k) + 2)) (xs ((5 * k) + 3)) (xs ((5 * k) + 4)) S).1))), (0, .ref b), (1, .ref (x 0)), (2, .ref mm), (3, .ref ou), (4, .int (nI (5 * k)))]) S0.1 S0.2.1 dLa_law_663 hl (by decide) rfl (fun ls hl => ?_)
  refine lv_aload_n S0.1 S0.2.1 dLa_law_665 rfl (lv_at hl 4 rfl) ?_
  obtain ⟨fm2, hm2⟩ := repM0 HM2
  refine hw_Vi (As := []) (rest := []) S0 hK hg hS hA0 hm2 rfl (c_MM_thr l D cI cR cJ g2 _ mm q _ _ HM2) kMM_thrown lm_La_68 ⟨Nat.le_of_ble_eq_true rfl, Nat.le_of_ble_eq_true rfl⟩ rfl hl.1 rfl (Nat.le_of_ble_eq_true rfl) dLa_law_666 ⟨show cells + 5 + 0 ≤ 601024 by omega, show slots + 30 + 0 ≤ 7293034 by omega⟩ (fun o3 g3 H locs hp hg hS => ?_)
  refine W.widen (k := cells + 5) (n := slots + 30) (Nat.le_refl _) (Nat.le_refl _) ?_
  obtain ⟨eg, eo⟩ := hp
  rw [eg] at hg
  subst eo
  refine lv_iload S0.1 S0.2.1 dLa_law_669 (lv_at hl 1 rfl) ?_
  refine lv_icmp_eq (tgt := 676) S0.1 S0.2.1 dLa_law_671 (by decide) (fun c_671 => ?_) (fun c_671 => ?_)
  · skip
    have c_671 : ((o_merge (xs ((5 * k) + 1)) (xs ((5 * k) + 2)) (xs ((5 * k) + 3)) (xs ((5 * k) + 4)) S).1) = ((o_merge (xs ((5 * k) + 1)) (xs ((5 * k) + 2)) (xs ((5 * k) + 3)) (xs ((5 * k) + 4)) S).1) := (nI_eq (by omega) (by omega)).mp c_671
    refine lv_iload S0.1 S0.2.1 dLa_law_676 (lv_at hl 1 rfl) ?_
    refine lv_if_ne (tgt := 693) S0.1 S0.2.1 dLa_law_678 (by decide) (fun c_678 => ?_) (fun c_678 => ?_)
    · skip
      rw [← nI_0] at c_678
      have c_678 : ¬ (((o_merge (xs ((5 * k) + 1)) (xs ((5 * k) + 2)) (xs ((5 * k) + 3)) (xs ((5 * k) + 4)) S).1) = 0) := fun h => c_678 ((nI_eq (by omega) (by omega)).mpr h)
      refine lv_goto (tgt := 980) S0.1 S0.2.1 dLa_law_693 (by decide) ?_
      exact kk (o_merge (xs ((5 * k) + 1)) (xs ((5 * k) + 2)) (xs ((5 * k) + 3)) (xs ((5 * k) + 4)) S).2.2 (o_merge (xs ((5 * k) + 1)) (xs ((5 * k) + 2)) (xs ((5 * k) + 3)) (xs ((5 * k) + 4)) S).1 f1 g2 _ _ _ _ _ (by omega) (by omega) HX2 HM2 ho2 hg hS (lv_sub hl [2, 3, 4, 5, 6] rfl)
    · skip
      rw [← nI_0] at c_678
      have c_678 : ((o_merge (xs ((5 * k) + 1)) (xs ((5 * k) + 2)) (xs ((5 * k) + 3)) (xs ((5 * k) + 4)) S).1) = 0 := (nI_eq (by omega) (by omega)).mp c_678
      refine lv_aload_n S0.1 S0.2.1 dLa_law_681 rfl (lv_at hl 5 rfl) ?_
      refine lv_iconst (v := nI 0) S0.1 S0.2.1 dLa_law_682 (by decide) ?_
      refine hw_lald S0 hK hg ho2 2 rfl (by omega) (by omega) dLa_law_683 ?_
      refine lv_iload S0.1 S0.2.1 dLa_law_684 (lv_at hl 0 rfl) ?_
      refine lv_i2l (v := (o2).toInt64) S0.1 S0.2.1 dLa_law_686 rfl ?_
      refine lv_lcmpE S0.1 S0.2.1 (show f1 0 = o2.toInt64 by rw [hf1 c_678, hval c_678]) dLa_law_687 ?_
      refine hw_top (nI 0) rfl ?_
      refine lv_if_eq (tgt := 693) S0.1 S0.2.1 dLa_law_688 (by decide) (fun c_688 => ?_) (fun c_688 => ?_)
      · skip
        rw [← nI_0] at c_688
        have c_688 : 0 = 0 := (nI_eq (by omega) (by omega)).mp c_688
        refine lv_goto (tgt := 980) S0.1 S0.2.1 dLa_law_693 (by decide) ?_
        exact kk (o_merge (xs ((5 * k) + 1)) (xs ((5 * k) + 2)) (xs ((5 * k) + 3)) (xs ((5 * k) + 4)) S).2.2 (o_merge (xs ((5 * k) + 1)) (xs ((5 * k) + 2)) (xs ((5 * k) + 3)) (xs ((5 * k) + 4)) S).1 f1 g2 _ _ _ _ _ (by omega) (by omega) HX2 HM2 ho2 hg hS (lv_sub hl [2, 3, 4, 5, 6] rfl)
      · skip
        rw [← nI_0] at c_688
        have c_688 : ¬ (0 = 0) := fun h => c_688 ((nI_eq (by omega) (by omega)).mpr h)
        exact absurd c_688 (by decide)
  · skip
    have c_671 : ¬ (((o_merge (xs ((5 * k) + 1)) (xs ((5 * k) + 2)) (xs ((5 * k) + 3)) (xs ((5 * k) + 4)) S).1) = ((o_merge (xs ((5 * k) + 1)) (xs ((5 * k) + 2)) (xs ((5 * k) + 3)) (xs ((5 * k) + 4)) S).1)) := fun h => c_671 ((nI_eq (by omega) (by omega)).mpr h)
    exact absurd rfl c_671
theorem o3_conflict (p0 p1 : Int32) (S : ST) : (o_conflict p0 p1 S).1 < 3 := by
  unfold o_conflict
  (repeat' split) <;> simp
set_option maxRecDepth 100000 in
set_option maxHeartbeats 4000000 in
theorem law_conflict {p : Program} {l : Launch} {e : Env} {s : State} {m : MethodId} {below : List Frame} {meth : Method} {c : Code} {Q : State → Prop} {b L : Nat} {xs : Nat → Int32} {D : va_G} {cI cR cJ : ClassId} {x : Nat → Nat} {mm : Nat} {q : Nat → Nat} {ou k : Nat} (C : LwC l p s m c b L xs D cI cR cJ x mm q ou) (hk : 5 * k + 5 ≤ L) {S : ST} {t : Nat} {fo : Nat → Int64} {g : Nat → Option va_E} {H : Heap} {locs : List Loc} {ls : Array Slot} {cells slots : Nat} (hc : cells ≤ 300 + 5 * k) (hs : slots ≤ 40000 + 30 * k) (HX : repX cI cR g x S) (HM : repM cI g mm q t S) (ho : g ou = some (.inl (cJ, 1, .inr (.inl fo)))) (hg : hw D hC (fun q => s.heap.size ≤ q) g H) (hS : va_S (fun q => s.heap.size ≤ q) s.heap H locs) (hl : lv_has ls 7 [(0, .ref b), (1, .ref (x 0)), (2, .ref mm), (3, .ref ou), (4, .int (nI (5 * k)))]) (kk : LwK p l e s m below meth c Q b D cI cR cJ x mm q ou k 980) : W p l e room_1 s m #[Value.ref b] below meth c H locs cells slots Q (F0 m 696 ls []) := by
  obtain ⟨S0, hK, hx, hz, hX, hbl, hL, hou, houm, hdm, hxm, hst⟩ := C
  have hA0 : ∀ q : Nat, s.heap.size ≤ q → (fun q : Nat => s.heap.size ≤ q) q := fun _ h => h
  have hbA : ¬ (fun q : Nat => s.heap.size ≤ q) b := Nat.not_le.mpr hbl
  have hc3 := o3_conflict (xs ((5 * k) + 1)) (xs ((5 * k) + 2)) S
  refine lv_aload_n S0.1 S0.2.1 dLa_law_696 rfl (lv_at hl 1 rfl) ?_
  refine lv_aload_n S0.1 S0.2.1 dLa_law_697 rfl (lv_at hl 0 rfl) ?_
  refine lv_iload S0.1 S0.2.1 dLa_law_698 (lv_at hl 4 rfl) ?_
  refine lv_iconst (v := nI 1) S0.1 S0.2.1 dLa_law_700 (by decide) ?_
  refine lv_iadd S0.1 S0.2.1 dLa_law_701 ?_
  refine hw_top (nI ((5 * k) + 1)) (nI_add _ _) ?_
  refine hw_sld S0.1 S0.2.1 hX hbl hbA hS (i := ((5 * k) + 1)) (by omega) (by omega) dLa_law_702 ?_
  refine lv_aload_n S0.1 S0.2.1 dLa_law_703 rfl (lv_at hl 0 rfl) ?_
  refine lv_iload S0.1 S0.2.1 dLa_law_704 (lv_at hl 4 rfl) ?_
  refine lv_iconst (v := nI 2) S0.1 S0.2.1 dLa_law_706 (by decide) ?_
  refine lv_iadd S0.1 S0.2.1 dLa_law_707 ?_
  refine hw_top (nI ((5 * k) + 2)) (nI_add _ _) ?_
  refine hw_sld S0.1 S0.2.1 hX hbl hbA hS (i := ((5 * k) + 2)) (by omega) (by omega) dLa_law_708 ?_
  refine lv_aload_n S0.1 S0.2.1 dLa_law_709 rfl (lv_at hl 3 rfl) ?_
  refine hx_SWi (As := [.ref (x 0), .int (xs ((5 * k) + 1)), .int (xs ((5 * k) + 2)), .ref ou]) (rest := []) S0 hK hg hS hA0 hx hz (c_La_conflict l D cI cR cJ g _ hst x S (xs ((5 * k) + 1)) (xs ((5 * k) + 2)) ou fo ho hou HX) kLa_conflict lm_La_99 ⟨Nat.le_of_ble_eq_true rfl, Nat.le_of_ble_eq_true rfl⟩ rfl hl.1 rfl (Nat.le_of_ble_eq_true rfl) dLa_law_710 ⟨show cells + 5 ≤ 601024 by omega, show slots + 30 ≤ 7293034 by omega⟩ (fun r g1 H locs hp hg hS => ?_)
  refine W.widen (k := cells + 5) (n := slots + 30) (Nat.le_refl _) (Nat.le_refl _) ?_
  obtain ⟨fr1, HX1, hr, f1, ho1, hf1⟩ := hp
  subst hr
  have HM1 : repM cI g1 mm q t S := HM.kept (fr1 mm (hdm _ List.mem_cons_self)) (fun i hi => fr1 (q i) (hdm _ (mS_q hi)))
  refine lv_istore (lv' := [(5, .int (nI ((o_conflict (xs ((5 * k) + 1)) (xs ((5 * k) + 2)) S).1))), (0, .ref b), (1, .ref (x 0)), (2, .ref mm), (3, .ref ou), (4, .int (nI (5 * k)))]) S0.1 S0.2.1 dLa_law_713 hl (by decide) rfl (fun ls hl => ?_)
  refine lv_aload_n S0.1 S0.2.1 dLa_law_715 rfl (lv_at hl 3 rfl) ?_
  refine lv_aload_n S0.1 S0.2.1 dLa_law_716 rfl (lv_at hl 1 rfl) ?_
  refine lv_iload S0.1 S0.2.1 dLa_law_717 (lv_at hl 5 rfl) ?_
  refine lv_iconst (v := nI 1) S0.1 S0.2.1 dLa_law_719 (by decide) ?_
  refine lv_iadd S0.1 S0.2.1 dLa_law_720 ?_
  refine hw_top (nI ((5 * k) + 1)) (nI_add _ _) ?_
  refine hw_sld S0.1 S0.2.1 hX hbl hbA hS (i := ((5 * k) + 1)) (by omega) (by omega) dLa_law_721 ?_
  refine lv_aload_n S0.1 S0.2.1 dLa_law_722 rfl (lv_at hl 1 rfl) ?_
  refine lv_iload S0.1 S0.2.1 dLa_law_723 (lv_at hl 5 rfl) ?_
  refine lv_iconst (v := nI 2) S0.1 S0.2.1 dLa_law_725 (by decide) ?_
  refine lv_iadd S0.1 S0.2.1 dLa_law_726 ?_
  refine hw_top (nI ((5 * k) + 2)) (nI_add _ _) ?_
  refine hw_sld S0.1 S0.2.1 hX hbl hbA hS (i := ((5 * k) + 2)) (by omega) (by omega) dLa_law_727 ?_
  obtain ⟨fm, hm0⟩ := repM0 HM1
  refine hw_Vi (As := [.int (xs ((5 * k) + 1)), .int (xs ((5 * k) + 2))]) (rest := []) S0 hK hg hS hA0 hm0 rfl (c_MM_conflict l D cI cR cJ g1 _ mm q t S (xs ((5 * k) + 1)) (xs ((5 * k) + 2)) HM1) kMM_conflict lm_La_101 ⟨Nat.le_of_ble_eq_true rfl, Nat.le_of_ble_eq_true rfl⟩ rfl hl.1 rfl (Nat.le_of_ble_eq_true rfl) dLa_law_728 ⟨show cells + 5 + 0 ≤ 601024 by omega, show slots + 30 + 0 ≤ 7293034 by omega⟩ (fun o2 g2 H locs hp hg hS => ?_)
  refine W.widen (k := cells + 5) (n := slots + 30) (Nat.le_refl _) (Nat.le_refl _) ?_
  obtain ⟨fr2, HM2, hval⟩ := hp
  have HX2 : repX cI cR g2 x (o_conflict (xs ((5 * k) + 1)) (xs ((5 * k) + 2)) S).2.2 := HX1.kept (fun i hi => fr2 (x i) (hxm i hi))
  have ho2 := fr2.at houm ho1
  refine lv_istore (lv' := [(6, .int o2), (5, .int (nI ((o_conflict (xs ((5 * k) + 1)) (xs ((5 * k) + 2)) S).1))), (0, .ref b), (1, .ref (x 0)), (2, .ref mm), (3, .ref ou), (4, .int (nI (5 * k)))]) S0.1 S0.2.1 dLa_law_731 hl (by decide) rfl (fun ls hl => ?_)
  refine lv_aload_n S0.1 S0.2.1 dLa_law_733 rfl (lv_at hl 4 rfl) ?_
  obtain ⟨fm2, hm2⟩ := repM0 HM2
  refine hw_Vi (As := []) (rest := []) S0 hK hg hS hA0 hm2 rfl (c_MM_thr l D cI cR cJ g2 _ mm q _ _ HM2) kMM_thrown lm_La_68 ⟨Nat.le_of_ble_eq_true rfl, Nat.le_of_ble_eq_true rfl⟩ rfl hl.1 rfl (Nat.le_of_ble_eq_true rfl) dLa_law_734 ⟨show cells + 5 + 0 ≤ 601024 by omega, show slots + 30 + 0 ≤ 7293034 by omega⟩ (fun o3 g3 H locs hp hg hS => ?_)
  refine W.widen (k := cells + 5) (n := slots + 30) (Nat.le_refl _) (Nat.le_refl _) ?_
  obtain ⟨eg, eo⟩ := hp
  rw [eg] at hg
  subst eo
  refine lv_iload S0.1 S0.2.1 dLa_law_737 (lv_at hl 1 rfl) ?_
  refine lv_icmp_eq (tgt := 744) S0.1 S0.2.1 dLa_law_739 (by decide) (fun c_739 => ?_) (fun c_739 => ?_)
  · skip
    have c_739 : ((o_conflict (xs ((5 * k) + 1)) (xs ((5 * k) + 2)) S).1) = ((o_conflict (xs ((5 * k) + 1)) (xs ((5 * k) + 2)) S).1) := (nI_eq (by omega) (by omega)).mp c_739
    refine lv_iload S0.1 S0.2.1 dLa_law_744 (lv_at hl 1 rfl) ?_
    refine lv_if_ne (tgt := 761) S0.1 S0.2.1 dLa_law_746 (by decide) (fun c_746 => ?_) (fun c_746 => ?_)
    · skip
      rw [← nI_0] at c_746
      have c_746 : ¬ (((o_conflict (xs ((5 * k) + 1)) (xs ((5 * k) + 2)) S).1) = 0) := fun h => c_746 ((nI_eq (by omega) (by omega)).mpr h)
      refine lv_goto (tgt := 980) S0.1 S0.2.1 dLa_law_761 (by decide) ?_
      exact kk (o_conflict (xs ((5 * k) + 1)) (xs ((5 * k) + 2)) S).2.2 (o_conflict (xs ((5 * k) + 1)) (xs ((5 * k) + 2)) S).1 f1 g2 _ _ _ _ _ (by omega) (by omega) HX2 HM2 ho2 hg hS (lv_sub hl [2, 3, 4, 5, 6] rfl)
    · skip
      rw [← nI_0] at c_746
      have c_746 : ((o_conflict (xs ((5 * k) + 1)) (xs ((5 * k) + 2)) S).1) = 0 := (nI_eq (by omega) (by omega)).mp c_746
      refine lv_aload_n S0.1 S0.2.1 dLa_law_749 rfl (lv_at hl 5 rfl) ?_
      refine lv_iconst (v := nI 0) S0.1 S0.2.1 dLa_law_750 (by decide) ?_
      refine hw_lald S0 hK hg ho2 2 rfl (by omega) (by omega) dLa_law_751 ?_
      refine lv_iload S0.1 S0.2.1 dLa_law_752 (lv_at hl 0 rfl) ?_
      refine lv_i2l (v := (o2).toInt64) S0.1 S0.2.1 dLa_law_754 rfl ?_
      refine lv_lcmpE S0.1 S0.2.1 (show f1 0 = o2.toInt64 by rw [hf1 c_746, hval c_746]) dLa_law_755 ?_
      refine hw_top (nI 0) rfl ?_
      refine lv_if_eq (tgt := 761) S0.1 S0.2.1 dLa_law_756 (by decide) (fun c_756 => ?_) (fun c_756 => ?_)
      · skip
        rw [← nI_0] at c_756
        have c_756 : 0 = 0 := (nI_eq (by omega) (by omega)).mp c_756
        refine lv_goto (tgt := 980) S0.1 S0.2.1 dLa_law_761 (by decide) ?_
        exact kk (o_conflict (xs ((5 * k) + 1)) (xs ((5 * k) + 2)) S).2.2 (o_conflict (xs ((5 * k) + 1)) (xs ((5 * k) + 2)) S).1 f1 g2 _ _ _ _ _ (by omega) (by omega) HX2 HM2 ho2 hg hS (lv_sub hl [2, 3, 4, 5, 6] rfl)
      · skip
        rw [← nI_0] at c_756
        have c_756 : ¬ (0 = 0) := fun h => c_756 ((nI_eq (by omega) (by omega)).mpr h)
        exact absurd c_756 (by decide)
  · skip
    have c_739 : ¬ (((o_conflict (xs ((5 * k) + 1)) (xs ((5 * k) + 2)) S).1) = ((o_conflict (xs ((5 * k) + 1)) (xs ((5 * k) + 2)) S).1)) := fun h => c_739 ((nI_eq (by omega) (by omega)).mpr h)
    exact absurd rfl c_739
theorem o3_patch (p0 p1 p2 p3 : Int32) (S : ST) : (o_patch p0 p1 p2 p3 S).1 < 3 := by
  unfold o_patch
  (repeat' split) <;> simp
set_option maxRecDepth 100000 in
set_option maxHeartbeats 4000000 in
theorem law_patch {p : Program} {l : Launch} {e : Env} {s : State} {m : MethodId} {below : List Frame} {meth : Method} {c : Code} {Q : State → Prop} {b L : Nat} {xs : Nat → Int32} {D : va_G} {cI cR cJ : ClassId} {x : Nat → Nat} {mm : Nat} {q : Nat → Nat} {ou k : Nat} (C : LwC l p s m c b L xs D cI cR cJ x mm q ou) (hk : 5 * k + 5 ≤ L) {S : ST} {t : Nat} {fo : Nat → Int64} {g : Nat → Option va_E} {H : Heap} {locs : List Loc} {ls : Array Slot} {cells slots : Nat} (hc : cells ≤ 300 + 5 * k) (hs : slots ≤ 40000 + 30 * k) (HX : repX cI cR g x S) (HM : repM cI g mm q t S) (ho : g ou = some (.inl (cJ, 1, .inr (.inl fo)))) (hg : hw D hC (fun q => s.heap.size ≤ q) g H) (hS : va_S (fun q => s.heap.size ≤ q) s.heap H locs) (hl : lv_has ls 7 [(0, .ref b), (1, .ref (x 0)), (2, .ref mm), (3, .ref ou), (4, .int (nI (5 * k)))]) (kk : LwK p l e s m below meth c Q b D cI cR cJ x mm q ou k 980) : W p l e room_1 s m #[Value.ref b] below meth c H locs cells slots Q (F0 m 764 ls []) := by
  obtain ⟨S0, hK, hx, hz, hX, hbl, hL, hou, houm, hdm, hxm, hst⟩ := C
  have hA0 : ∀ q : Nat, s.heap.size ≤ q → (fun q : Nat => s.heap.size ≤ q) q := fun _ h => h
  have hbA : ¬ (fun q : Nat => s.heap.size ≤ q) b := Nat.not_le.mpr hbl
  have hc3 := o3_patch (xs ((5 * k) + 1)) (xs ((5 * k) + 2)) (xs ((5 * k) + 3)) (xs ((5 * k) + 4)) S
  refine lv_aload_n S0.1 S0.2.1 dLa_law_764 rfl (lv_at hl 1 rfl) ?_
  refine lv_aload_n S0.1 S0.2.1 dLa_law_765 rfl (lv_at hl 0 rfl) ?_
  refine lv_iload S0.1 S0.2.1 dLa_law_766 (lv_at hl 4 rfl) ?_
  refine lv_iconst (v := nI 1) S0.1 S0.2.1 dLa_law_768 (by decide) ?_
  refine lv_iadd S0.1 S0.2.1 dLa_law_769 ?_
  refine hw_top (nI ((5 * k) + 1)) (nI_add _ _) ?_
  refine hw_sld S0.1 S0.2.1 hX hbl hbA hS (i := ((5 * k) + 1)) (by omega) (by omega) dLa_law_770 ?_
  refine lv_aload_n S0.1 S0.2.1 dLa_law_771 rfl (lv_at hl 0 rfl) ?_
  refine lv_iload S0.1 S0.2.1 dLa_law_772 (lv_at hl 4 rfl) ?_
  refine lv_iconst (v := nI 2) S0.1 S0.2.1 dLa_law_774 (by decide) ?_
  refine lv_iadd S0.1 S0.2.1 dLa_law_775 ?_
  refine hw_top (nI ((5 * k) + 2)) (nI_add _ _) ?_
  refine hw_sld S0.1 S0.2.1 hX hbl hbA hS (i := ((5 * k) + 2)) (by omega) (by omega) dLa_law_776 ?_
  refine lv_aload_n S0.1 S0.2.1 dLa_law_777 rfl (lv_at hl 0 rfl) ?_
  refine lv_iload S0.1 S0.2.1 dLa_law_778 (lv_at hl 4 rfl) ?_
  refine lv_iconst (v := nI 3) S0.1 S0.2.1 dLa_law_780 (by decide) ?_
  refine lv_iadd S0.1 S0.2.1 dLa_law_781 ?_
  refine hw_top (nI ((5 * k) + 3)) (nI_add _ _) ?_
  refine hw_sld S0.1 S0.2.1 hX hbl hbA hS (i := ((5 * k) + 3)) (by omega) (by omega) dLa_law_782 ?_
  refine lv_aload_n S0.1 S0.2.1 dLa_law_783 rfl (lv_at hl 0 rfl) ?_
  refine lv_iload S0.1 S0.2.1 dLa_law_784 (lv_at hl 4 rfl) ?_
  refine lv_iconst (v := nI 4) S0.1 S0.2.1 dLa_law_786 (by decide) ?_
  refine lv_iadd S0.1 S0.2.1 dLa_law_787 ?_
  refine hw_top (nI ((5 * k) + 4)) (nI_add _ _) ?_
  refine hw_sld S0.1 S0.2.1 hX hbl hbA hS (i := ((5 * k) + 4)) (by omega) (by omega) dLa_law_788 ?_
  refine lv_aload_n S0.1 S0.2.1 dLa_law_789 rfl (lv_at hl 3 rfl) ?_
  refine hx_SWi (As := [.ref (x 0), .int (xs ((5 * k) + 1)), .int (xs ((5 * k) + 2)), .int (xs ((5 * k) + 3)), .int (xs ((5 * k) + 4)), .ref ou]) (rest := []) S0 hK hg hS hA0 hx hz (c_La_patch l D cI cR cJ g _ hst x S (xs ((5 * k) + 1)) (xs ((5 * k) + 2)) (xs ((5 * k) + 3)) (xs ((5 * k) + 4)) ou fo ho hou HX) kLa_patch lm_La_102 ⟨Nat.le_of_ble_eq_true rfl, Nat.le_of_ble_eq_true rfl⟩ rfl hl.1 rfl (Nat.le_of_ble_eq_true rfl) dLa_law_790 ⟨show cells + 5 ≤ 601024 by omega, show slots + 30 ≤ 7293034 by omega⟩ (fun r g1 H locs hp hg hS => ?_)
  refine W.widen (k := cells + 5) (n := slots + 30) (Nat.le_refl _) (Nat.le_refl _) ?_
  obtain ⟨fr1, HX1, hr, f1, ho1, hf1⟩ := hp
  subst hr
  have HM1 : repM cI g1 mm q t S := HM.kept (fr1 mm (hdm _ List.mem_cons_self)) (fun i hi => fr1 (q i) (hdm _ (mS_q hi)))
  refine lv_istore (lv' := [(5, .int (nI ((o_patch (xs ((5 * k) + 1)) (xs ((5 * k) + 2)) (xs ((5 * k) + 3)) (xs ((5 * k) + 4)) S).1))), (0, .ref b), (1, .ref (x 0)), (2, .ref mm), (3, .ref ou), (4, .int (nI (5 * k)))]) S0.1 S0.2.1 dLa_law_793 hl (by decide) rfl (fun ls hl => ?_)
  refine lv_aload_n S0.1 S0.2.1 dLa_law_795 rfl (lv_at hl 3 rfl) ?_
  refine lv_aload_n S0.1 S0.2.1 dLa_law_796 rfl (lv_at hl 1 rfl) ?_
  refine lv_iload S0.1 S0.2.1 dLa_law_797 (lv_at hl 5 rfl) ?_
  refine lv_iconst (v := nI 1) S0.1 S0.2.1 dLa_law_799 (by decide) ?_
  refine lv_iadd S0.1 S0.2.1 dLa_law_800 ?_
  refine hw_top (nI ((5 * k) + 1)) (nI_add _ _) ?_
  refine hw_sld S0.1 S0.2.1 hX hbl hbA hS (i := ((5 * k) + 1)) (by omega) (by omega) dLa_law_801 ?_
  refine lv_aload_n S0.1 S0.2.1 dLa_law_802 rfl (lv_at hl 1 rfl) ?_
  refine lv_iload S0.1 S0.2.1 dLa_law_803 (lv_at hl 5 rfl) ?_
  refine lv_iconst (v := nI 2) S0.1 S0.2.1 dLa_law_805 (by decide) ?_
  refine lv_iadd S0.1 S0.2.1 dLa_law_806 ?_
  refine hw_top (nI ((5 * k) + 2)) (nI_add _ _) ?_
  refine hw_sld S0.1 S0.2.1 hX hbl hbA hS (i := ((5 * k) + 2)) (by omega) (by omega) dLa_law_807 ?_
  refine lv_aload_n S0.1 S0.2.1 dLa_law_808 rfl (lv_at hl 1 rfl) ?_
  refine lv_iload S0.1 S0.2.1 dLa_law_809 (lv_at hl 5 rfl) ?_
  refine lv_iconst (v := nI 3) S0.1 S0.2.1 dLa_law_811 (by decide) ?_
  refine lv_iadd S0.1 S0.2.1 dLa_law_812 ?_
  refine hw_top (nI ((5 * k) + 3)) (nI_add _ _) ?_
  refine hw_sld S0.1 S0.2.1 hX hbl hbA hS (i := ((5 * k) + 3)) (by omega) (by omega) dLa_law_813 ?_
  refine lv_aload_n S0.1 S0.2.1 dLa_law_814 rfl (lv_at hl 1 rfl) ?_
  refine lv_iload S0.1 S0.2.1 dLa_law_815 (lv_at hl 5 rfl) ?_
  refine lv_iconst (v := nI 4) S0.1 S0.2.1 dLa_law_817 (by decide) ?_
  refine lv_iadd S0.1 S0.2.1 dLa_law_818 ?_
  refine hw_top (nI ((5 * k) + 4)) (nI_add _ _) ?_
  refine hw_sld S0.1 S0.2.1 hX hbl hbA hS (i := ((5 * k) + 4)) (by omega) (by omega) dLa_law_819 ?_
  obtain ⟨fm, hm0⟩ := repM0 HM1
  refine hw_Vi (As := [.int (xs ((5 * k) + 1)), .int (xs ((5 * k) + 2)), .int (xs ((5 * k) + 3)), .int (xs ((5 * k) + 4))]) (rest := []) S0 hK hg hS hA0 hm0 rfl (c_MM_patch l D cI cR cJ g1 _ mm q t S (xs ((5 * k) + 1)) (xs ((5 * k) + 2)) (xs ((5 * k) + 3)) (xs ((5 * k) + 4)) HM1) kMM_patch lm_La_104 ⟨Nat.le_of_ble_eq_true rfl, Nat.le_of_ble_eq_true rfl⟩ rfl hl.1 rfl (Nat.le_of_ble_eq_true rfl) dLa_law_820 ⟨show cells + 5 + 0 ≤ 601024 by omega, show slots + 30 + 0 ≤ 7293034 by omega⟩ (fun o2 g2 H locs hp hg hS => ?_)
  refine W.widen (k := cells + 5) (n := slots + 30) (Nat.le_refl _) (Nat.le_refl _) ?_
  obtain ⟨fr2, HM2, hval⟩ := hp
  have HX2 : repX cI cR g2 x (o_patch (xs ((5 * k) + 1)) (xs ((5 * k) + 2)) (xs ((5 * k) + 3)) (xs ((5 * k) + 4)) S).2.2 := HX1.kept (fun i hi => fr2 (x i) (hxm i hi))
  have ho2 := fr2.at houm ho1
  refine lv_istore (lv' := [(6, .int o2), (5, .int (nI ((o_patch (xs ((5 * k) + 1)) (xs ((5 * k) + 2)) (xs ((5 * k) + 3)) (xs ((5 * k) + 4)) S).1))), (0, .ref b), (1, .ref (x 0)), (2, .ref mm), (3, .ref ou), (4, .int (nI (5 * k)))]) S0.1 S0.2.1 dLa_law_823 hl (by decide) rfl (fun ls hl => ?_)
  refine lv_aload_n S0.1 S0.2.1 dLa_law_825 rfl (lv_at hl 4 rfl) ?_
  obtain ⟨fm2, hm2⟩ := repM0 HM2
  refine hw_Vi (As := []) (rest := []) S0 hK hg hS hA0 hm2 rfl (c_MM_thr l D cI cR cJ g2 _ mm q _ _ HM2) kMM_thrown lm_La_68 ⟨Nat.le_of_ble_eq_true rfl, Nat.le_of_ble_eq_true rfl⟩ rfl hl.1 rfl (Nat.le_of_ble_eq_true rfl) dLa_law_826 ⟨show cells + 5 + 0 ≤ 601024 by omega, show slots + 30 + 0 ≤ 7293034 by omega⟩ (fun o3 g3 H locs hp hg hS => ?_)
  refine W.widen (k := cells + 5) (n := slots + 30) (Nat.le_refl _) (Nat.le_refl _) ?_
  obtain ⟨eg, eo⟩ := hp
  rw [eg] at hg
  subst eo
  refine lv_iload S0.1 S0.2.1 dLa_law_829 (lv_at hl 1 rfl) ?_
  refine lv_icmp_eq (tgt := 836) S0.1 S0.2.1 dLa_law_831 (by decide) (fun c_831 => ?_) (fun c_831 => ?_)
  · skip
    have c_831 : ((o_patch (xs ((5 * k) + 1)) (xs ((5 * k) + 2)) (xs ((5 * k) + 3)) (xs ((5 * k) + 4)) S).1) = ((o_patch (xs ((5 * k) + 1)) (xs ((5 * k) + 2)) (xs ((5 * k) + 3)) (xs ((5 * k) + 4)) S).1) := (nI_eq (by omega) (by omega)).mp c_831
    refine lv_iload S0.1 S0.2.1 dLa_law_836 (lv_at hl 1 rfl) ?_
    refine lv_if_ne (tgt := 853) S0.1 S0.2.1 dLa_law_838 (by decide) (fun c_838 => ?_) (fun c_838 => ?_)
    · skip
      rw [← nI_0] at c_838
      have c_838 : ¬ (((o_patch (xs ((5 * k) + 1)) (xs ((5 * k) + 2)) (xs ((5 * k) + 3)) (xs ((5 * k) + 4)) S).1) = 0) := fun h => c_838 ((nI_eq (by omega) (by omega)).mpr h)
      refine lv_goto (tgt := 980) S0.1 S0.2.1 dLa_law_853 (by decide) ?_
      exact kk (o_patch (xs ((5 * k) + 1)) (xs ((5 * k) + 2)) (xs ((5 * k) + 3)) (xs ((5 * k) + 4)) S).2.2 (o_patch (xs ((5 * k) + 1)) (xs ((5 * k) + 2)) (xs ((5 * k) + 3)) (xs ((5 * k) + 4)) S).1 f1 g2 _ _ _ _ _ (by omega) (by omega) HX2 HM2 ho2 hg hS (lv_sub hl [2, 3, 4, 5, 6] rfl)
    · skip
      rw [← nI_0] at c_838
      have c_838 : ((o_patch (xs ((5 * k) + 1)) (xs ((5 * k) + 2)) (xs ((5 * k) + 3)) (xs ((5 * k) + 4)) S).1) = 0 := (nI_eq (by omega) (by omega)).mp c_838
      refine lv_aload_n S0.1 S0.2.1 dLa_law_841 rfl (lv_at hl 5 rfl) ?_
      refine lv_iconst (v := nI 0) S0.1 S0.2.1 dLa_law_842 (by decide) ?_
      refine hw_lald S0 hK hg ho2 2 rfl (by omega) (by omega) dLa_law_843 ?_
      refine lv_iload S0.1 S0.2.1 dLa_law_844 (lv_at hl 0 rfl) ?_
      refine lv_i2l (v := (o2).toInt64) S0.1 S0.2.1 dLa_law_846 rfl ?_
      refine lv_lcmpE S0.1 S0.2.1 (show f1 0 = o2.toInt64 by rw [hf1 c_838, hval c_838]) dLa_law_847 ?_
      refine hw_top (nI 0) rfl ?_
      refine lv_if_eq (tgt := 853) S0.1 S0.2.1 dLa_law_848 (by decide) (fun c_848 => ?_) (fun c_848 => ?_)
      · skip
        rw [← nI_0] at c_848
        have c_848 : 0 = 0 := (nI_eq (by omega) (by omega)).mp c_848
        refine lv_goto (tgt := 980) S0.1 S0.2.1 dLa_law_853 (by decide) ?_
        exact kk (o_patch (xs ((5 * k) + 1)) (xs ((5 * k) + 2)) (xs ((5 * k) + 3)) (xs ((5 * k) + 4)) S).2.2 (o_patch (xs ((5 * k) + 1)) (xs ((5 * k) + 2)) (xs ((5 * k) + 3)) (xs ((5 * k) + 4)) S).1 f1 g2 _ _ _ _ _ (by omega) (by omega) HX2 HM2 ho2 hg hS (lv_sub hl [2, 3, 4, 5, 6] rfl)
      · skip
        rw [← nI_0] at c_848
        have c_848 : ¬ (0 = 0) := fun h => c_848 ((nI_eq (by omega) (by omega)).mpr h)
        exact absurd c_848 (by decide)
  · skip
    have c_831 : ¬ (((o_patch (xs ((5 * k) + 1)) (xs ((5 * k) + 2)) (xs ((5 * k) + 3)) (xs ((5 * k) + 4)) S).1) = ((o_patch (xs ((5 * k) + 1)) (xs ((5 * k) + 2)) (xs ((5 * k) + 3)) (xs ((5 * k) + 4)) S).1)) := fun h => c_831 ((nI_eq (by omega) (by omega)).mpr h)
    exact absurd rfl c_831
theorem o3_commit (p0 : Int32) (S : ST) : (o_commit p0 S).1 < 3 := by
  unfold o_commit
  (repeat' split) <;> simp
set_option maxRecDepth 100000 in
set_option maxHeartbeats 4000000 in
theorem law_commit {p : Program} {l : Launch} {e : Env} {s : State} {m : MethodId} {below : List Frame} {meth : Method} {c : Code} {Q : State → Prop} {b L : Nat} {xs : Nat → Int32} {D : va_G} {cI cR cJ : ClassId} {x : Nat → Nat} {mm : Nat} {q : Nat → Nat} {ou k : Nat} (C : LwC l p s m c b L xs D cI cR cJ x mm q ou) (hk : 5 * k + 5 ≤ L) {S : ST} {t : Nat} {fo : Nat → Int64} {g : Nat → Option va_E} {H : Heap} {locs : List Loc} {ls : Array Slot} {cells slots : Nat} (hc : cells ≤ 300 + 5 * k) (hs : slots ≤ 40000 + 30 * k) (HX : repX cI cR g x S) (HM : repM cI g mm q t S) (ho : g ou = some (.inl (cJ, 1, .inr (.inl fo)))) (hg : hw D hC (fun q => s.heap.size ≤ q) g H) (hS : va_S (fun q => s.heap.size ≤ q) s.heap H locs) (hl : lv_has ls 7 [(0, .ref b), (1, .ref (x 0)), (2, .ref mm), (3, .ref ou), (4, .int (nI (5 * k)))]) (kk : LwK p l e s m below meth c Q b D cI cR cJ x mm q ou k 980) : W p l e room_1 s m #[Value.ref b] below meth c H locs cells slots Q (F0 m 856 ls []) := by
  obtain ⟨S0, hK, hx, hz, hX, hbl, hL, hou, houm, hdm, hxm, hst⟩ := C
  have hA0 : ∀ q : Nat, s.heap.size ≤ q → (fun q : Nat => s.heap.size ≤ q) q := fun _ h => h
  have hbA : ¬ (fun q : Nat => s.heap.size ≤ q) b := Nat.not_le.mpr hbl
  have hc3 := o3_commit (xs ((5 * k) + 1)) S
  refine lv_aload_n S0.1 S0.2.1 dLa_law_856 rfl (lv_at hl 1 rfl) ?_
  refine lv_aload_n S0.1 S0.2.1 dLa_law_857 rfl (lv_at hl 0 rfl) ?_
  refine lv_iload S0.1 S0.2.1 dLa_law_858 (lv_at hl 4 rfl) ?_
  refine lv_iconst (v := nI 1) S0.1 S0.2.1 dLa_law_860 (by decide) ?_
  refine lv_iadd S0.1 S0.2.1 dLa_law_861 ?_
  refine hw_top (nI ((5 * k) + 1)) (nI_add _ _) ?_
  refine hw_sld S0.1 S0.2.1 hX hbl hbA hS (i := ((5 * k) + 1)) (by omega) (by omega) dLa_law_862 ?_
  refine lv_aload_n S0.1 S0.2.1 dLa_law_863 rfl (lv_at hl 3 rfl) ?_
  refine hx_SWi (As := [.ref (x 0), .int (xs ((5 * k) + 1)), .ref ou]) (rest := []) S0 hK hg hS hA0 hx hz (c_La_commit l D cI cR cJ g _ hst x S (xs ((5 * k) + 1)) ou fo ho hou HX) kLa_commit lm_La_105 ⟨Nat.le_of_ble_eq_true rfl, Nat.le_of_ble_eq_true rfl⟩ rfl hl.1 rfl (Nat.le_of_ble_eq_true rfl) dLa_law_864 ⟨show cells + 5 ≤ 601024 by omega, show slots + 30 ≤ 7293034 by omega⟩ (fun r g1 H locs hp hg hS => ?_)
  refine W.widen (k := cells + 5) (n := slots + 30) (Nat.le_refl _) (Nat.le_refl _) ?_
  obtain ⟨fr1, HX1, hr, f1, ho1, hf1⟩ := hp
  subst hr
  have HM1 : repM cI g1 mm q t S := HM.kept (fr1 mm (hdm _ List.mem_cons_self)) (fun i hi => fr1 (q i) (hdm _ (mS_q hi)))
  refine lv_istore (lv' := [(5, .int (nI ((o_commit (xs ((5 * k) + 1)) S).1))), (0, .ref b), (1, .ref (x 0)), (2, .ref mm), (3, .ref ou), (4, .int (nI (5 * k)))]) S0.1 S0.2.1 dLa_law_867 hl (by decide) rfl (fun ls hl => ?_)
  refine lv_aload_n S0.1 S0.2.1 dLa_law_869 rfl (lv_at hl 3 rfl) ?_
  refine lv_aload_n S0.1 S0.2.1 dLa_law_870 rfl (lv_at hl 1 rfl) ?_
  refine lv_iload S0.1 S0.2.1 dLa_law_871 (lv_at hl 5 rfl) ?_
  refine lv_iconst (v := nI 1) S0.1 S0.2.1 dLa_law_873 (by decide) ?_
  refine lv_iadd S0.1 S0.2.1 dLa_law_874 ?_
  refine hw_top (nI ((5 * k) + 1)) (nI_add _ _) ?_
  refine hw_sld S0.1 S0.2.1 hX hbl hbA hS (i := ((5 * k) + 1)) (by omega) (by omega) dLa_law_875 ?_
  obtain ⟨fm, hm0⟩ := repM0 HM1
  refine hw_Vi (As := [.int (xs ((5 * k) + 1))]) (rest := []) S0 hK hg hS hA0 hm0 rfl (c_MM_commit l D cI cR cJ g1 _ mm q t S (xs ((5 * k) + 1)) HM1) kMM_commit lm_La_107 ⟨Nat.le_of_ble_eq_true rfl, Nat.le_of_ble_eq_true rfl⟩ rfl hl.1 rfl (Nat.le_of_ble_eq_true rfl) dLa_law_876 ⟨show cells + 5 + 0 ≤ 601024 by omega, show slots + 30 + 0 ≤ 7293034 by omega⟩ (fun o2 g2 H locs hp hg hS => ?_)
  refine W.widen (k := cells + 5) (n := slots + 30) (Nat.le_refl _) (Nat.le_refl _) ?_
  obtain ⟨fr2, HM2, hval⟩ := hp
  have HX2 : repX cI cR g2 x (o_commit (xs ((5 * k) + 1)) S).2.2 := HX1.kept (fun i hi => fr2 (x i) (hxm i hi))
  have ho2 := fr2.at houm ho1
  refine lv_istore (lv' := [(6, .int o2), (5, .int (nI ((o_commit (xs ((5 * k) + 1)) S).1))), (0, .ref b), (1, .ref (x 0)), (2, .ref mm), (3, .ref ou), (4, .int (nI (5 * k)))]) S0.1 S0.2.1 dLa_law_879 hl (by decide) rfl (fun ls hl => ?_)
  refine lv_aload_n S0.1 S0.2.1 dLa_law_881 rfl (lv_at hl 4 rfl) ?_
  obtain ⟨fm2, hm2⟩ := repM0 HM2
  refine hw_Vi (As := []) (rest := []) S0 hK hg hS hA0 hm2 rfl (c_MM_thr l D cI cR cJ g2 _ mm q _ _ HM2) kMM_thrown lm_La_68 ⟨Nat.le_of_ble_eq_true rfl, Nat.le_of_ble_eq_true rfl⟩ rfl hl.1 rfl (Nat.le_of_ble_eq_true rfl) dLa_law_882 ⟨show cells + 5 + 0 ≤ 601024 by omega, show slots + 30 + 0 ≤ 7293034 by omega⟩ (fun o3 g3 H locs hp hg hS => ?_)
  refine W.widen (k := cells + 5) (n := slots + 30) (Nat.le_refl _) (Nat.le_refl _) ?_
  obtain ⟨eg, eo⟩ := hp
  rw [eg] at hg
  subst eo
  refine lv_iload S0.1 S0.2.1 dLa_law_885 (lv_at hl 1 rfl) ?_
  refine lv_icmp_eq (tgt := 892) S0.1 S0.2.1 dLa_law_887 (by decide) (fun c_887 => ?_) (fun c_887 => ?_)
  · skip
    have c_887 : ((o_commit (xs ((5 * k) + 1)) S).1) = ((o_commit (xs ((5 * k) + 1)) S).1) := (nI_eq (by omega) (by omega)).mp c_887
    refine lv_iload S0.1 S0.2.1 dLa_law_892 (lv_at hl 1 rfl) ?_
    refine lv_if_ne (tgt := 909) S0.1 S0.2.1 dLa_law_894 (by decide) (fun c_894 => ?_) (fun c_894 => ?_)
    · skip
      rw [← nI_0] at c_894
      have c_894 : ¬ (((o_commit (xs ((5 * k) + 1)) S).1) = 0) := fun h => c_894 ((nI_eq (by omega) (by omega)).mpr h)
      refine lv_goto (tgt := 980) S0.1 S0.2.1 dLa_law_909 (by decide) ?_
      exact kk (o_commit (xs ((5 * k) + 1)) S).2.2 (o_commit (xs ((5 * k) + 1)) S).1 f1 g2 _ _ _ _ _ (by omega) (by omega) HX2 HM2 ho2 hg hS (lv_sub hl [2, 3, 4, 5, 6] rfl)
    · skip
      rw [← nI_0] at c_894
      have c_894 : ((o_commit (xs ((5 * k) + 1)) S).1) = 0 := (nI_eq (by omega) (by omega)).mp c_894
      refine lv_aload_n S0.1 S0.2.1 dLa_law_897 rfl (lv_at hl 5 rfl) ?_
      refine lv_iconst (v := nI 0) S0.1 S0.2.1 dLa_law_898 (by decide) ?_
      refine hw_lald S0 hK hg ho2 2 rfl (by omega) (by omega) dLa_law_899 ?_
      refine lv_iload S0.1 S0.2.1 dLa_law_900 (lv_at hl 0 rfl) ?_
      refine lv_i2l (v := (o2).toInt64) S0.1 S0.2.1 dLa_law_902 rfl ?_
      refine lv_lcmpE S0.1 S0.2.1 (show f1 0 = o2.toInt64 by rw [hf1 c_894, hval c_894]) dLa_law_903 ?_
      refine hw_top (nI 0) rfl ?_
      refine lv_if_eq (tgt := 909) S0.1 S0.2.1 dLa_law_904 (by decide) (fun c_904 => ?_) (fun c_904 => ?_)
      · skip
        rw [← nI_0] at c_904
        have c_904 : 0 = 0 := (nI_eq (by omega) (by omega)).mp c_904
        refine lv_goto (tgt := 980) S0.1 S0.2.1 dLa_law_909 (by decide) ?_
        exact kk (o_commit (xs ((5 * k) + 1)) S).2.2 (o_commit (xs ((5 * k) + 1)) S).1 f1 g2 _ _ _ _ _ (by omega) (by omega) HX2 HM2 ho2 hg hS (lv_sub hl [2, 3, 4, 5, 6] rfl)
      · skip
        rw [← nI_0] at c_904
        have c_904 : ¬ (0 = 0) := fun h => c_904 ((nI_eq (by omega) (by omega)).mpr h)
        exact absurd c_904 (by decide)
  · skip
    have c_887 : ¬ (((o_commit (xs ((5 * k) + 1)) S).1) = ((o_commit (xs ((5 * k) + 1)) S).1)) := fun h => c_887 ((nI_eq (by omega) (by omega)).mpr h)
    exact absurd rfl c_887
theorem o3_origin (p0 p1 : Int32) (S : ST) : (o_origin p0 p1 S).1 < 3 := by
  unfold o_origin
  (repeat' split) <;> simp
set_option maxRecDepth 100000 in
set_option maxHeartbeats 4000000 in
theorem law_origin {p : Program} {l : Launch} {e : Env} {s : State} {m : MethodId} {below : List Frame} {meth : Method} {c : Code} {Q : State → Prop} {b L : Nat} {xs : Nat → Int32} {D : va_G} {cI cR cJ : ClassId} {x : Nat → Nat} {mm : Nat} {q : Nat → Nat} {ou k : Nat} (C : LwC l p s m c b L xs D cI cR cJ x mm q ou) (hk : 5 * k + 5 ≤ L) {S : ST} {t : Nat} {fo : Nat → Int64} {g : Nat → Option va_E} {H : Heap} {locs : List Loc} {ls : Array Slot} {cells slots : Nat} (hc : cells ≤ 300 + 5 * k) (hs : slots ≤ 40000 + 30 * k) (HX : repX cI cR g x S) (HM : repM cI g mm q t S) (ho : g ou = some (.inl (cJ, 1, .inr (.inl fo)))) (hg : hw D hC (fun q => s.heap.size ≤ q) g H) (hS : va_S (fun q => s.heap.size ≤ q) s.heap H locs) (hl : lv_has ls 7 [(0, .ref b), (1, .ref (x 0)), (2, .ref mm), (3, .ref ou), (4, .int (nI (5 * k)))]) (kk : LwK p l e s m below meth c Q b D cI cR cJ x mm q ou k 980) : W p l e room_1 s m #[Value.ref b] below meth c H locs cells slots Q (F0 m 912 ls []) := by
  obtain ⟨S0, hK, hx, hz, hX, hbl, hL, hou, houm, hdm, hxm, hst⟩ := C
  have hA0 : ∀ q : Nat, s.heap.size ≤ q → (fun q : Nat => s.heap.size ≤ q) q := fun _ h => h
  have hbA : ¬ (fun q : Nat => s.heap.size ≤ q) b := Nat.not_le.mpr hbl
  have hc3 := o3_origin (xs ((5 * k) + 1)) (xs ((5 * k) + 2)) S
  refine lv_aload_n S0.1 S0.2.1 dLa_law_912 rfl (lv_at hl 1 rfl) ?_
  refine lv_aload_n S0.1 S0.2.1 dLa_law_913 rfl (lv_at hl 0 rfl) ?_
  refine lv_iload S0.1 S0.2.1 dLa_law_914 (lv_at hl 4 rfl) ?_
  refine lv_iconst (v := nI 1) S0.1 S0.2.1 dLa_law_916 (by decide) ?_
  refine lv_iadd S0.1 S0.2.1 dLa_law_917 ?_
  refine hw_top (nI ((5 * k) + 1)) (nI_add _ _) ?_
  refine hw_sld S0.1 S0.2.1 hX hbl hbA hS (i := ((5 * k) + 1)) (by omega) (by omega) dLa_law_918 ?_
  refine lv_aload_n S0.1 S0.2.1 dLa_law_919 rfl (lv_at hl 0 rfl) ?_
  refine lv_iload S0.1 S0.2.1 dLa_law_920 (lv_at hl 4 rfl) ?_
  refine lv_iconst (v := nI 2) S0.1 S0.2.1 dLa_law_922 (by decide) ?_
  refine lv_iadd S0.1 S0.2.1 dLa_law_923 ?_
  refine hw_top (nI ((5 * k) + 2)) (nI_add _ _) ?_
  refine hw_sld S0.1 S0.2.1 hX hbl hbA hS (i := ((5 * k) + 2)) (by omega) (by omega) dLa_law_924 ?_
  refine lv_aload_n S0.1 S0.2.1 dLa_law_925 rfl (lv_at hl 3 rfl) ?_
  refine hx_SWi (As := [.ref (x 0), .int (xs ((5 * k) + 1)), .int (xs ((5 * k) + 2)), .ref ou]) (rest := []) S0 hK hg hS hA0 hx hz (c_La_origin l D cI cR cJ g _ hst x S (xs ((5 * k) + 1)) (xs ((5 * k) + 2)) ou fo ho hou HX) kLa_origin lm_La_108 ⟨Nat.le_of_ble_eq_true rfl, Nat.le_of_ble_eq_true rfl⟩ rfl hl.1 rfl (Nat.le_of_ble_eq_true rfl) dLa_law_926 ⟨show cells + 5 ≤ 601024 by omega, show slots + 30 ≤ 7293034 by omega⟩ (fun r g1 H locs hp hg hS => ?_)
  refine W.widen (k := cells + 5) (n := slots + 30) (Nat.le_refl _) (Nat.le_refl _) ?_
  obtain ⟨fr1, HX1, hr, f1, ho1, hf1⟩ := hp
  subst hr
  have HM1 : repM cI g1 mm q t S := HM.kept (fr1 mm (hdm _ List.mem_cons_self)) (fun i hi => fr1 (q i) (hdm _ (mS_q hi)))
  refine lv_istore (lv' := [(5, .int (nI ((o_origin (xs ((5 * k) + 1)) (xs ((5 * k) + 2)) S).1))), (0, .ref b), (1, .ref (x 0)), (2, .ref mm), (3, .ref ou), (4, .int (nI (5 * k)))]) S0.1 S0.2.1 dLa_law_929 hl (by decide) rfl (fun ls hl => ?_)
  refine lv_aload_n S0.1 S0.2.1 dLa_law_931 rfl (lv_at hl 3 rfl) ?_
  refine lv_aload_n S0.1 S0.2.1 dLa_law_932 rfl (lv_at hl 1 rfl) ?_
  refine lv_iload S0.1 S0.2.1 dLa_law_933 (lv_at hl 5 rfl) ?_
  refine lv_iconst (v := nI 1) S0.1 S0.2.1 dLa_law_935 (by decide) ?_
  refine lv_iadd S0.1 S0.2.1 dLa_law_936 ?_
  refine hw_top (nI ((5 * k) + 1)) (nI_add _ _) ?_
  refine hw_sld S0.1 S0.2.1 hX hbl hbA hS (i := ((5 * k) + 1)) (by omega) (by omega) dLa_law_937 ?_
  refine lv_aload_n S0.1 S0.2.1 dLa_law_938 rfl (lv_at hl 1 rfl) ?_
  refine lv_iload S0.1 S0.2.1 dLa_law_939 (lv_at hl 5 rfl) ?_
  refine lv_iconst (v := nI 2) S0.1 S0.2.1 dLa_law_941 (by decide) ?_
  refine lv_iadd S0.1 S0.2.1 dLa_law_942 ?_
  refine hw_top (nI ((5 * k) + 2)) (nI_add _ _) ?_
  refine hw_sld S0.1 S0.2.1 hX hbl hbA hS (i := ((5 * k) + 2)) (by omega) (by omega) dLa_law_943 ?_
  obtain ⟨fm, hm0⟩ := repM0 HM1
  refine hw_Vi (As := [.int (xs ((5 * k) + 1)), .int (xs ((5 * k) + 2))]) (rest := []) S0 hK hg hS hA0 hm0 rfl (c_MM_origin l D cI cR cJ g1 _ mm q t S (xs ((5 * k) + 1)) (xs ((5 * k) + 2)) HM1) kMM_origin lm_La_110 ⟨Nat.le_of_ble_eq_true rfl, Nat.le_of_ble_eq_true rfl⟩ rfl hl.1 rfl (Nat.le_of_ble_eq_true rfl) dLa_law_944 ⟨show cells + 5 + 0 ≤ 601024 by omega, show slots + 30 + 0 ≤ 7293034 by omega⟩ (fun o2 g2 H locs hp hg hS => ?_)
  refine W.widen (k := cells + 5) (n := slots + 30) (Nat.le_refl _) (Nat.le_refl _) ?_
  obtain ⟨fr2, HM2, hval⟩ := hp
  have HX2 : repX cI cR g2 x (o_origin (xs ((5 * k) + 1)) (xs ((5 * k) + 2)) S).2.2 := HX1.kept (fun i hi => fr2 (x i) (hxm i hi))
  have ho2 := fr2.at houm ho1
  refine lv_istore (lv' := [(6, .int o2), (5, .int (nI ((o_origin (xs ((5 * k) + 1)) (xs ((5 * k) + 2)) S).1))), (0, .ref b), (1, .ref (x 0)), (2, .ref mm), (3, .ref ou), (4, .int (nI (5 * k)))]) S0.1 S0.2.1 dLa_law_947 hl (by decide) rfl (fun ls hl => ?_)
  refine lv_aload_n S0.1 S0.2.1 dLa_law_949 rfl (lv_at hl 4 rfl) ?_
  obtain ⟨fm2, hm2⟩ := repM0 HM2
  refine hw_Vi (As := []) (rest := []) S0 hK hg hS hA0 hm2 rfl (c_MM_thr l D cI cR cJ g2 _ mm q _ _ HM2) kMM_thrown lm_La_68 ⟨Nat.le_of_ble_eq_true rfl, Nat.le_of_ble_eq_true rfl⟩ rfl hl.1 rfl (Nat.le_of_ble_eq_true rfl) dLa_law_950 ⟨show cells + 5 + 0 ≤ 601024 by omega, show slots + 30 + 0 ≤ 7293034 by omega⟩ (fun o3 g3 H locs hp hg hS => ?_)
  refine W.widen (k := cells + 5) (n := slots + 30) (Nat.le_refl _) (Nat.le_refl _) ?_
  obtain ⟨eg, eo⟩ := hp
  rw [eg] at hg
  subst eo
  refine lv_iload S0.1 S0.2.1 dLa_law_953 (lv_at hl 1 rfl) ?_
  refine lv_icmp_eq (tgt := 960) S0.1 S0.2.1 dLa_law_955 (by decide) (fun c_955 => ?_) (fun c_955 => ?_)
  · skip
    have c_955 : ((o_origin (xs ((5 * k) + 1)) (xs ((5 * k) + 2)) S).1) = ((o_origin (xs ((5 * k) + 1)) (xs ((5 * k) + 2)) S).1) := (nI_eq (by omega) (by omega)).mp c_955
    refine lv_iload S0.1 S0.2.1 dLa_law_960 (lv_at hl 1 rfl) ?_
    refine lv_if_ne (tgt := 977) S0.1 S0.2.1 dLa_law_962 (by decide) (fun c_962 => ?_) (fun c_962 => ?_)
    · skip
      rw [← nI_0] at c_962
      have c_962 : ¬ (((o_origin (xs ((5 * k) + 1)) (xs ((5 * k) + 2)) S).1) = 0) := fun h => c_962 ((nI_eq (by omega) (by omega)).mpr h)
      refine lv_goto (tgt := 980) S0.1 S0.2.1 dLa_law_977 (by decide) ?_
      exact kk (o_origin (xs ((5 * k) + 1)) (xs ((5 * k) + 2)) S).2.2 (o_origin (xs ((5 * k) + 1)) (xs ((5 * k) + 2)) S).1 f1 g2 _ _ _ _ _ (by omega) (by omega) HX2 HM2 ho2 hg hS (lv_sub hl [2, 3, 4, 5, 6] rfl)
    · skip
      rw [← nI_0] at c_962
      have c_962 : ((o_origin (xs ((5 * k) + 1)) (xs ((5 * k) + 2)) S).1) = 0 := (nI_eq (by omega) (by omega)).mp c_962
      refine lv_aload_n S0.1 S0.2.1 dLa_law_965 rfl (lv_at hl 5 rfl) ?_
      refine lv_iconst (v := nI 0) S0.1 S0.2.1 dLa_law_966 (by decide) ?_
      refine hw_lald S0 hK hg ho2 2 rfl (by omega) (by omega) dLa_law_967 ?_
      refine lv_iload S0.1 S0.2.1 dLa_law_968 (lv_at hl 0 rfl) ?_
      refine lv_i2l (v := (o2).toInt64) S0.1 S0.2.1 dLa_law_970 rfl ?_
      refine lv_lcmpE S0.1 S0.2.1 (show f1 0 = o2.toInt64 by rw [hf1 c_962, hval c_962]) dLa_law_971 ?_
      refine hw_top (nI 0) rfl ?_
      refine lv_if_eq (tgt := 977) S0.1 S0.2.1 dLa_law_972 (by decide) (fun c_972 => ?_) (fun c_972 => ?_)
      · skip
        rw [← nI_0] at c_972
        have c_972 : 0 = 0 := (nI_eq (by omega) (by omega)).mp c_972
        refine lv_goto (tgt := 980) S0.1 S0.2.1 dLa_law_977 (by decide) ?_
        exact kk (o_origin (xs ((5 * k) + 1)) (xs ((5 * k) + 2)) S).2.2 (o_origin (xs ((5 * k) + 1)) (xs ((5 * k) + 2)) S).1 f1 g2 _ _ _ _ _ (by omega) (by omega) HX2 HM2 ho2 hg hS (lv_sub hl [2, 3, 4, 5, 6] rfl)
      · skip
        rw [← nI_0] at c_972
        have c_972 : ¬ (0 = 0) := fun h => c_972 ((nI_eq (by omega) (by omega)).mpr h)
        exact absurd c_972 (by decide)
  · skip
    have c_955 : ¬ (((o_origin (xs ((5 * k) + 1)) (xs ((5 * k) + 2)) S).1) = ((o_origin (xs ((5 * k) + 1)) (xs ((5 * k) + 2)) S).1)) := fun h => c_955 ((nI_eq (by omega) (by omega)).mpr h)
    exact absurd rfl c_955
