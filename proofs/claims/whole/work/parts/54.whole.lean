/-! THE CLAIM OUT OF ONE WALK OF THE LAW'S BODY. Your part is whole_start (and what it stands on); all else here is the same for every law, but numbers. -/
def R_law : String := "MergeRowsLaw"
def lw_P (b : Addr) (xs : List Int32) (args : Array Value) (s : State) : Prop := args = #[.ref b] ∧ s.IntsAt b xs ∧ xs.length ≤ 2560 ∧ (Jvm.Cond.and given_1 narrow_1).before args s = true
def lw_Q (_ : Array Value) (s : State) (o : Outcome) (t : State) : Prop := o = .returned (some (.int 1)) ∧ Framed s o t [] 601024 7293034
def lw_Z (below : List Frame) (a : Array Value) (s : State) : State → Prop := fun t => ∃ o, t.status = .running ∧ Ended t below o ∧ lw_Q a s o t
/-- the law's own end, with 1 on the stack, nothing written that was there before, its room as the claim has it -/
theorem lw_ret {p : Program} {l : Launch} {e : Env} {s : State} {m : MethodId} {below : List Frame} {meth : Method} {c : Code} {b : Nat} (hx : p.tables.exec = Jvm.exec) (hb : c.code = code) (hr : meth.sig.returnType = ret) (hlocks : meth.locks = false) {pc : Nat} {H : Heap} {ls : Array Slot} (hdg : decode code pc = .ok (.ireturn, 1)) : W p l e room_1 s m #[Value.ref b] below meth c H [] 601024 7293034 (lw_Z below #[Value.ref b] s) (F0 m pc ls [.int 1]) := by
  intro T hT X
  obtain ⟨fs, hret, hrun, hended, hW, hframe⟩ := X.leave (v := some (.int 1)) (hlocks := hlocks) (fun h => by rw [hr] at h; cases h)
  have hmeth' : T.vm.method? m = some meth := X.method'
  refine ⟨T.setFrames fs, ?_, .returned (some (.int 1)), hrun, hended, rfl, ⟨_, rfl⟩, hW, hframe⟩
  jvm_step X.here [X.here.top, hx, hb, hdg, hmeth', hr, ret, narrow_b1]
  (try refine ⟨rfl, ?_⟩); (try refine ⟨rfl, ?_⟩)
  first | (intro acts; rw [hret _ acts rfl rfl rfl]) | rw [hret _ _ rfl rfl rfl]
  exact Steps.refl _
/-- what holds at the law's entry: the machine, the code, the tables' words (any of lw_tbl by 'hts w (by decide +kernel)'), the script of L ints xs at the cell b, what the Statement gives of the start (any of its parts by flat_of_before) -/
def lw_At (p : Program) (s : State) (m : MethodId) (meth : Method) (c : Code) (b L : Nat) (xs : Nat → Int32) : Prop :=
  p.tables.exec = Jvm.exec ∧ c.code = code ∧ meth.sig.returnType = ret ∧ c.maxLocals = 7 ∧ s.vm.findClass R_law = some m.cls ∧ (∀ w ∈ lw_tbl, w.before #[Value.ref b] s = true) ∧ va_X b L xs s s.heap ∧ b < s.heap.size ∧ meth.locks = false ∧ (Jvm.Cond.and given_1 narrow_1).before #[Value.ref b] s = true
set_option maxRecDepth 100000 in
set_option maxHeartbeats 4000000 in
theorem law_loop {p : Program} {l : Launch} {e : Env} {s : State} {m : MethodId} {below : List Frame} {meth : Method} {c : Code} {b L : Nat} {xs : Nat → Int32} {D : va_G} {cI cR cJ : ClassId} {x : Nat → Nat} {mm : Nat} {q : Nat → Nat} {ou : Nat} (C0 : lw_At p s m meth c b L xs) (C : LwC l p s m c b L xs D cI cR cJ x mm q ou) : ∀ (n k : Nat), 5 * k ≤ L → L - 5 * k < n → ∀ (S : ST) (t : Nat) (fo : Nat → Int64) (g : Nat → Option va_E) (H : Heap) (locs : List Loc) (ls : Array Slot) (cells slots : Nat), cells ≤ 300 + 5 * k → slots ≤ 40000 + 30 * k → repX cI cR g x S → repM cI g mm q t S → g ou = some (.inl (cJ, 1, .inr (.inl fo))) → hw D hC (fun q => s.heap.size ≤ q) g H → va_S (fun q => s.heap.size ≤ q) s.heap H locs → lv_has ls 7 [(0, .ref b), (1, .ref (x 0)), (2, .ref mm), (3, .ref ou), (4, .int (nI (5 * k)))] → W p l e room_1 s m #[Value.ref b] below meth c H locs cells slots (lw_Z below #[Value.ref b] s) (F0 m 23 ls []) := by
  obtain ⟨S0, hK, hx, hz, hX, hbl, hL, -⟩ := id C
  obtain ⟨hx9, hb9, hr9, -, -, -, -, -, hlocks, -⟩ := id C0
  have hbA : ¬ (fun q : Nat => s.heap.size ≤ q) b := Nat.not_le.mpr hbl
  intro n
  induction n with
  | zero => intros; omega
  | succ n ih =>
    intro k hk5 hn S t fo g H locs ls cells slots hc hs HX HM ho hg hS hl
    refine lv_iload S0.1 S0.2.1 dLa_law_23 (lv_at hl 4 rfl) ?_
    refine lv_aload_n S0.1 S0.2.1 dLa_law_25 rfl (lv_at hl 0 rfl) ?_
    refine va_slen S0.1 S0.2.1 hX hbl hbA hS dLa_law_26 ?_
    refine lv_iconst (v := nI 5) S0.1 S0.2.1 dLa_law_27 (by decide) ?_
    refine lv_isub S0.1 S0.2.1 dLa_law_28 ?_
    refine lv_icmp_gt (tgt := 986) S0.1 S0.2.1 dLa_law_29 (by decide) (fun c_29 => ?_) (fun c_29 => ?_)
    · refine lv_iconst (v := 1) S0.1 S0.2.1 dLa_law_986 (by decide) ?_
      refine va_forget hS.2.2 ?_
      refine W.widen (k := 601024) (n := 7293034) (by omega) (by omega) ?_
      exact lw_ret hx9 hb9 hr9 hlocks dLa_law_987
    · have c_29 : ¬ L < 5 * k + 5 := fun h => c_29 ((nI_sublt2 (a := L) (b := 5) (x := 5 * k) (by omega) (by omega) (by omega)).mpr h)
      refine lv_aload_n S0.1 S0.2.1 dLa_law_32 rfl (lv_at hl 0 rfl) ?_
      refine lv_iload S0.1 S0.2.1 dLa_law_33 (lv_at hl 4 rfl) ?_
      refine hw_sld S0.1 S0.2.1 hX hbl hbA hS (i := 5 * k) (by omega) (by omega) dLa_law_35 ?_
      refine lv_bipush (v := nI 15) S0.1 S0.2.1 dLa_law_36 (by decide) ?_
      refine lv_iand S0.1 S0.2.1 dLa_law_38 ?_
      obtain ⟨u, hu, eu⟩ := and15 (xs (5 * k))
      refine hw_top (nI u) eu ?_
      have kk : LwK p l e s m below meth c (lw_Z below #[Value.ref b] s) b D cI cR cJ x mm q ou k 980 := by
        intro S t fo g H locs ls cells slots hc hs HX HM ho hg hS hl
        refine lv_iinc (v := nI (5 * (k + 1))) (lv' := [(4, .int (nI (5 * (k + 1)))), (0, .ref b), (1, .ref (x 0)), (2, .ref mm), (3, .ref ou)]) S0.1 S0.2.1 dLa_law_980 hl (k := 4) rfl (by exact nI_add _ 5) (by decide) rfl (fun ls hl => ?_)
        refine lv_goto (tgt := 23) S0.1 S0.2.1 dLa_law_983 (by decide) ?_
        exact ih (k + 1) (by omega) (by omega) S t fo g H locs ls cells slots (by omega) (by omega) HX HM ho hg hS (lv_sub hl [1, 2, 3, 4, 0] rfl)
      rcases Nat.lt_or_ge u 1 with h9 | h9
      · have e9 : u = 0 := by omega
        subst e9
        exact lv_tableIn (off := 65) (tgt := 104) S0.1 S0.2.1 dLa_law_39 (by decide) (by decide) (by decide) (by decide) (law_put C (by omega) hc hs HX HM ho hg hS hl kk)
      rcases Nat.lt_or_ge u 2 with h9 | h9
      · have e9 : u = 1 := by omega
        subst e9
        exact lv_tableIn (off := 133) (tgt := 172) S0.1 S0.2.1 dLa_law_39 (by decide) (by decide) (by decide) (by decide) (law_clear C (by omega) hc hs HX HM ho hg hS hl kk)
      rcases Nat.lt_or_ge u 3 with h9 | h9
      · have e9 : u = 2 := by omega
        subst e9
        exact lv_tableIn (off := 169) (tgt := 208) S0.1 S0.2.1 dLa_law_39 (by decide) (by decide) (by decide) (by decide) (law_size C (by omega) hc hs HX HM ho hg hS hl kk)
      rcases Nat.lt_or_ge u 4 with h9 | h9
      · have e9 : u = 3 := by omega
        subst e9
        exact lv_tableIn (off := 225) (tgt := 264) S0.1 S0.2.1 dLa_law_39 (by decide) (by decide) (by decide) (by decide) (law_get C (by omega) hc hs HX HM ho hg hS hl kk)
      rcases Nat.lt_or_ge u 5 with h9 | h9
      · have e9 : u = 4 := by omega
        subst e9
        exact lv_tableIn (off := 293) (tgt := 332) S0.1 S0.2.1 dLa_law_39 (by decide) (by decide) (by decide) (by decide) (law_common C (by omega) hc hs HX HM ho hg hS hl kk)
      rcases Nat.lt_or_ge u 6 with h9 | h9
      · have e9 : u = 5 := by omega
        subst e9
        exact lv_tableIn (off := 361) (tgt := 400) S0.1 S0.2.1 dLa_law_39 (by decide) (by decide) (by decide) (by decide) (law_pair C (by omega) hc hs HX HM ho hg hS hl kk)
      rcases Nat.lt_or_ge u 7 with h9 | h9
      · have e9 : u = 6 := by omega
        subst e9
        exact lv_tableIn (off := 429) (tgt := 468) S0.1 S0.2.1 dLa_law_39 (by decide) (by decide) (by decide) (by decide) (law_hunks C (by omega) hc hs HX HM ho hg hS hl kk)
      rcases Nat.lt_or_ge u 8 with h9 | h9
      · have e9 : u = 7 := by omega
        subst e9
        exact lv_tableIn (off := 497) (tgt := 536) S0.1 S0.2.1 dLa_law_39 (by decide) (by decide) (by decide) (by decide) (law_hunk C (by omega) hc hs HX HM ho hg hS hl kk)
      rcases Nat.lt_or_ge u 9 with h9 | h9
      · have e9 : u = 8 := by omega
        subst e9
        exact lv_tableIn (off := 565) (tgt := 604) S0.1 S0.2.1 dLa_law_39 (by decide) (by decide) (by decide) (by decide) (law_merge C (by omega) hc hs HX HM ho hg hS hl kk)
      rcases Nat.lt_or_ge u 10 with h9 | h9
      · have e9 : u = 9 := by omega
        subst e9
        exact lv_tableIn (off := 657) (tgt := 696) S0.1 S0.2.1 dLa_law_39 (by decide) (by decide) (by decide) (by decide) (law_conflict C (by omega) hc hs HX HM ho hg hS hl kk)
      rcases Nat.lt_or_ge u 11 with h9 | h9
      · have e9 : u = 10 := by omega
        subst e9
        exact lv_tableIn (off := 725) (tgt := 764) S0.1 S0.2.1 dLa_law_39 (by decide) (by decide) (by decide) (by decide) (law_patch C (by omega) hc hs HX HM ho hg hS hl kk)
      rcases Nat.lt_or_ge u 12 with h9 | h9
      · have e9 : u = 11 := by omega
        subst e9
        exact lv_tableIn (off := 817) (tgt := 856) S0.1 S0.2.1 dLa_law_39 (by decide) (by decide) (by decide) (by decide) (law_commit C (by omega) hc hs HX HM ho hg hS hl kk)
      rcases Nat.lt_or_ge u 13 with h9 | h9
      · have e9 : u = 12 := by omega
        subst e9
        exact lv_tableIn (off := 873) (tgt := 912) S0.1 S0.2.1 dLa_law_39 (by decide) (by decide) (by decide) (by decide) (law_origin C (by omega) hc hs HX HM ho hg hS hl kk)
      have h15 : u = 13 ∨ u = 14 ∨ u = 15 := by omega
      rcases h15 with rfl | rfl | rfl
      · exact lv_tableOut (tgt := 980) S0.1 S0.2.1 dLa_law_39 (by decide) (by decide) (kk S t fo g H locs ls cells slots (by omega) (by omega) HX HM ho hg hS hl)
      · exact lv_tableOut (tgt := 980) S0.1 S0.2.1 dLa_law_39 (by decide) (by decide) (kk S t fo g H locs ls cells slots (by omega) (by omega) HX HM ho hg hS hl)
      · exact lv_tableOut (tgt := 980) S0.1 S0.2.1 dLa_law_39 (by decide) (by decide) (kk S t fo g H locs ls cells slots (by omega) (by omega) HX HM ho hg hS hl)
set_option maxRecDepth 100000 in
set_option maxHeartbeats 4000000 in
theorem whole_start {p : Program} {e : Env} {s : State} {m : MethodId} {below : List Frame} {meth : Method} {c : Code} (l : Launch) (hst : l.stackTraces = false) {b L : Nat} {xs : Nat → Int32} (hL : L ≤ 2560) (C0 : lw_At p s m meth c b L xs) : W p l e room_1 s m #[Value.ref b] below meth c s.heap [] 0 0 (lw_Z below #[Value.ref b] s) (entryFrame m ([Value.ref b] : List Value).toArray 7) := by
  obtain ⟨hx9, hb9, hr9, hml, hown, hts, hX, hbl, hlocks, hgv⟩ := id C0
  have S0 : CallFix p m c code 7 s #[Value.ref b] hB RLa := ⟨hx9, hb9, hml, hown, fun w h => hts w (hB_tbl h)⟩
  obtain ⟨D, cI, cR, cJ, hK⟩ := law_known hts
  have hx := law_X hts hgv
  have hz := law_Z hts hgv
  have hA0 : ∀ q : Nat, s.heap.size ≤ q → (fun q : Nat => s.heap.size ≤ q) q := fun _ h => h
  have hS : va_S (fun q : Nat => s.heap.size ≤ q) s.heap s.heap [] := va_S.rf
  have hg : hw D hC (fun q : Nat => s.heap.size ≤ q) (fun _ => none) s.heap := fun a y h => by cases h
  have hl := lv_entry ([.ref b]) (n := 7) (Nat.le_of_ble_eq_true rfl)
  rw [lg_entry_eq]
  generalize (lg_sl ([.ref b]) ++ List.replicate (7 - (lg_sl ([.ref b])).length) Slot.unset).toArray = ls at hl ⊢
  have hl : lv_has ls 7 [(0, .ref b)] := hl
  refine hw_new (fs := [.null, .null, .null, .null, .null, .null, .null]) S0 hK hg hS hA0 (ci := 7) rfl inMR tyMR tokMR lc_La_8 insMR iniMR dflMR (Nat.le_of_ble_eq_true rfl) (Nat.le_of_ble_eq_true rfl) dLa_law_0 (fun a1 H ha1 hg hS => ?_)
  refine lv_dup S0.1 S0.2.1 dLa_law_3 rfl ?_
  obtain ⟨g1, eg1⟩ : ∃ z, z = hs (fun _ => none) a1 (.inr (7, [.null, .null, .null, .null, .null, .null, .null])) := ⟨_, rfl⟩
  have hg : hw D hC (fun q : Nat => s.heap.size ≤ q) g1 H := by rw [eg1]; exact hg
  have f1 : g1 a1 = some (.inr (7, [.null, .null, .null, .null, .null, .null, .null])) := by rw [eg1]; exact hs_s _ _ _
  refine hw_IX (As := []) (rest := [.ref a1]) S0 hK hg hS hA0 hx hz (c_MR_init l D cI cR cJ g1 _ a1 f1) kMR_init lm_La_58 ⟨Nat.le_of_ble_eq_true rfl, Nat.le_of_ble_eq_true rfl⟩ rfl hl.1 rfl (Nat.le_of_ble_eq_true rfl) dLa_law_4 ⟨Nat.le_of_ble_eq_true rfl, Nat.le_of_ble_eq_true rfl⟩ (fun g2 H locs hp hg hS => ?_)
  obtain ⟨x, x0, -, -, HX⟩ := hp
  rw [← x0]
  refine lv_astore_n (lv' := [(1, .ref (x 0)), (0, .ref b)]) S0.1 S0.2.1 dLa_law_7 rfl hl (by decide) rfl (fun ls hl => ?_)
  refine hw_new (fs := [.int (nI 0), .null, .null, .int (nI 0), .int (nI 0), .null, .null, .null, .null, .int (nI 0), .null, .null, .int (nI 0), .null, .int (nI 0), .null, .int (nI 0), .int (nI 0), .null, .null, .null, .int (nI 0), .null, .int (nI 0), .null, .int (nI 0), .null, .null, .null]) S0 hK hg hS hA0 (ci := 8) rfl inMM tyMM tokMM lc_La_59 insMM iniMM dflMM (Nat.le_of_ble_eq_true rfl) (Nat.le_of_ble_eq_true rfl) dLa_law_8 (fun mm H hmm hg hS => ?_)
  refine lv_dup S0.1 S0.2.1 dLa_law_11 rfl ?_
  obtain ⟨g3, eg3⟩ : ∃ z, z = hs g2 mm (.inr (8, [.int (nI 0), .null, .null, .int (nI 0), .int (nI 0), .null, .null, .null, .null, .int (nI 0), .null, .null, .int (nI 0), .null, .int (nI 0), .null, .int (nI 0), .int (nI 0), .null, .null, .null, .int (nI 0), .null, .int (nI 0), .null, .int (nI 0), .null, .null, .null])) := ⟨_, rfl⟩
  have hg : hw D hC (fun q : Nat => s.heap.size ≤ q) g3 H := by rw [eg3]; exact hg
  have f3 : g3 mm = some (.inr (8, [.int (nI 0), .null, .null, .int (nI 0), .int (nI 0), .null, .null, .null, .null, .int (nI 0), .null, .null, .int (nI 0), .null, .int (nI 0), .null, .int (nI 0), .int (nI 0), .null, .null, .null, .int (nI 0), .null, .int (nI 0), .null, .int (nI 0), .null, .null, .null])) := by rw [eg3]; exact hs_s _ _ _
  have nx : mm ∉ xS x := fun h => by obtain ⟨y, hy⟩ := repX_x HX mm h; rw [hmm] at hy; cases hy
  have HX : repX cI cR g3 x S00 := HX.kept (fun i hi => by rw [eg3, hs_n _ _ (xS_ne nx hi)])
  refine hw_I (As := []) (rest := [.ref mm]) S0 hK hg hS hA0 (c_MM_init l D cI cR cJ g3 _ mm f3) kMM_init lm_La_61 ⟨Nat.le_of_ble_eq_true rfl, Nat.le_of_ble_eq_true rfl⟩ rfl hl.1 rfl (Nat.le_of_ble_eq_true rfl) dLa_law_12 ⟨Nat.le_of_ble_eq_true rfl, Nat.le_of_ble_eq_true rfl⟩ (fun g4 H locs hp hg hS => ?_)
  obtain ⟨q, hq0, frq, HM⟩ := hp
  have hxi : ∀ i, i < 50 → x i ∉ mS mm q := by
    intro i hi hm
    obtain ⟨y, hy⟩ := repX_x HX (x i) (xS_mem x hi)
    rcases List.mem_cons.mp hm with h | h
    · exact nx (by rw [← h]; exact xS_mem x hi)
    · simp only [List.mem_cons, List.not_mem_nil, or_false] at h
      have key : ∀ j, j < 18 → x i ≠ q j := fun j hj e => by rw [e, hq0 j hj] at hy; cases hy
      rcases h with h | h | h | h | h | h | h | h | h | h | h | h | h | h | h | h | h | h
      all_goals exact absurd h (key _ (by decide))
  have HX : repX cI cR g4 x S00 := HX.kept (fun i hi => by
    obtain ⟨y, hy⟩ := repX_x HX (x i) (xS_mem x hi)
    rw [hy]
    exact frq (x i) y hy (fun h => nx (by rw [← List.mem_singleton.mp h]; exact xS_mem x hi)))
  refine lv_astore_n (lv' := [(2, .ref mm), (1, .ref (x 0)), (0, .ref b)]) S0.1 S0.2.1 dLa_law_15 rfl hl (by decide) rfl (fun ls hl => ?_)
  refine lv_iconst (v := nI 1) S0.1 S0.2.1 dLa_law_16 (by decide) ?_
  refine hw_newa (ty := .long) (a0 := (1, .inr (.inl (fun _ => 0)))) S0 hK hg hS hA0 rfl wJ_arr 2 rfl (fun C h => by cases h) (fun _ => rfl) (by omega) (by show 1 * 8 ≤ 536870912; omega) (Nat.le_of_ble_eq_true rfl) (Nat.le_of_ble_eq_true rfl) dLa_law_17 (fun ou H hou0 hg hS => ?_)
  obtain ⟨g5, eg5⟩ : ∃ z, z = hs g4 ou (.inl (cJ, 1, .inr (.inl (fun _ => 0)))) := ⟨_, rfl⟩
  have hg : hw D hC (fun q : Nat => s.heap.size ≤ q) g5 H := by rw [eg5]; exact hg
  have ho : g5 ou = some (.inl (cJ, 1, .inr (.inl (fun _ => 0)))) := by rw [eg5]; exact hs_s _ _ _
  have hou : ou ∉ xS x := fun h => by obtain ⟨y, hy⟩ := repX_x HX ou h; rw [hou0] at hy; cases hy
  have houm : ou ∉ mS mm q := fun h => by obtain ⟨y, hy⟩ := repM_q HM ou h; rw [hou0] at hy; cases hy
  have HX : repX cI cR g5 x S00 := HX.kept (fun i hi => by rw [eg5, hs_n _ _ (xS_ne hou hi)])
  have HM : repM cI g5 mm q 0 S00 := HM.kept (by rw [eg5, hs_n _ _ (fun e => houm (by rw [← e]; exact List.mem_cons_self))]) (fun i hi => by rw [eg5, hs_n _ _ (fun e => houm (by rw [← e]; exact mS_q hi))])
  have hdm : ∀ a ∈ mS mm q, a ∉ ou :: xS x := by
    intro a ha hm
    rcases List.mem_cons.mp hm with h | h
    · exact houm (by rw [← h]; exact ha)
    · obtain ⟨i, hi, rfl⟩ := List.mem_map.mp h
      exact hxi i (List.mem_range.mp hi) ha
  refine lv_astore_n (lv' := [(3, .ref ou), (2, .ref mm), (1, .ref (x 0)), (0, .ref b)]) S0.1 S0.2.1 dLa_law_19 rfl hl (by decide) rfl (fun ls hl => ?_)
  refine lv_iconst (v := nI 0) S0.1 S0.2.1 dLa_law_20 (by decide) ?_
  refine lv_istore (lv' := [(4, .int (nI 0)), (3, .ref ou), (2, .ref mm), (1, .ref (x 0)), (0, .ref b)]) S0.1 S0.2.1 dLa_law_21 hl (by decide) rfl (fun ls hl => ?_)
  exact law_loop C0 ⟨S0, hK, hx, hz, hX, hbl, hL, hou, houm, hdm, hxi, hst⟩ (L + 1) 0 (Nat.zero_le _) (by omega) S00 0 _ g5 _ _ _ _ _ (Nat.le_of_ble_eq_true rfl) (Nat.le_of_ble_eq_true rfl) HX HM ho hg hS (lv_sub hl [4, 3, 2, 1, 0] rfl)
