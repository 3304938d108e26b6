/-! MY WORLD: a map from addresses to cells. A method gets the whole map and hands back a whole map; what it left alone its post says by 'g1 q = g q'. -/
section HWA
variable {D : va_G} {cl : List vw_C} {A B : Nat → Prop} {g g1 : Nat → Option va_E} {H H0 H1 : Heap} {a b sz : Nat} {x y : va_E} {locs : List Loc}
/-- the world as a map: what lies at an address -/
def hw (D : va_G) (cl : List vw_C) (A : Nat → Prop) (g : Nat → Option va_E) (H : Heap) : Prop := ∀ (a : Nat) (x : va_E), g a = some x → va_at D cl (a, x) H ∧ A a
/-- one cell is set -/
def hs (g : Nat → Option va_E) (a : Nat) (x : va_E) : Nat → Option va_E := fun q => if q = a then some x else g q
theorem hs_s (g : Nat → Option va_E) (a : Nat) (x : va_E) : hs g a x a = some x := if_pos rfl
theorem hs_n (g : Nat → Option va_E) {a b : Nat} (x : va_E) (h : b ≠ a) : hs g a x b = g b := if_neg h
/-- which cells a method may change: those of its world, and those that it makes -/
def hA (g : Nat → Option va_E) (sz : Nat) : Nat → Prop := fun q => (∃ x, g q = some x) ∨ sz ≤ q
theorem hw.P (h : hw D cl A g H) (he : g a = some x) : va_P D cl [(a, x)] H := fun k q hk => by
  match k, hk with
  | 0, hk => cases hk; exact (h a x he).1
  | k + 1, hk => simp at hk
theorem hw.weaken (h : hw D cl A g H) (hAB : ∀ q, A q → B q) : hw D cl B g H := fun a x he => ⟨(h a x he).1, hAB _ (h a x he).2⟩
theorem hw.self (h : hw D cl A g H) : hw D cl (hA g sz) g H := fun a x he => ⟨(h a x he).1, Or.inl ⟨x, he⟩⟩
theorem hw.lt (h : hw D cl A g H) (he : g a = some x) : a < H.size := (h a x he).1.lt
theorem hA.sub (h : hw D cl A g H) (hS : va_S A H0 H locs) (hA0 : ∀ q, H0.size ≤ q → A q) : ∀ q, hA g H.size q → A q := fun q hq => by
  rcases hq with ⟨x, hx⟩ | hq
  · exact (h q x hx).2
  · exact hA0 q (Nat.le_trans hS.1 hq)
/-- the same world as a pool, for the kit's rows -/
def hL (g : Nat → Option va_E) (n : Nat) : List Nat := (List.range n).filter (fun q => (g q).isSome)
def hf (g : Nat → Option va_E) : Nat → va_E := fun q => (g q).getD (.inr (0, []))
theorem hL_mem (h : hw D cl A g H) (he : g a = some x) : a ∈ hL g H.size := List.mem_filter.mpr ⟨List.mem_range.mpr (h.lt he), by rw [he]; rfl⟩
theorem hf_at (he : g a = some x) : hf g a = x := by simp [hf, he]
theorem hL_get {n k : Nat} {q : Nat × va_E} (hk : ([] ++ va_pl (hL g n) (hf g))[k]? = some q) : (hL g n)[k]? = some q.1 ∧ g q.1 = some q.2 := by
  simp only [List.nil_append, va_pl, List.getElem?_map] at hk
  cases hq : (hL g n)[k]? with
  | none => rw [hq] at hk; cases hk
  | some u =>
    rw [hq] at hk
    cases hk
    obtain ⟨z, hz⟩ := Option.isSome_iff_exists.mp (List.mem_filter.mp (List.mem_of_getElem? hq)).2
    exact ⟨rfl, by show g u = some (hf g u); rw [hf_at hz]; exact hz⟩
theorem hw.pP (h : hw D cl A g H) : va_P D cl ([] ++ va_pl (hL g H.size) (hf g)) H := fun k q hk => (h q.1 q.2 (hL_get hk).2).1
theorem hw.pD (h : hw D cl A g H) : va_D A ([] ++ va_pl (hL g H.size) (hf g)) := by
  refine ⟨fun i j u v hi hj huv => ?_, fun k q hk => (h q.1 q.2 (hL_get hk).2).2⟩
  have h1 := (hL_get hi).1
  have h2 := (hL_get hj).1
  rw [huv] at h1
  have hnd : (hL g H.size).Nodup := List.Pairwise.filter _ List.nodup_range
  exact (List.getElem?_inj (List.getElem?_eq_some_iff.mp h1).1 hnd).mp (h1.trans h2.symm)
theorem hw.ix (h : hw D cl A g H) (he : g a = some x) : ∃ k : Nat, ([] ++ va_pl (hL g H.size) (hf g))[k]? = some (a, x) := by
  obtain ⟨k, hk⟩ := va_pl_get (X := []) (f := hf g) (hL_mem h he)
  exact ⟨k, by rw [hf_at he] at hk; exact hk⟩
theorem hw.ofSet (h : hw D cl A g H) (he : g a = some x) {k : Nat} (hk : ([] ++ va_pl (hL g H.size) (hf g))[k]? = some (a, x)) (hP : va_P D cl (([] ++ va_pl (hL g H.size) (hf g)).set k (a, y)) H1) : hw D cl A (hs g a y) H1 := by
  rw [va_pl_set h.pD (hL_mem h he) (by rw [hf_at he]; exact hk)] at hP
  intro b z hb
  by_cases e : b = a
  · subst e
    rw [hs_s] at hb
    cases hb
    obtain ⟨j, hj⟩ := va_pl_get (X := []) (f := va_up (hf g) b y) (hL_mem h he)
    rw [va_up_self] at hj
    exact ⟨hP j _ hj, (h b x he).2⟩
  · rw [hs_n g y e] at hb
    obtain ⟨j, hj⟩ := va_pl_get (X := []) (f := va_up (hf g) a y) (hL_mem h hb)
    rw [va_up_ne _ _ e, hf_at hb] at hj
    exact ⟨hP j _ hj, (h b z hb).2⟩
theorem hw.ofPush (h : hw D cl A g H) {q : Nat} (hP : va_P D cl (([] ++ va_pl (hL g H.size) (hf g)) ++ [(q, y)]) H1) (hD : va_D A (([] ++ va_pl (hL g H.size) (hf g)) ++ [(q, y)])) : hw D cl A (hs g q y) H1 ∧ g q = none := by
  have hq : q ∉ hL g H.size := va_pl_fresh2 hD
  have hn : g q = none := by
    cases e : g q with
    | none => rfl
    | some z => exact absurd (hL_mem h e) hq
  have hlast : (([] ++ va_pl (hL g H.size) (hf g)) ++ [(q, y)])[([] ++ va_pl (hL g H.size) (hf g)).length]? = some (q, y) := by
    rw [List.getElem?_append_right (Nat.le_refl _), Nat.sub_self]; rfl
  refine ⟨fun b z hb => ?_, hn⟩
  by_cases e : b = q
  · subst e
    rw [hs_s] at hb
    cases hb
    exact ⟨hP _ _ hlast, hD.2 _ _ hlast⟩
  · rw [hs_n g y e] at hb
    obtain ⟨j, hj⟩ := h.ix hb
    have hj2 : (([] ++ va_pl (hL g H.size) (hf g)) ++ [(q, y)])[j]? = some (b, z) := by
      rw [List.getElem?_append_left (List.getElem?_eq_some_iff.mp hj).1]; exact hj
    exact ⟨hP _ _ hj2, hD.2 _ _ hj2⟩
/-- different cells lie apart -/
theorem h_ne (ha : g a = some x) (hb : g b = some y) (h : x ≠ y) : a ≠ b := fun e => h (by subst e; exact Option.some.inj (ha.symm.trans hb))
/-- only the cells of S have changed -/
def hfr (g g1 : Nat → Option va_E) (S : List Nat) : Prop := ∀ q, q ∉ S → g1 q = g q
theorem hfr.rf {S : List Nat} : hfr g g S := fun _ _ => rfl
theorem hfr.put {g2 : Nat → Option va_E} {S : List Nat} (h : hfr g g1 S) (e : g2 = hs g1 a x) (ha : a ∈ S) : hfr g g2 S := fun q hq => by
  rw [e, hs_n _ _ (fun z => hq (by rw [z]; exact ha))]
  exact h q hq
theorem hfr.call {g2 : Nat → Option va_E} {S S1 : List Nat} (h : hfr g g1 S) (h2 : hfr g1 g2 S1) (hS : ∀ q ∈ S1, q ∈ S) : hfr g g2 S := fun q hq => by
  rw [h2 q (fun z => hq (hS q z))]
  exact h q hq
theorem hfr.mono {S S1 : List Nat} (h : hfr g g1 S) (hS : ∀ q ∈ S, q ∈ S1) : hfr g g1 S1 := fun q hq => h q (fun z => hq (hS q z))
theorem hfr.at {S : List Nat} (h : hfr g g1 S) (hb : b ∉ S) (he : g b = some x) : g1 b = some x := by rw [h b hb]; exact he
theorem h_nm {S : List Nat} (h : a ≠ b) (h2 : a ∉ S) : a ∉ b :: S := fun z => (List.mem_cons.mp z).elim h h2
theorem h_n0 : a ∉ ([] : List Nat) := List.not_mem_nil
end HWA
section HWR
variable {p : Program} {l : Launch} {e : Env} {R : Room} {s : State} {m : MethodId} {args : Array Value} {below : List Frame} {meth : Method} {c : Code} {H : Heap} {locs : List Loc} {cells slots : Nat} {Q : State → Prop}
variable {cc : ByteArray} {pc nL : Nat} {ls : Array Slot} {rest : List Value} {D : va_G} {A : Nat → Prop} {a : Nat} {tys : List (ClassId × FieldType)} {H0 : Heap} {own : String} {g : Nat → Option va_E}
theorem hw_get (S0 : CallFix p m c cc nL s args hB own) (hK : va_K D hC tys s) (hg : hw D hC A g H) {ref C : String} {T : u_T} {N ci index : Nat} {fs : List Value} (he : g a = some (.inr (ci, fs))) (hc : hC[ci]? = some (C, T, N)) (hin : ∀ w ∈ u_ws C T N, w ∈ hB) (k : Nat) (hk : k < N) (hlink : Cond.fieldLink own index ref (T k).2.1 (T k).2.2.1 ∈ hB) (hsame : (T k).1 = ref) {v : Value} (hv : fs[k]? = some v) (hdg : decode cc pc = .ok (.getfield index, 3))
    (kk : W p l e R s m args below meth c H locs cells slots Q (F0 m (pc + 3) ls (v :: rest))) : W p l e R s m args below meth c H locs cells slots Q (F0 m pc ls (.ref a :: rest)) :=
  va_get S0.1 S0.2.1 S0.2.2.2.2 hin S0.2.2.2.1 hK (hg.P he) 0 rfl hc k hk (S0.2.2.2.2 _ hlink) (fun x h => by rw [← hsame]; exact h) hv hdg kk
theorem hw_put (S0 : CallFix p m c cc nL s args hB own) (hK : va_K D hC tys s) (hg : hw D hC A g H) (hS : va_S A H0 H locs) {ref C : String} {T : u_T} {N ci index : Nat} {fs : List Value} (he : g a = some (.inr (ci, fs))) (hc : hC[ci]? = some (C, T, N)) (hin : ∀ w ∈ u_ws C T N, w ∈ hB) (ty0 : Nat → FieldType) (hty : ∀ k, k < N → parseFieldDescriptor (T k).2.2.1 = some (ty0 k)) (hnm : ∀ a, a < N → ∀ b, b < N → a ≠ b → (T a).2.1 ≠ (T b).2.1)
    (k : Nat) (hk : k < N) (hlink : Cond.fieldLink own index ref (T k).2.1 (T k).2.2.1 ∈ hB) (hsame : (T k).1 = ref) (hfin : (T k).2.2.2 = false) {v : Value} (hn : narrow (ty0 k) v = v) (hfit : fits (ty0 k) v = true) (hl : k < fs.length) (hdg : decode cc pc = .ok (.putfield index, 3))
    (kk : ∀ (H1 : Heap) (locs1 : List Loc), hw D hC A (hs g a (.inr (ci, fs.set k v))) H1 → va_S A H0 H1 locs1 → W p l e R s m args below meth c H1 locs1 cells slots Q (F0 m (pc + 3) ls rest)) : W p l e R s m args below meth c H locs cells slots Q (F0 m pc ls (v :: .ref a :: rest)) := by
  obtain ⟨q0, hq0⟩ := hg.ix he
  exact va_put S0.1 S0.2.1 S0.2.2.2.2 hin ty0 hty hnm S0.2.2.2.1 hK hg.pP hg.pD hS q0 hq0 hc k hk (S0.2.2.2.2 _ hlink) (fun x h => by rw [← hsame]; exact h) hfin (hty k hk) hn hfit hl hdg (fun H1 locs1 hP hD hS1 => kk H1 locs1 (hg.ofSet he hq0 hP) hS1)
theorem hw_putF (S0 : CallFix p m c cc nL s args hB own) (hK : va_K D hC tys s) (hg : hw D hC A g H) (hS : va_S A H0 H locs) {ref C : String} {T : u_T} {N ci index : Nat} {fs : List Value} (he : g a = some (.inr (ci, fs))) (hc : hC[ci]? = some (C, T, N)) (hin : ∀ w ∈ u_ws C T N, w ∈ hB) (ty0 : Nat → FieldType) (hty : ∀ k, k < N → parseFieldDescriptor (T k).2.2.1 = some (ty0 k)) (hnm : ∀ a, a < N → ∀ b, b < N → a ≠ b → (T a).2.1 ≠ (T b).2.1)
    (k : Nat) (hk : k < N) (hlink : Cond.fieldLink own index ref (T k).2.1 (T k).2.2.1 ∈ hB) (hsame : (T k).1 = ref) (hfin : (T k).2.2.2 = true) (hini : meth.name = "<init>") (hdecl : (T k).1 = own) {v : Value} (hn : narrow (ty0 k) v = v) (hfit : fits (ty0 k) v = true) (hl : k < fs.length) (hdg : decode cc pc = .ok (.putfield index, 3))
    (kk : ∀ (H1 : Heap) (locs1 : List Loc), hw D hC A (hs g a (.inr (ci, fs.set k v))) H1 → va_S A H0 H1 locs1 → W p l e R s m args below meth c H1 locs1 cells slots Q (F0 m (pc + 3) ls rest)) : W p l e R s m args below meth c H locs cells slots Q (F0 m pc ls (v :: .ref a :: rest)) := by
  obtain ⟨q0, hq0⟩ := hg.ix he
  exact va_putF S0.1 S0.2.1 S0.2.2.2.2 hin ty0 hty hnm S0.2.2.2.1 hK hg.pP hg.pD hS q0 hq0 hc k hk (S0.2.2.2.2 _ hlink) (fun x h => by rw [← hsame]; exact h) hfin hini hdecl (hty k hk) hn hfit hl hdg (fun H1 locs1 hP hD hS1 => kk H1 locs1 (hg.ofSet he hq0 hP) hS1)
theorem hw_iald (S0 : CallFix p m c cc nL s args hB own) (hK : va_K D hC tys s) (hg : hw D hC A g H) {cA : ClassId} {n : Nat} {f : Nat → Int32} (he : g a = some (.inl (cA, n, .inl f))) (t0 : Nat) (ht : tys[t0]? = some (cA, .int)) {i : Nat} (hi : i < n) (hn : n < 2 ^ 31) (hdg : decode cc pc = .ok (.iaload, 1))
    (kk : W p l e R s m args below meth c H locs cells slots Q (F0 m (pc + 1) ls (.int (f i) :: rest))) : W p l e R s m args below meth c H locs cells slots Q (F0 m pc ls (.int (nI i) :: .ref a :: rest)) :=
  va_iald S0.1 S0.2.1 hK (hg.P he) 0 t0 rfl ht (vp_in_nI hi hn) hdg (by rw [nI_clamp (by omega)]; exact kk)
theorem hw_iast (S0 : CallFix p m c cc nL s args hB own) (hK : va_K D hC tys s) (hg : hw D hC A g H) (hS : va_S A H0 H locs) {cA : ClassId} {n : Nat} {f : Nat → Int32} (he : g a = some (.inl (cA, n, .inl f))) (t0 : Nat) (ht : tys[t0]? = some (cA, .int)) {i : Nat} {v : Int32} (hi : i < n) (hn : n < 2 ^ 31) (hdg : decode cc pc = .ok (.iastore, 1))
    (kk : ∀ (H1 : Heap) (locs1 : List Loc), hw D hC A (hs g a (.inl (cA, n, .inl (upd f i v)))) H1 → va_S A H0 H1 locs1 → W p l e R s m args below meth c H1 locs1 cells slots Q (F0 m (pc + 1) ls rest)) : W p l e R s m args below meth c H locs cells slots Q (F0 m pc ls (.int v :: .int (nI i) :: .ref a :: rest)) := by
  obtain ⟨q0, hq0⟩ := hg.ix he
  refine va_iast S0.1 S0.2.1 hK hg.pP hg.pD hS q0 t0 hq0 ht (vp_in_nI hi hn) hdg (fun H1 locs1 hP hD hS1 => ?_)
  rw [nI_clamp (by omega)] at hP
  exact kk H1 locs1 (hg.ofSet he hq0 hP) hS1
theorem hw_lald (S0 : CallFix p m c cc nL s args hB own) (hK : va_K D hC tys s) (hg : hw D hC A g H) {cA : ClassId} {n : Nat} {f : Nat → Int64} (he : g a = some (.inl (cA, n, .inr (.inl f)))) (t0 : Nat) (ht : tys[t0]? = some (cA, .long)) {i : Nat} (hi : i < n) (hn : n < 2 ^ 31) (hdg : decode cc pc = .ok (.laload, 1))
    (kk : W p l e R s m args below meth c H locs cells slots Q (F0 m (pc + 1) ls (.long (f i) :: rest))) : W p l e R s m args below meth c H locs cells slots Q (F0 m pc ls (.int (nI i) :: .ref a :: rest)) :=
  va_lald S0.1 S0.2.1 hK (hg.P he) 0 t0 rfl ht (vp_in_nI hi hn) hdg (by rw [nI_clamp (by omega)]; exact kk)
theorem hw_last (S0 : CallFix p m c cc nL s args hB own) (hK : va_K D hC tys s) (hg : hw D hC A g H) (hS : va_S A H0 H locs) {cA : ClassId} {n : Nat} {f : Nat → Int64} (he : g a = some (.inl (cA, n, .inr (.inl f)))) (t0 : Nat) (ht : tys[t0]? = some (cA, .long)) {i : Nat} {v : Int64} (hi : i < n) (hn : n < 2 ^ 31) (hdg : decode cc pc = .ok (.lastore, 1))
    (kk : ∀ (H1 : Heap) (locs1 : List Loc), hw D hC A (hs g a (.inl (cA, n, .inr (.inl (vp_updL f i v))))) H1 → va_S A H0 H1 locs1 → W p l e R s m args below meth c H1 locs1 cells slots Q (F0 m (pc + 1) ls rest)) : W p l e R s m args below meth c H locs cells slots Q (F0 m pc ls (.long v :: .int (nI i) :: .ref a :: rest)) := by
  obtain ⟨q0, hq0⟩ := hg.ix he
  refine va_last S0.1 S0.2.1 hK hg.pP hg.pD hS q0 t0 hq0 ht (vp_in_nI hi hn) hdg (fun H1 locs1 hP hD hS1 => ?_)
  rw [nI_clamp (by omega)] at hP
  exact kk H1 locs1 (hg.ofSet he hq0 hP) hS1
theorem hw_alen (S0 : CallFix p m c cc nL s args hB own) (hK : va_K D hC tys s) (hg : hw D hC A g H) {cA : ClassId} {x : vp_A} (he : g a = some (.inl (cA, x))) (t0 : Nat) {ty : FieldType} (ht : tys[t0]? = some (cA, ty)) (hdg : decode cc pc = .ok (.arraylength, 1))
    (kk : W p l e R s m args below meth c H locs cells slots Q (F0 m (pc + 1) ls (.int (nI x.1) :: rest))) : W p l e R s m args below meth c H locs cells slots Q (F0 m pc ls (.ref a :: rest)) :=
  va_alen S0.1 S0.2.1 hK (hg.P he) 0 t0 rfl ht (v := nI x.1) rfl hdg kk
theorem hw_aald (S0 : CallFix p m c cc nL s args hB own) (hK : va_K D hC tys s) (hg : hw D hC A g H) {cA : ClassId} {C : String} {n : Nat} {f : Nat → Option Nat} (he : g a = some (.inl (cA, n, .inr (.inr (.inr (.inr f)))))) (t0 : Nat) (ht : tys[t0]? = some (cA, .object C)) {i b : Nat} (hi : i < n) (hn : n < 2 ^ 31) (hf : f i = some b) (hdg : decode cc pc = .ok (.aaload, 1))
    (kk : W p l e R s m args below meth c H locs cells slots Q (F0 m (pc + 1) ls (.ref b :: rest))) : W p l e R s m args below meth c H locs cells slots Q (F0 m pc ls (.int (nI i) :: .ref a :: rest)) :=
  va_aldq S0.1 S0.2.1 hK (hg.P he) 0 t0 rfl ht (vp_in_nI hi hn) hdg (by rw [nI_clamp (by omega), hf]; exact kk)
theorem hw_aast (S0 : CallFix p m c cc nL s args hB own) (hK : va_K D hC tys s) (hg : hw D hC A g H) (hS : va_S A H0 H locs) {cA : ClassId} {r : vw_C} {n v ci : Nat} {vs : List Value} {f : Nat → Option Nat} (he : g a = some (.inl (cA, n, .inr (.inr (.inr (.inr f)))))) (t0 : Nat) (ht : tys[t0]? = some (cA, .object r.1)) (hv : g v = some (.inr (ci, vs))) (hc : hC[ci]? = some r) {i : Nat} (hi : i < n) (hn : n < 2 ^ 31) (hdg : decode cc pc = .ok (.aastore, 1))
    (kk : ∀ (H1 : Heap) (locs1 : List Loc), hw D hC A (hs g a (.inl (cA, n, .inr (.inr (.inr (.inr (va_up f i (some v)))))))) H1 → va_S A H0 H1 locs1 → W p l e R s m args below meth c H1 locs1 cells slots Q (F0 m (pc + 1) ls rest)) : W p l e R s m args below meth c H locs cells slots Q (F0 m pc ls (.ref v :: .int (nI i) :: .ref a :: rest)) := by
  obtain ⟨q0, hq0⟩ := hg.ix he
  obtain ⟨q1, hq1⟩ := hg.ix hv
  refine va_astq S0.1 S0.2.1 hK hg.pP hg.pD hS q0 t0 q1 ci hq0 ht hq1 hc (vp_in_nI hi hn) hdg (fun H1 locs1 hP hD hS1 => ?_)
  rw [nI_clamp (by omega)] at hP
  exact kk H1 locs1 (hg.ofSet he hq0 hP) hS1
theorem hw_new (S0 : CallFix p m c cc nL s args hB own) (hK : va_K D hC tys s) (hg : hw D hC A g H) (hS : va_S A H0 H locs) (hA0 : ∀ q, H0.size ≤ q → A q) {C : String} {T : u_T} {N ci index : Nat} (hc : hC[ci]? = some (C, T, N)) (hin : ∀ w ∈ u_ws C T N, w ∈ hB) (ty0 : Nat → FieldType) (hty : ∀ k, k < N → parseFieldDescriptor (T k).2.2.1 = some (ty0 k)) (hcl : Cond.classLink own index C ∈ hB) (hinst : Cond.instantiable C N ∈ hB) (hini : Cond.initialized C ∈ hB)
    {fs : List Value} (hfs : ∀ j, j < N → defaultValue (ty0 j) = vp_V fs j) (hcells : cells + 1 ≤ R.cells) (hslots : slots + N ≤ R.slots) (hdg : decode cc pc = .ok (.new index, 3))
    (kk : ∀ (q : Nat) (H1 : Heap), g q = none → hw D hC A (hs g q (.inr (ci, fs))) H1 → va_S A H0 H1 locs → W p l e R s m args below meth c H1 locs (cells + 1) (slots + N) Q (F0 m (pc + 3) ls (.ref q :: rest))) : W p l e R s m args below meth c H locs cells slots Q (F0 m pc ls rest) :=
  va_new S0.1 S0.2.1 S0.2.2.2.2 hin ty0 hty S0.2.2.2.1 (S0.2.2.2.2 _ hcl) (S0.2.2.2.2 _ hinst) (S0.2.2.2.2 _ hini) hK hg.pP hg.pD hS hA0 hc hfs hcells hslots hdg (fun q H1 hP hD hS1 => kk q H1 (hg.ofPush hP hD).2 (hg.ofPush hP hD).1 hS1)
/-- an array of a primitive type: its class is the one that the world knows -/
theorem hw_newa (S0 : CallFix p m c cc nL s args hB own) (hK : va_K D hC tys s) (hg : hw D hC A g H) (hS : va_S A H0 H locs) (hA0 : ∀ q, H0.size ≤ q → A q) {atype : ArrayType} {ty : FieldType} (hty : newarray.typeOf atype = ty) (harr : Cond.arrayClass ty ∈ hB) {cI : ClassId} (t0 : Nat) (ht : tys[t0]? = some (cI, ty)) (hob : ∀ C, ty ≠ .object C)
    {n : Nat} {a0 : vp_A} (ha : ∀ cA : ClassId, vp_cell cA a0 = arrV cA n (fun _ => defaultValue ty)) (hn : n < 2 ^ 31) (hbytes : n * componentBytes ty ≤ 536870912) (hcells : cells + 1 ≤ R.cells) (hslots : slots + n ≤ R.slots) (hdg : decode cc pc = .ok (.newarray atype, 2))
    (kk : ∀ (q : Nat) (H1 : Heap), g q = none → hw D hC A (hs g q (.inl (cI, a0))) H1 → va_S A H0 H1 locs → W p l e R s m args below meth c H1 locs (cells + 1) (slots + n) Q (F0 m (pc + 2) ls (.ref q :: rest))) : W p l e R s m args below meth c H locs cells slots Q (F0 m pc ls (.int (nI n) :: rest)) := by
  refine va_newa S0.1 S0.2.1 (by rw [hty]; exact S0.2.2.2.2 _ harr) hty hK hg.pP hg.pD hS hA0 ha (nI_pos hn) (nI_clamp hn) hbytes hcells hslots hdg (fun q cA H1 hK1 hP hD hS1 => ?_)
  have h1 : va_RA s cA ty := (hK1.2 tys.length (cA, ty) (by rw [List.getElem?_append_right (Nat.le_refl _), Nat.sub_self]; rfl)).2
  have h2 : va_RA s cI ty := (hK.2 t0 _ ht).2
  have h3 : cA = cI := by
    cases ty with
    | object C => exact absurd rfl (hob C)
    | _ => exact Option.some.inj (Eq.trans (Eq.symm h1) h2)
  subst h3
  exact kk q H1 (hg.ofPush hP hD).2 (hg.ofPush hP hD).1 hS1
theorem hw_newq (S0 : CallFix p m c cc nL s args hB own) (hK : va_K D hC tys s) (hg : hw D hC A g H) (hS : va_S A H0 H locs) (hA0 : ∀ q, H0.size ≤ q → A q) {C : String} {index : Nat} (hclink : Cond.classLink own index C ∈ hB) (hover : va_AO C s) {cR : ClassId} (t0 : Nat) (ht : tys[t0]? = some (cR, .object C))
    {n : Nat} (hn : n < 2 ^ 27) (hcells : cells + 1 ≤ R.cells) (hslots : slots + n ≤ R.slots) (hdg : decode cc pc = .ok (.anewarray index, 3))
    (kk : ∀ (q : Nat) (H1 : Heap), g q = none → hw D hC A (hs g q (.inl (cR, n, .inr (.inr (.inr (.inr (fun _ => none))))))) H1 → va_S A H0 H1 locs → W p l e R s m args below meth c H1 locs (cells + 1) (slots + n) Q (F0 m (pc + 3) ls (.ref q :: rest))) : W p l e R s m args below meth c H locs cells slots Q (F0 m pc ls (.int (nI n) :: rest)) := by
  refine va_newq S0.1 S0.2.1 S0.2.2.2.1 (S0.2.2.2.2 _ hclink) hover hK hg.pP hg.pD hS hA0 (nI_pos (by omega)) (nI_clamp (by omega)) (by omega) hcells hslots hdg (fun q cA H1 hK1 hP hD hS1 => ?_)
  obtain ⟨_, _, _, _, _, h1⟩ := (hK1.2 tys.length (cA, .object C) (by rw [List.getElem?_append_right (Nat.le_refl _), Nat.sub_self]; rfl)).2
  obtain ⟨_, _, _, _, _, h2⟩ := (hK.2 t0 _ ht).2
  have h3 : cA = cR := Option.some.inj (h1.symm.trans h2)
  subst h3
  exact kk q H1 (hg.ofPush hP hD).2 (hg.ofPush hP hD).1 hS1
/-- the top of the stack by another name -/
theorem hw_top {x : Int32} (y : Int32) (h : x = y) (k : W p l e R s m args below meth c H locs cells slots Q (F0 m pc ls (.int y :: rest))) : W p l e R s m args below meth c H locs cells slots Q (F0 m pc ls (.int x :: rest)) := by rw [h]; exact k
end HWR
section HWC
variable {p : Program} {l : Launch} {e : Env} {R : Room} {s : State} {m : MethodId} {args : Array Value} {below : List Frame} {meth : Method} {c : Code} {H : Heap} {locs : List Loc} {cells slots : Nat} {Q : State → Prop}
variable {cc bytes : ByteArray} {pc nL maxL index n mc ms sz : Nat} {ls : Array Slot} {rest st0 As av : List Value} {D : va_G} {A : Nat → Prop} {a b : Nat} {tys : List (ClassId × FieldType)} {H0 : Heap} {own : String} {g : Nat → Option va_E} {y : MethodName} {rm rk : Room} {ret : Option FieldType}
/-- a room: frames, words of locals, cells, slots -/
def hRm (f lo c s : Nat) : Room := { frames := f, cells := c, slots := s, locals := lo }
/-- the caller's room holds the callee's -/
def hRle (rm R : Room) : Prop := rm.frames ≤ R.frames ∧ rm.locals ≤ R.locals ∧ rm.cells ≤ R.cells ∧ rm.slots ≤ R.slots
theorem hRle.rf : hRle rm rm := ⟨Nat.le_refl _, Nat.le_refl _, Nat.le_refl _, Nat.le_refl _⟩
theorem hRle.call (h : hRle rm R) (h1 : (Nat.ble (rk.frames + 1) rm.frames && Nat.ble (8 + (maxL + 11) + rk.locals) rm.locals) = true) : rk.frames + 1 ≤ R.frames ∧ 8 + (maxL + 11) + rk.locals ≤ R.locals := by
  rw [Bool.and_eq_true] at h1
  exact ⟨Nat.le_trans (Nat.le_of_ble_eq_true h1.1) h.1, Nat.le_trans (Nat.le_of_ble_eq_true h1.2) h.2.1⟩
theorem hRle.new (h : hRle rm R) (h1 : cells + mc ≤ rm.cells) (h2 : slots + ms ≤ rm.slots) : cells + mc ≤ R.cells ∧ slots + ms ≤ R.slots := ⟨Nat.le_trans h1 h.2.2.1, Nat.le_trans h2 h.2.2.2⟩
theorem h_cwV (S0 : CallFix p m c cc nL s args hB own) (k : hcV y bytes maxL ret n) (hl : Cond.methodLink own index y ∈ hB) (hR : rk.frames + 1 ≤ R.frames ∧ 8 + (maxL + 11) + rk.locals ≤ R.locals) : CallW R s args own y.cls index y bytes maxL ret (Cond.code y bytes maxL ret :: hB) rk rk.cells rk.slots n := by
  obtain ⟨k1, k2, k3, k4, k5⟩ := k
  refine cwV n S0.2.2.2.2 ?_ rfl rfl rfl ⟨rfl, k3⟩ hR
  intro w hw
  rcases List.mem_append.mp (show w ∈ ([Cond.methodLink own index y, .instanceMethod y, .selects y.cls y y, .initialized y.cls] : List Cond) ++ (Cond.code y bytes maxL ret :: hB) from hw) with h | h
  · rcases List.mem_cons.mp h with rfl | h
    · exact hB_good _ hl
    · rcases List.mem_cons.mp h with rfl | h
      · exact hB_good _ k4
      · rcases List.mem_cons.mp h with rfl | h
        · exact hB_good _ k5
        · rcases List.mem_cons.mp h with rfl | h
          · exact hB_good _ k2
          · cases h
  · rcases List.mem_cons.mp h with rfl | h
    · exact hB_good _ k1
    · exact hB_good _ h
theorem h_codeG (h : Cond.code y bytes maxL ret ∈ hB) : GoodIn hB (Cond.code y bytes maxL ret :: hB) := fun w hw => (List.mem_cons.mp hw).elim (fun e => by rw [e]; exact hB_good _ h) (fun h => hB_good _ h)
theorem h_cwS (S0 : CallFix p m c cc nL s args hB own) (k : hcS y bytes maxL ret n) (hl : Cond.methodLink own index y ∈ hB) (hR : rk.frames + 1 ≤ R.frames ∧ 8 + (maxL + 11) + rk.locals ≤ R.locals) : CallB R s args own index y bytes maxL ret (Cond.code y bytes maxL ret :: hB) rk rk.cells rk.slots n ∧ (Cond.static y).before args s = true := by
  obtain ⟨k1, k2, k3, k4⟩ := k
  exact ⟨callB_of n S0.2.2.2.2 (h_codeG k1) rfl rfl rfl (S0.2.2.2.2 _ k2) (S0.2.2.2.2 _ hl) k3 hR, S0.2.2.2.2 _ k4⟩
theorem h_cwI (S0 : CallFix p m c cc nL s args hB own) (k : hcI y bytes maxL n) (hl : Cond.methodLink own index y ∈ hB) (hR : rk.frames + 1 ≤ R.frames ∧ 8 + (maxL + 11) + rk.locals ≤ R.locals) : CallB R s args own index y bytes maxL none (Cond.code y bytes maxL none :: hB) rk rk.cells rk.slots n ∧ y.name = "<init>" ∧ (Cond.instanceMethod y).before args s = true := by
  obtain ⟨k1, k2, k3, k4, k5⟩ := k
  exact ⟨callB_of n S0.2.2.2.2 (h_codeG k1) rfl rfl rfl (S0.2.2.2.2 _ k2) (S0.2.2.2.2 _ hl) k3 hR, k4, S0.2.2.2.2 _ k5⟩
/-- how a method begins -/
def hPre (D : va_G) (tys : List (ClassId × FieldType)) (g : Nat → Option va_E) (sz : Nat) : State → Prop := fun U => U.heap.size = sz ∧ hw D hC (fun _ => True) g U.heap ∧ va_K D hC tys U
/-- how it ends: the new map -/
def hPo (D : va_G) (tys : List (ClassId × FieldType)) (A : Nat → Prop) : (Nat → Option va_E) → State → Prop := fun g1 t => hw D hC A g1 t.heap ∧ va_K D hC tys t
def hPor (D : va_G) (tys : List (ClassId × FieldType)) (A : Nat → Prop) (post : Nat → (Nat → Option va_E) → Prop) : (Nat → Option va_E) → Nat → State → Prop := fun g1 r t => post r g1 ∧ hw D hC A g1 t.heap ∧ va_K D hC tys t
abbrev hMi (l : Launch) (y : MethodName) (cc : ByteArray) (maxL : Nat) (ty : FieldType) (rm : Room) (D : va_G) (tys : List (ClassId × FieldType)) (g : Nat → Option va_E) (sz : Nat) (av : List Value) (post : Int32 → (Nat → Option va_E) → Prop) : Prop := Met l y (Cond.code y cc maxL (some ty) :: hB) rm (va_Pc av (hPre D tys g sz)) (va_Qi post (hPo D tys (hA g sz)) (hA g sz)) rm.cells rm.slots (hA g sz)
abbrev hMv (l : Launch) (y : MethodName) (cc : ByteArray) (maxL : Nat) (rm : Room) (D : va_G) (tys : List (ClassId × FieldType)) (g : Nat → Option va_E) (sz : Nat) (av : List Value) (post : (Nat → Option va_E) → Prop) : Prop := Met l y (Cond.code y cc maxL none :: hB) rm (va_Pc av (hPre D tys g sz)) (va_Qv post (hPo D tys (hA g sz)) (hA g sz)) rm.cells rm.slots (hA g sz)
abbrev hMr (l : Launch) (y : MethodName) (cc : ByteArray) (maxL : Nat) (rt : FieldType) (rm : Room) (D : va_G) (tys : List (ClassId × FieldType)) (g : Nat → Option va_E) (sz : Nat) (av : List Value) (post : Nat → (Nat → Option va_E) → Prop) : Prop := Met l y (Cond.code y cc maxL (some rt) :: hB) rm (va_Pc av (hPre D tys g sz)) (va_Qr (fun _ => True) (hPor D tys (hA g sz) post) (hA g sz)) rm.cells rm.slots (hA g sz)
theorem hPre_blind : FrameBlind (va_Pc av (hPre D tys g sz)) := fun a U g9 mk q => by
  obtain ⟨q0, q1, q2, q3⟩ := q
  exact ⟨q0, q1, q2, va_K.moved (u := U) (U := U.calling g9 mk a) (Vm.Alike.refl U.vm) q3⟩
theorem hPre_at (hK : va_K D hC tys s) (hg : hw D hC A g H) : ∀ U : State, U.heap = H → s.WarmedH U.vm → va_Pc av (hPre D tys g H.size) av.toArray U := fun U hU hW => ⟨rfl, by rw [hU], by rw [hU]; exact hg.weaken (fun _ _ => trivial), va_K.moved hW.alike hK⟩
theorem hw_recv (hK : va_K D hC tys s) (hg : hw D hC A g H) {ci : Nat} {q : vw_C} {fs : List Value} (he : g a = some (.inr (ci, fs))) (hc : hC[ci]? = some q) : ∃ cell : Cell, H[a]? = some cell ∧ cell.vm.isStatics = false ∧ s.vm.findClass q.1 = some cell.cls := va_recv hK (hg.P he) hc (q0 := 0) rfl
/-- what a walk has from its entry on: the machine and the words, the world, and how it may return -/
abbrev hBody (l : Launch) (y : MethodName) (rm : Room) (D : va_G) (tys : List (ClassId × FieldType)) (g : Nat → Option va_E) (sz : Nat) (av : List Value) (cc : ByteArray) (maxL : Nat) (End : (Heap → List Loc → Nat → Nat → JFrame → Prop) → (MethodId → State → (Nat → Prop) → Prop)) : Prop :=
  ∀ (p : Program) (e : Env) (R : Room) (s : State) (m : MethodId) (args : Array Value) (below : List Frame) (meth : Method) (c : Code) (Q : State → Prop) (A : Nat → Prop), hRle rm R → CallFix p m c cc maxL s args hB y.cls → meth.name = y.name → s.heap.size = sz → hw D hC A g s.heap → va_K D hC tys s → va_S A s.heap s.heap [] → (∀ q, s.heap.size ≤ q → A q) →
    End (fun H locs cells slots fr => W p l e R s m args below meth c H locs cells slots Q fr) m s A → ∀ ls : Array Slot, lv_has ls maxL (lv_args 0 av) → W p l e R s m args below meth c s.heap [] 0 0 Q (F0 m 0 ls [])
/-- the ends: int or boolean, void, a reference -/
abbrev hEi (D : va_G) (cc : ByteArray) (ty : FieldType) (post : Int32 → (Nat → Option va_E) → Prop) (mc ms : Nat) : (Heap → List Loc → Nat → Nat → JFrame → Prop) → (MethodId → State → (Nat → Prop) → Prop) := fun Wd m s A =>
  ∀ (v : Int32) (g1 : Nat → Option va_E) (H : Heap) (locs : List Loc) (ls : Array Slot) (pc cells slots : Nat), cells ≤ mc → slots ≤ ms → narrow ty (.int v) = .int v → post v g1 → hw D hC A g1 H → va_S A s.heap H locs → decode cc pc = .ok (.ireturn, 1) → Wd H locs cells slots (F0 m pc ls [.int v])
abbrev hEv (D : va_G) (cc : ByteArray) (post : (Nat → Option va_E) → Prop) (mc ms : Nat) : (Heap → List Loc → Nat → Nat → JFrame → Prop) → (MethodId → State → (Nat → Prop) → Prop) := fun Wd m s A =>
  ∀ (g1 : Nat → Option va_E) (H : Heap) (locs : List Loc) (ls : Array Slot) (pc cells slots : Nat), cells ≤ mc → slots ≤ ms → post g1 → hw D hC A g1 H → va_S A s.heap H locs → decode cc pc = .ok (.return_, 1) → Wd H locs cells slots (F0 m pc ls [])
abbrev hEr (D : va_G) (cc : ByteArray) (post : Nat → (Nat → Option va_E) → Prop) (mc ms : Nat) : (Heap → List Loc → Nat → Nat → JFrame → Prop) → (MethodId → State → (Nat → Prop) → Prop) := fun Wd m s A =>
  ∀ (v : Nat) (g1 : Nat → Option va_E) (H : Heap) (locs : List Loc) (ls : Array Slot) (pc cells slots : Nat), cells ≤ mc → slots ≤ ms → post v g1 → hw D hC A g1 H → va_S A s.heap H locs → decode cc pc = .ok (.areturn, 1) → Wd H locs cells slots (F0 m pc ls [.ref v])
theorem hMi_of {ty : FieldType} {post : Int32 → (Nat → Option va_E) → Prop} (hy : plainName y.cls = true) (hlen : (lg_sl av).length ≤ maxL)
    (body : hBody l y rm D tys g sz av cc maxL (hEi D cc ty post rm.cells rm.slots)) : hMi l y cc maxL ty rm D tys g sz av post := by
  refine Met.ofW (cc := cc) (maxL := maxL) (ret := some ty) hy rfl ?_
  intro p e s m args below meth c s₁ B hml hv
  obtain ⟨rfl, hsz, hg, hK⟩ := hv
  have hts := atoms_spec (ws := Cond.code y cc maxL (some ty) :: hB) B.pre
  rw [lg_entry_eq]
  refine body p e rm s m _ below meth c _ (hA g sz) hRle.rf ⟨B.exec, B.bytes, hml, findClass_of_methodNamed B.named, fun w h => hts w (List.mem_cons_of_mem _ h)⟩ (name_of_methodNamed B.named B.method).1 hsz hg.self hK va_S.rf (fun q h => Or.inr (by rw [← hsz]; exact h)) ?_ _ (lv_entry av hlen)
  intro v g1 H locs ls pc cells slots hc hs hn hp hg1 hS hdg
  refine W.widen hc hs ?_
  exact W.zret B.exec B.bytes B.returns hn (fun t ht hW => ⟨⟨v, g1, rfl, hp, by rw [ht]; exact hg1, va_K.moved hW.alike hK⟩, hS.F ht⟩) hS.2.2 hdg B.notSynchronized
theorem hMv_of {post : (Nat → Option va_E) → Prop} (hy : plainName y.cls = true) (hlen : (lg_sl av).length ≤ maxL)
    (body : hBody l y rm D tys g sz av cc maxL (hEv D cc post rm.cells rm.slots)) : hMv l y cc maxL rm D tys g sz av post := by
  refine Met.ofW (cc := cc) (maxL := maxL) (ret := none) hy rfl ?_
  intro p e s m args below meth c s₁ B hml hv
  obtain ⟨rfl, hsz, hg, hK⟩ := hv
  have hts := atoms_spec (ws := Cond.code y cc maxL none :: hB) B.pre
  rw [lg_entry_eq]
  refine body p e rm s m _ below meth c _ (hA g sz) hRle.rf ⟨B.exec, B.bytes, hml, findClass_of_methodNamed B.named, fun w h => hts w (List.mem_cons_of_mem _ h)⟩ (name_of_methodNamed B.named B.method).1 hsz hg.self hK va_S.rf (fun q h => Or.inr (by rw [← hsz]; exact h)) ?_ _ (lv_entry av hlen)
  intro g1 H locs ls pc cells slots hc hs hp hg1 hS hdg
  refine W.widen hc hs ?_
  exact W.vret B.exec B.bytes B.returns (fun t ht hW => ⟨⟨g1, rfl, hp, by rw [ht]; exact hg1, va_K.moved hW.alike hK⟩, hS.F ht⟩) hS.2.2 hdg B.notSynchronized
theorem hMr_of {ty : FieldType} {post : Nat → (Nat → Option va_E) → Prop} (hy : plainName y.cls = true) (hrt : (∃ n, ty = .object n) ∨ ∃ t, ty = .array t) (hlen : (lg_sl av).length ≤ maxL)
    (body : hBody l y rm D tys g sz av cc maxL (hEr D cc post rm.cells rm.slots)) : hMr l y cc maxL ty rm D tys g sz av post := by
  refine Met.ofW (cc := cc) (maxL := maxL) (ret := some ty) hy rfl ?_
  intro p e s m args below meth c s₁ B hml hv
  obtain ⟨rfl, hsz, hg, hK⟩ := hv
  have hts := atoms_spec (ws := Cond.code y cc maxL (some ty) :: hB) B.pre
  rw [lg_entry_eq]
  refine body p e rm s m _ below meth c _ (hA g sz) hRle.rf ⟨B.exec, B.bytes, hml, findClass_of_methodNamed B.named, fun w h => hts w (List.mem_cons_of_mem _ h)⟩ (name_of_methodNamed B.named B.method).1 hsz hg.self hK va_S.rf (fun q h => Or.inr (by rw [← hsz]; exact h)) ?_ _ (lv_entry av hlen)
  intro v g1 H locs ls pc cells slots hc hs hp hg1 hS hdg
  refine W.widen hc hs ?_
  exact W.aret B.exec B.bytes B.returns hrt (Or.inr ⟨v, rfl⟩) (fun t ht hW => ⟨⟨g1, v, rfl, trivial, hp, by rw [ht]; exact hg1, va_K.moved hW.alike hK⟩, hS.F ht⟩) hS.2.2 hdg B.notSynchronized
/-! calls: an instance's method, a static one, a constructor -/
theorem hw_Vi {ty : FieldType} {post : Int32 → (Nat → Option va_E) → Prop} (S0 : CallFix p m c cc nL s args hB own) (hK : va_K D hC tys s) (hg : hw D hC A g H) (hS : va_S A H0 H locs) (hA0 : ∀ q, H0.size ≤ q → A q) {ci : Nat} {T : u_T} {N : Nat} {fs : List Value} (he : g b = some (.inr (ci, fs))) (hc : hC[ci]? = some (y.cls, T, N)) (hM : hMi l y bytes maxL ty rk D tys g H.size (.ref b :: As) post) (kd : hcV y bytes maxL (some ty) n) (hl : Cond.methodLink own index y ∈ hB) (hR : rk.frames + 1 ≤ R.frames ∧ 8 + (maxL + 11) + rk.locals ≤ R.locals)
    (hn : As.length = n) (hsize : ls.size = nL) (hst : st0 = As.reverse ++ .ref b :: rest) (hW : (rest.map fun v => v.category).sum ≤ 8) (hdg : decode cc pc = .ok (.invokevirtual index, 3)) (hf : cells + rk.cells ≤ R.cells ∧ slots + rk.slots ≤ R.slots)
    (kk : ∀ (r : Int32) (g1 : Nat → Option va_E) (H1 : Heap) (locs1 : List Loc), post r g1 → hw D hC A g1 H1 → va_S A H0 H1 locs1 → W p l e R s m args below meth c H1 locs1 (cells + rk.cells) (slots + rk.slots) Q (F0 m (pc + 3) ls (.int r :: rest))) : W p l e R s m args below meth c H locs cells slots Q (F0 m pc ls st0) :=
  va_calli (va_runV (As := As) (rest := rest) S0 hM (h_cwV S0 kd hl hR) ⟨hPre_blind, hw_recv hK hg he hc, hPre_at hK hg⟩ rfl hn hsize hst (lv_room hW) hdg hf) hS (fun q _ h => hA.sub hg hS hA0 q h) (hA.sub hg hS hA0)
    (fun r u t H1 locs1 ht hvm hp hB1 hz hk hS1 => kk r u H1 locs1 hp (by rw [← ht]; exact hB1.1.weaken (hA.sub hg hS hA0)) hS1)
theorem hw_Vv {post : (Nat → Option va_E) → Prop} (S0 : CallFix p m c cc nL s args hB own) (hK : va_K D hC tys s) (hg : hw D hC A g H) (hS : va_S A H0 H locs) (hA0 : ∀ q, H0.size ≤ q → A q) {ci : Nat} {T : u_T} {N : Nat} {fs : List Value} (he : g b = some (.inr (ci, fs))) (hc : hC[ci]? = some (y.cls, T, N)) (hM : hMv l y bytes maxL rk D tys g H.size (.ref b :: As) post) (kd : hcV y bytes maxL none n) (hl : Cond.methodLink own index y ∈ hB) (hR : rk.frames + 1 ≤ R.frames ∧ 8 + (maxL + 11) + rk.locals ≤ R.locals)
    (hn : As.length = n) (hsize : ls.size = nL) (hst : st0 = As.reverse ++ .ref b :: rest) (hW : (rest.map fun v => v.category).sum ≤ 8) (hdg : decode cc pc = .ok (.invokevirtual index, 3)) (hf : cells + rk.cells ≤ R.cells ∧ slots + rk.slots ≤ R.slots)
    (kk : ∀ (g1 : Nat → Option va_E) (H1 : Heap) (locs1 : List Loc), post g1 → hw D hC A g1 H1 → va_S A H0 H1 locs1 → W p l e R s m args below meth c H1 locs1 (cells + rk.cells) (slots + rk.slots) Q (F0 m (pc + 3) ls rest)) : W p l e R s m args below meth c H locs cells slots Q (F0 m pc ls st0) :=
  va_callv (va_runV (As := As) (rest := rest) S0 hM (h_cwV S0 kd hl hR) ⟨hPre_blind, hw_recv hK hg he hc, hPre_at hK hg⟩ rfl hn hsize hst (lv_room hW) hdg hf) hS (fun q _ h => hA.sub hg hS hA0 q h) (hA.sub hg hS hA0)
    (fun u t H1 locs1 ht hvm hp hB1 hz hk hS1 => kk u H1 locs1 hp (by rw [← ht]; exact hB1.1.weaken (hA.sub hg hS hA0)) hS1)
theorem hw_Vr {ty : FieldType} {post : Nat → (Nat → Option va_E) → Prop} (S0 : CallFix p m c cc nL s args hB own) (hK : va_K D hC tys s) (hg : hw D hC A g H) (hS : va_S A H0 H locs) (hA0 : ∀ q, H0.size ≤ q → A q) {ci : Nat} {T : u_T} {N : Nat} {fs : List Value} (he : g b = some (.inr (ci, fs))) (hc : hC[ci]? = some (y.cls, T, N)) (hM : hMr l y bytes maxL ty rk D tys g H.size (.ref b :: As) post) (kd : hcV y bytes maxL (some ty) n) (hl : Cond.methodLink own index y ∈ hB) (hR : rk.frames + 1 ≤ R.frames ∧ 8 + (maxL + 11) + rk.locals ≤ R.locals)
    (hn : As.length = n) (hsize : ls.size = nL) (hst : st0 = As.reverse ++ .ref b :: rest) (hW : (rest.map fun v => v.category).sum ≤ 8) (hdg : decode cc pc = .ok (.invokevirtual index, 3)) (hf : cells + rk.cells ≤ R.cells ∧ slots + rk.slots ≤ R.slots)
    (kk : ∀ (r : Nat) (g1 : Nat → Option va_E) (H1 : Heap) (locs1 : List Loc), post r g1 → hw D hC A g1 H1 → va_S A H0 H1 locs1 → W p l e R s m args below meth c H1 locs1 (cells + rk.cells) (slots + rk.slots) Q (F0 m (pc + 3) ls (.ref r :: rest))) : W p l e R s m args below meth c H locs cells slots Q (F0 m pc ls st0) :=
  va_callr (va_runV (As := As) (rest := rest) S0 hM (h_cwV S0 kd hl hR) ⟨hPre_blind, hw_recv hK hg he hc, hPre_at hK hg⟩ rfl hn hsize hst (lv_room hW) hdg hf) hS (fun q _ h => hA.sub hg hS hA0 q h) (hA.sub hg hS hA0)
    (fun u r t H1 locs1 ht hvm hp hB1 hz hk hS1 => kk r u H1 locs1 hB1.1 (by rw [← ht]; exact hB1.2.1.weaken (hA.sub hg hS hA0)) hS1)
theorem hw_Si {ty : FieldType} {post : Int32 → (Nat → Option va_E) → Prop} (S0 : CallFix p m c cc nL s args hB own) (hK : va_K D hC tys s) (hg : hw D hC A g H) (hS : va_S A H0 H locs) (hA0 : ∀ q, H0.size ≤ q → A q) (hM : hMi l y bytes maxL ty rk D tys g H.size As post) (kd : hcS y bytes maxL (some ty) n) (hl : Cond.methodLink own index y ∈ hB) (hR : rk.frames + 1 ≤ R.frames ∧ 8 + (maxL + 11) + rk.locals ≤ R.locals)
    (hn : As.length = n) (hsize : ls.size = nL) (hst : st0 = As.reverse ++ rest) (hW : (rest.map fun v => v.category).sum ≤ 8) (hdg : decode cc pc = .ok (.invokestatic index, 3)) (hf : cells + rk.cells ≤ R.cells ∧ slots + rk.slots ≤ R.slots)
    (kk : ∀ (r : Int32) (g1 : Nat → Option va_E) (H1 : Heap) (locs1 : List Loc), post r g1 → hw D hC A g1 H1 → va_S A H0 H1 locs1 → W p l e R s m args below meth c H1 locs1 (cells + rk.cells) (slots + rk.slots) Q (F0 m (pc + 3) ls (.int r :: rest))) : W p l e R s m args below meth c H locs cells slots Q (F0 m pc ls st0) :=
  va_calli (va_runS (As := As) (rest := rest) S0 hM (h_cwS S0 kd hl hR) ⟨hPre_blind, hPre_at hK hg⟩ rfl hn hsize hst (lv_room hW) hdg hf) hS (fun q _ h => hA.sub hg hS hA0 q h) (hA.sub hg hS hA0)
    (fun r u t H1 locs1 ht hvm hp hB1 hz hk hS1 => kk r u H1 locs1 hp (by rw [← ht]; exact hB1.1.weaken (hA.sub hg hS hA0)) hS1)
theorem hw_Sv {post : (Nat → Option va_E) → Prop} (S0 : CallFix p m c cc nL s args hB own) (hK : va_K D hC tys s) (hg : hw D hC A g H) (hS : va_S A H0 H locs) (hA0 : ∀ q, H0.size ≤ q → A q) (hM : hMv l y bytes maxL rk D tys g H.size As post) (kd : hcS y bytes maxL none n) (hl : Cond.methodLink own index y ∈ hB) (hR : rk.frames + 1 ≤ R.frames ∧ 8 + (maxL + 11) + rk.locals ≤ R.locals)
    (hn : As.length = n) (hsize : ls.size = nL) (hst : st0 = As.reverse ++ rest) (hW : (rest.map fun v => v.category).sum ≤ 8) (hdg : decode cc pc = .ok (.invokestatic index, 3)) (hf : cells + rk.cells ≤ R.cells ∧ slots + rk.slots ≤ R.slots)
    (kk : ∀ (g1 : Nat → Option va_E) (H1 : Heap) (locs1 : List Loc), post g1 → hw D hC A g1 H1 → va_S A H0 H1 locs1 → W p l e R s m args below meth c H1 locs1 (cells + rk.cells) (slots + rk.slots) Q (F0 m (pc + 3) ls rest)) : W p l e R s m args below meth c H locs cells slots Q (F0 m pc ls st0) :=
  va_callv (va_runS (As := As) (rest := rest) S0 hM (h_cwS S0 kd hl hR) ⟨hPre_blind, hPre_at hK hg⟩ rfl hn hsize hst (lv_room hW) hdg hf) hS (fun q _ h => hA.sub hg hS hA0 q h) (hA.sub hg hS hA0)
    (fun u t H1 locs1 ht hvm hp hB1 hz hk hS1 => kk u H1 locs1 hp (by rw [← ht]; exact hB1.1.weaken (hA.sub hg hS hA0)) hS1)
theorem hw_I {post : (Nat → Option va_E) → Prop} (S0 : CallFix p m c cc nL s args hB own) (hK : va_K D hC tys s) (hg : hw D hC A g H) (hS : va_S A H0 H locs) (hA0 : ∀ q, H0.size ≤ q → A q) (hM : hMv l y bytes maxL rk D tys g H.size (.ref b :: As) post) (kd : hcI y bytes maxL n) (hl : Cond.methodLink own index y ∈ hB) (hR : rk.frames + 1 ≤ R.frames ∧ 8 + (maxL + 11) + rk.locals ≤ R.locals)
    (hn : As.length = n) (hsize : ls.size = nL) (hst : st0 = As.reverse ++ .ref b :: rest) (hW : (rest.map fun v => v.category).sum ≤ 8) (hdg : decode cc pc = .ok (.invokespecial index, 3)) (hf : cells + rk.cells ≤ R.cells ∧ slots + rk.slots ≤ R.slots)
    (kk : ∀ (g1 : Nat → Option va_E) (H1 : Heap) (locs1 : List Loc), post g1 → hw D hC A g1 H1 → va_S A H0 H1 locs1 → W p l e R s m args below meth c H1 locs1 (cells + rk.cells) (slots + rk.slots) Q (F0 m (pc + 3) ls rest)) : W p l e R s m args below meth c H locs cells slots Q (F0 m pc ls st0) :=
  va_callv (va_runI (As := As) (rest := rest) S0 hM (h_cwI S0 kd hl hR) ⟨hPre_blind, hPre_at hK hg⟩ rfl hn hsize hst (lv_room hW) hdg hf) hS (fun q _ h => hA.sub hg hS hA0 q h) (hA.sub hg hS hA0)
    (fun u t H1 locs1 ht hvm hp hB1 hz hk hS1 => kk u H1 locs1 hp (by rw [← ht]; exact hB1.1.weaken (hA.sub hg hS hA0)) hS1)
end HWC
