/-! THE MATHEMATICS, on: merging -/
abbrev N3 : Type := Nat × Nat × Nat
def fl3 (hs : List N3) : List Nat := hs.flatMap (fun h => [h.1, h.2.1, h.2.2])
theorem fl3_snoc (hs : List N3) (h : N3) : fl3 (hs ++ [h]) = ((fl3 hs ++ [h.1]) ++ [h.2.1]) ++ [h.2.2] := by simp [fl3, List.flatMap_append]
theorem fl3_len (hs : List N3) : (fl3 hs).length = 3 * hs.length := by
  induction hs with
  | nil => rfl
  | cons h t ih =>
    have : fl3 (h :: t) = [h.1, h.2.1, h.2.2] ++ fl3 t := rfl
    rw [this, List.length_append, ih, List.length_cons]
    simp only [List.length_cons, List.length_nil]
    omega
theorem rp3_snoc {f : Nat → Int32} {hs : List N3} {n : Nat} (h : rpN f (fl3 hs)) (hn : n = hs.length) (x y z : Nat) : rpN (upd (upd (upd f (n * 3) (nI x)) (n * 3 + 1) (nI y)) (n * 3 + 2) (nI z)) (fl3 (hs ++ [(x, y, z)])) := by
  have hl := fl3_len hs
  rw [fl3_snoc]
  have h1 := rpN_snoc h x
  rw [hl, show 3 * hs.length = n * 3 by omega] at h1
  have h2 := rpN_snoc h1 y
  rw [List.length_append, hl, List.length_singleton, show 3 * hs.length + 1 = n * 3 + 1 by omega] at h2
  have h3 := rpN_snoc h2 z
  rw [List.length_append, List.length_append, hl, List.length_singleton, List.length_singleton, show 3 * hs.length + 1 + 1 = n * 3 + 2 by omega] at h3
  exact h3
theorem rp3_at {f : Nat → Int32} {hs : List N3} {k : Nat} {h : N3} (hr : rpN f (fl3 hs)) (hk : hs[k]? = some h) : f (k * 3) = nI h.1 ∧ f (k * 3 + 1) = nI h.2.1 ∧ f (k * 3 + 2) = nI h.2.2 := by
  have hl : k < hs.length := (List.getElem?_eq_some_iff.mp hk).1
  have key : ∀ (l : List N3) (k : Nat), l[k]? = some h → (fl3 l)[k * 3]? = some h.1 ∧ (fl3 l)[k * 3 + 1]? = some h.2.1 ∧ (fl3 l)[k * 3 + 2]? = some h.2.2 := by
    intro l
    induction l with
    | nil => intro k hk; simp at hk
    | cons z t ih =>
      intro k hk
      have e : fl3 (z :: t) = z.1 :: z.2.1 :: z.2.2 :: fl3 t := rfl
      cases k with
      | zero => simp at hk; subst hk; rw [e]; exact ⟨rfl, rfl, rfl⟩
      | succ k =>
        simp only [List.getElem?_cons_succ] at hk
        have := ih k hk
        rw [e, show (k + 1) * 3 = k * 3 + 3 by omega]
        exact this
  obtain ⟨k1, k2, k3⟩ := key hs k hk
  have hl4 := fl3_len hs
  refine ⟨?_, ?_, ?_⟩
  · rw [hr _ (by omega), List.getD_eq_getElem?_getD, k1]; rfl
  · rw [hr _ (by omega), List.getD_eq_getElem?_getD, k2]; rfl
  · rw [hr _ (by omega), List.getD_eq_getElem?_getD, k3]; rfl
/-- a part is put behind -/
theorem rp_app {f f1 fo : Nat → Int32} {xs ys : List Int32} {i j : Nat} (h : rp f xs) (hy : rp fo ys) (hj : j ≤ ys.length) (h1 : ∀ q, q < xs.length → f1 q = f q) (h2 : ∀ q, q < j - i → f1 (xs.length + q) = fo (i + q)) : rp f1 (xs ++ pt ys i j) := by
  intro q hq
  rw [List.length_append, pt_len hj] at hq
  rcases Nat.lt_or_ge q xs.length with h9 | h9
  · rw [h1 q h9, h q h9]
    simp only [List.getD_eq_getElem?_getD]
    rw [List.getElem?_append_left h9]
  · have e : q = xs.length + (q - xs.length) := by omega
    have hk : q - xs.length < j - i := by omega
    have hl : i + (q - xs.length) < ys.length := by omega
    rw [e, h2 _ hk, hy _ hl, ← pt_get hj hk]
    simp only [List.getD_eq_getElem?_getD]
    rw [List.getElem?_append_right (by omega), show xs.length + (q - xs.length) - xs.length = q - xs.length by omega]
/-- what comes of the parts of three rows, and its conflicts -/
def joinP (bs lf rt : List Int32) (a i la lj ra rj : Nat) (s : List Int32 × List N3) : List Int32 × List N3 :=
  if pt lf la lj = pt rt ra rj ∨ pt rt ra rj = pt bs a i then (s.1 ++ pt lf la lj, s.2)
  else if pt lf la lj = pt bs a i then (s.1 ++ pt rt ra rj, s.2)
  else (s.1 ++ pt lf la lj ++ pt rt ra rj, s.2 ++ [(s.1.length, lj - la, rj - ra)])
theorem joinP_len {bs lf rt : List Int32} {a i la lj ra rj : Nat} (s : List Int32 × List N3) (hl : lj ≤ lf.length) (hr : rj ≤ rt.length) : (joinP bs lf rt a i la lj ra rj s).1.length ≤ s.1.length + (lj - la) + (rj - ra) ∧ s.1.length ≤ (joinP bs lf rt a i la lj ra rj s).1.length ∧ (joinP bs lf rt a i la lj ra rj s).2.length ≤ s.2.length + 1 := by
  unfold joinP
  have h1 := pt_len (i := la) hl
  have h2 := pt_len (i := ra) hr
  split
  · simp only [List.length_append]; omega
  · split
    · simp only [List.length_append]; omega
    · simp only [List.length_append, List.length_singleton]; omega
abbrev MS : Type := Nat × Nat × Nat × List Int32 × List N3
def mg (bs lf rt : List Int32) : Nat → MS
  | 0 => (0, 0, 0, [], [])
  | i + 1 => match pn bs lf i, pn bs rt i with
    | some lj, some rj => (i + 1, lj + 1, rj + 1, (joinP bs lf rt (mg bs lf rt i).1 i (mg bs lf rt i).2.1 lj (mg bs lf rt i).2.2.1 rj (mg bs lf rt i).2.2.2).1 ++ [bs.getD i 0], (joinP bs lf rt (mg bs lf rt i).1 i (mg bs lf rt i).2.1 lj (mg bs lf rt i).2.2.1 rj (mg bs lf rt i).2.2.2).2)
    | some _, none => mg bs lf rt i
    | none, _ => mg bs lf rt i
theorem mg_anchor {bs lf rt : List Int32} {i lj rj : Nat} (h1 : pn bs lf i = some lj) (h2 : pn bs rt i = some rj) : mg bs lf rt (i + 1) = (i + 1, lj + 1, rj + 1, (joinP bs lf rt (mg bs lf rt i).1 i (mg bs lf rt i).2.1 lj (mg bs lf rt i).2.2.1 rj (mg bs lf rt i).2.2.2).1 ++ [bs.getD i 0], (joinP bs lf rt (mg bs lf rt i).1 i (mg bs lf rt i).2.1 lj (mg bs lf rt i).2.2.1 rj (mg bs lf rt i).2.2.2).2) := by
  rw [mg, h1, h2]
theorem mg_skipL {bs lf rt : List Int32} {i : Nat} (h1 : pn bs lf i = none) : mg bs lf rt (i + 1) = mg bs lf rt i := by rw [mg, h1]
theorem mg_skipR {bs lf rt : List Int32} {i : Nat} (h2 : pn bs rt i = none) : mg bs lf rt (i + 1) = mg bs lf rt i := by
  rw [mg]
  cases h1 : pn bs lf i with
  | none => rfl
  | some j => rw [h2]
theorem fro_up (a b : List Int32) (i : Nat) : fro a b i ≤ fro a b (i + 1) := by
  cases h : pn a b i with
  | none => rw [fro_none h]; exact Nat.le_refl _
  | some j => rw [fro_some h]; have := (stp_spec (show stp a b (fro a b i) i = some j from h)).1; omega
theorem mg_in (bs lf rt : List Int32) (i : Nat) : (mg bs lf rt i).1 ≤ i ∧ (mg bs lf rt i).2.1 ≤ fro bs lf i ∧ (mg bs lf rt i).2.2.1 ≤ fro bs rt i ∧ (mg bs lf rt i).2.2.2.1.length ≤ (mg bs lf rt i).2.1 + (mg bs lf rt i).2.2.1 ∧ (mg bs lf rt i).2.2.2.2.length ≤ (mg bs lf rt i).1 := by
  induction i with
  | zero => exact ⟨Nat.le_refl _, Nat.le_refl _, Nat.le_refl _, Nat.le_refl _, Nat.le_refl _⟩
  | succ i ih =>
    cases h1 : pn bs lf i with
    | none =>
      rw [mg_skipL h1]
      have u1 := fro_up bs lf i
      have u2 := fro_up bs rt i
      omega
    | some lj =>
      cases h2 : pn bs rt i with
      | none =>
        rw [mg_skipR h2]
        have u1 := fro_up bs lf i
        have u2 := fro_up bs rt i
        omega
      | some rj =>
        rw [mg_anchor h1 h2, fro_some h1, fro_some h2]
        have s1 := stp_spec (show stp bs lf (fro bs lf i) i = some lj from h1)
        have s2 := stp_spec (show stp bs rt (fro bs rt i) i = some rj from h2)
        have hj := joinP_len (bs := bs) (lf := lf) (rt := rt) (a := (mg bs lf rt i).1) (i := i) (la := (mg bs lf rt i).2.1) (lj := lj) (ra := (mg bs lf rt i).2.2.1) (rj := rj) (mg bs lf rt i).2.2.2 (by omega) (by omega)
        dsimp only
        rw [List.length_append, List.length_singleton]
        omega
theorem prs_up (a b : List Int32) {i p : Nat} (h : i ≤ p) : (prs a b i).length ≤ (prs a b p).length := by
  induction p with
  | zero => rw [show i = 0 by omega]; exact Nat.le_refl _
  | succ p ih =>
    rcases Nat.lt_or_ge i (p + 1) with h9 | h9
    · have := ih (by omega)
      cases hp : pn a b p with
      | none => rw [prs_none hp]; exact this
      | some j => rw [prs_some hp, List.length_append]; omega
    · rw [show i = p + 1 by omega]; exact Nat.le_refl _
theorem mg_same {bs lf rt : List Int32} {i p : Nat} (h : i ≤ p) (e : prs bs lf i = prs bs lf p) : mg bs lf rt i = mg bs lf rt p := by
  induction p with
  | zero => rw [show i = 0 by omega]
  | succ p ih =>
    rcases Nat.lt_or_ge i (p + 1) with h9 | h9
    · cases hp : pn bs lf p with
      | none => rw [mg_skipL hp]; exact ih (by omega) (by rw [e, prs_none hp])
      | some j =>
        have h1 := prs_up bs lf (show i ≤ p by omega)
        rw [e, prs_some hp, List.length_append, List.length_singleton] at h1
        omega
    · rw [show i = p + 1 by omega]
/-- what comes of merging, and its conflicts -/
def mgF (bs lf rt : List Int32) : List Int32 × List N3 := joinP bs lf rt (mg bs lf rt bs.length).1 bs.length (mg bs lf rt bs.length).2.1 lf.length (mg bs lf rt bs.length).2.2.1 rt.length (mg bs lf rt bs.length).2.2.2
