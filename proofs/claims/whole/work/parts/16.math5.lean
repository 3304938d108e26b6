/-! THE MATHEMATICS, on: versions -/
def ofold (pv : List Nat) (ps : List (Nat × Nat)) (o : List Nat) : List Nat := ps.foldl (fun o p => o.set p.2 (pv.getD p.1 0)) o
theorem ofold_snoc (pv : List Nat) (ps : List (Nat × Nat)) (p : Nat × Nat) (o : List Nat) : ofold pv (ps ++ [p]) o = (ofold pv ps o).set p.2 (pv.getD p.1 0) := by rw [ofold, ofold, List.foldl_append]; rfl
theorem ofold_len (pv : List Nat) (ps : List (Nat × Nat)) : ∀ o : List Nat, (ofold pv ps o).length = o.length := by
  induction ps with
  | nil => intro o; rfl
  | cons p t ih => intro o; show (ofold pv t (o.set p.2 (pv.getD p.1 0))).length = _; rw [ih, List.length_set]
/-- the origins of the lines of a new version xs, behind the versions vs, of which the last one's lines are nw -/
def orig (vs : List (List Nat)) (nw xs : List Int32) : List Nat := ofold (vs.getD (vs.length - 1) []) (prs nw xs nw.length) (List.replicate xs.length vs.length)
theorem orig_len (vs : List (List Nat)) (nw xs : List Int32) : (orig vs nw xs).length = xs.length := by rw [orig, ofold_len, List.length_replicate]
theorem getD_set {o : List Nat} {j x : Nat} (hj : j < o.length) (k : Nat) : (o.set j x).getD k 0 = if k = j then x else o.getD k 0 := by
  simp only [List.getD_eq_getElem?_getD, List.getElem?_set]
  by_cases h : j = k
  · subst h; simp [hj]
  · simp [h, Ne.symm h]
theorem getD_rep {n v k : Nat} (h : k < n) : (List.replicate n v).getD k 0 = v := by simp [List.getD_eq_getElem?_getD, h]
/-- an array of 30 times 60 holds the origins, an array of 30 the sizes -/
def rpV (f : Nat → Int32) (vs : List (List Nat)) : Prop := ∀ v k, v < vs.length → k < (vs.getD v []).length → f (v * 60 + k) = nI ((vs.getD v []).getD k 0)
def rpS (f : Nat → Int32) (vs : List (List Nat)) : Prop := ∀ v, v < vs.length → f v = nI (vs.getD v []).length
theorem vgetD_l {vs : List (List Nat)} {o : List Nat} {v : Nat} (h : v < vs.length) : (vs ++ [o]).getD v [] = vs.getD v [] := by
  simp only [List.getD_eq_getElem?_getD]; rw [List.getElem?_append_left h]
theorem vgetD_r (vs : List (List Nat)) (o : List Nat) : (vs ++ [o]).getD vs.length [] = o := by simp [List.getD_eq_getElem?_getD]
theorem rpV_snoc {f f1 : Nat → Int32} {vs : List (List Nat)} {o : List Nat} (h : rpV f vs) (hl : ∀ v, v < vs.length → (vs.getD v []).length ≤ 60) (h1 : ∀ q, q < vs.length * 60 → f1 q = f q) (h2 : ∀ k, k < o.length → f1 (vs.length * 60 + k) = nI (o.getD k 0)) : rpV f1 (vs ++ [o]) := by
  intro v k hv hk
  rw [List.length_append, List.length_singleton] at hv
  rcases Nat.lt_or_ge v vs.length with h9 | h9
  · rw [vgetD_l h9] at hk ⊢
    have h60 := hl v h9
    have hle : (v + 1) * 60 ≤ vs.length * 60 := Nat.mul_le_mul_right 60 h9
    rw [h1 _ (by omega)]
    exact h v k h9 hk
  · have e : v = vs.length := by omega
    subst e
    rw [vgetD_r] at hk ⊢
    exact h2 k hk
theorem rpS_snoc {f : Nat → Int32} {vs : List (List Nat)} {o : List Nat} (h : rpS f vs) : rpS (upd f vs.length (nI o.length)) (vs ++ [o]) := by
  intro v hv
  rw [List.length_append, List.length_singleton] at hv
  rcases Nat.lt_or_ge v vs.length with h9 | h9
  · rw [pk_un (by omega), vgetD_l h9]; exact h v h9
  · have e : v = vs.length := by omega
    subst e
    rw [pk_us, vgetD_r]
/-- the versions as they stand: the last one's lines are nw -/
def vok (vs : List (List Nat)) (nw : List Int32) : Prop := vs.length ≤ 30 ∧ nw.length ≤ 60 ∧ (∀ v, v < vs.length → (vs.getD v []).length ≤ 60) ∧ (vs.length = 0 → nw = []) ∧ (0 < vs.length → (vs.getD (vs.length - 1) []).length = nw.length)
theorem vok_snoc {vs : List (List Nat)} {nw xs : List Int32} (h : vok vs nw) (hv : vs.length < 30) (hx : xs.length ≤ 60) : vok (vs ++ [orig vs nw xs]) xs := by
  obtain ⟨h1, h2, h3, h4, h5⟩ := h
  refine ⟨by rw [List.length_append, List.length_singleton]; omega, hx, fun v h9 => ?_, fun h9 => ?_, fun _ => ?_⟩
  · rw [List.length_append, List.length_singleton] at h9
    rcases Nat.lt_or_ge v vs.length with h8 | h8
    · rw [vgetD_l h8]; exact h3 v h8
    · rw [show v = vs.length by omega, vgetD_r, orig_len]; exact hx
  · rw [List.length_append, List.length_singleton] at h9; omega
  · rw [List.length_append, List.length_singleton, Nat.add_sub_cancel, vgetD_r, orig_len]
