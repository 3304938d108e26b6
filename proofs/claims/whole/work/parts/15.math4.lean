/-! THE MATHEMATICS, on: whole numbers, where a hunk fits, patching -/
def iZ (z : Int) : Int32 := Int32.ofInt z
theorem iZ_nat (n : Nat) : nI n = iZ (n : Int) := Int32.ofInt_eq_ofNat.symm
theorem iZ_add (x y : Int) : iZ x + iZ y = iZ (x + y) := (Int32.ofInt_add x y).symm
theorem iZ_sub (x y : Int) : iZ x - iZ y = iZ (x - y) := (Int32.ofInt_sub x y).symm
theorem iZ_toInt {z : Int} (h1 : -4000 < z) (h2 : z < 4000) : (iZ z).toInt = z := Int32.toInt_ofInt_of_le (by omega) (by omega)
theorem iZ_abs {z : Int} (h1 : -4000 < z) (h2 : z < 4000) : (if 0 ≤ iZ z then iZ z else 0 - iZ z) = nI z.natAbs := by
  have e := iZ_toInt h1 h2
  by_cases h : 0 ≤ z
  · have h9 : (0 : Int32) ≤ iZ z := by rw [Int32.le_iff_toInt_le, e]; simpa using h
    rw [if_pos h9, iZ_nat, Int.natAbs_of_nonneg h]
  · have h9 : ¬ (0 : Int32) ≤ iZ z := by
      rw [Int32.le_iff_toInt_le, e]
      intro h8
      exact h (by simpa using h8)
    rw [if_neg h9, show (0 : Int32) = iZ 0 from rfl, iZ_sub, iZ_nat]
    congr 1
    omega
theorem nI_subI (x y : Nat) : nI x - nI y = iZ ((x : Int) - (y : Int)) := by rw [iZ_nat, iZ_nat, iZ_sub]
theorem nI_sublt {a b x : Nat} (ha : a < 1000) (hb : b < 1000) (hx : x < 1000) : nI a - nI b < nI x ↔ a < x + b := by
  rw [nI_subI, iZ_nat, Int32.lt_iff_toInt_lt, iZ_toInt (by omega) (by omega), iZ_toInt (by omega) (by omega)]
  omega
theorem nI_subeq {a b q : Nat} (ha : a < 1000) (hb : b < 1000) (hq : q < 1000) : nI a - nI b = nI q ↔ a = q + b := by
  constructor
  · intro h
    have h1 := congrArg Int32.toInt h
    rw [nI_subI, iZ_nat, iZ_toInt (by omega) (by omega), iZ_toInt (by omega) (by omega)] at h1
    omega
  · intro h
    rw [nI_subI, iZ_nat]
    congr 1
    omega
theorem nJ_max {b : Nat} (h : b < 2 ^ 31) : (if nJ b < nI 0 then nI 0 else nJ b) = nI (b - 1) := by
  rw [nI_0]
  cases b with
  | zero => rw [if_pos ((nJ_neg (by omega)).mpr rfl)]; rfl
  | succ i => rw [if_neg (fun h9 => by have := (nJ_neg h).mp h9; omega), nJ_succ]; rfl
/-- the hunk's part of a fits in c at p, with the lines round it -/
def fitB (a : List Int32) (bg ln : Nat) (c : List Int32) (p : Nat) : Bool := decide (p + ln ≤ c.length) && ((List.range ln).all (fun k => decide (c.getD (p + k) 0 = a.getD (bg + k) 0)) && ((decide (bg = 0) || (decide (0 < p) && decide (c.getD (p - 1) 0 = a.getD (bg - 1) 0))) && (decide (bg + ln = a.length) || (decide (p + ln < c.length) && decide (c.getD (p + ln) 0 = a.getD (bg + ln) 0)))))
theorem fitB_iff {a : List Int32} {bg ln : Nat} {c : List Int32} {p : Nat} : fitB a bg ln c p = true ↔ p + ln ≤ c.length ∧ (∀ k, k < ln → c.getD (p + k) 0 = a.getD (bg + k) 0) ∧ (bg = 0 ∨ (0 < p ∧ c.getD (p - 1) 0 = a.getD (bg - 1) 0)) ∧ (bg + ln = a.length ∨ (p + ln < c.length ∧ c.getD (p + ln) 0 = a.getD (bg + ln) 0)) := by
  simp only [fitB, Bool.and_eq_true, Bool.or_eq_true, decide_eq_true_eq, List.all_eq_true, List.mem_range]
/-- line by line -/
def lnB (a : List Int32) (bg : Nat) (c : List Int32) (p k : Nat) : Prop := bg ≤ p + k ∧ p + k - bg < c.length ∧ c.getD (p + k - bg) 0 = a.getD k 0
theorem fit_lines {a : List Int32} {bg ln : Nat} {c : List Int32} {p : Nat} (h1 : p + ln ≤ c.length) (h2 : bg + ln ≤ a.length) : fitB a bg ln c p = true ↔ ∀ k, bg - 1 ≤ k → k < min (bg + ln + 1) a.length → lnB a bg c p k := by
  rw [fitB_iff]
  constructor
  · rintro ⟨-, f1, f2, f3⟩ k k1 k2
    unfold lnB
    rcases Nat.lt_or_ge k bg with h | h
    · rcases f2 with f2 | ⟨f2, f4⟩
      · omega
      · rw [show k = bg - 1 by omega, show p + (bg - 1) - bg = p - 1 by omega]
        exact ⟨by omega, by omega, f4⟩
    · rcases Nat.lt_or_ge k (bg + ln) with h9 | h9
      · have := f1 (k - bg) (by omega)
        rw [show p + (k - bg) = p + k - bg by omega, show bg + (k - bg) = k by omega] at this
        exact ⟨by omega, by omega, this⟩
      · rcases f3 with f3 | ⟨f3, f4⟩
        · omega
        · rw [show k = bg + ln by omega, show p + (bg + ln) - bg = p + ln by omega]
          exact ⟨by omega, by omega, f4⟩
  · intro f
    refine ⟨h1, fun k hk => ?_, ?_, ?_⟩
    · have := (f (bg + k) (by omega) (by omega)).2.2
      rw [show p + (bg + k) - bg = p + k by omega] at this
      exact this
    · rcases Nat.eq_zero_or_pos bg with h | h
      · exact Or.inl h
      · have := f (bg - 1) (Nat.le_refl _) (by omega)
        have h9 := this.2.2
        have h8 := this.1
        rw [show p + (bg - 1) - bg = p - 1 by omega] at h9
        exact Or.inr ⟨by omega, h9⟩
    · rcases Nat.lt_or_ge (bg + ln) a.length with h | h
      · have := f (bg + ln) (by omega) (by omega)
        have h9 := this.2.2
        have h8 := this.2.1
        rw [show p + (bg + ln) - bg = p + ln by omega] at h9 h8
        exact Or.inr ⟨h8, h9⟩
      · exact Or.inl (by omega)
/-- of the places from lo on the one nearest to w, of two the first one -/
def nrst (P : Nat → Bool) (w : Int) (lo : Nat) : Nat → Option Nat
  | 0 => none
  | n + 1 => match nrst P w lo n with
    | none => if P (lo + n) = true then some (lo + n) else none
    | some q => if (((lo + n : Nat) : Int) - w).natAbs < ((q : Int) - w).natAbs ∧ P (lo + n) = true then some (lo + n) else some q
theorem nrst_no {P : Nat → Bool} {w : Int} {lo n : Nat} (h : ¬ P (lo + n) = true) : nrst P w lo (n + 1) = nrst P w lo n := by
  rw [nrst]
  cases e : nrst P w lo n with
  | none => simp only; rw [if_neg h]
  | some q => simp only; rw [if_neg (fun h9 => h h9.2)]
theorem nrst_far {P : Nat → Bool} {w : Int} {lo n q : Nat} (e : nrst P w lo n = some q) (h : ¬ (((lo + n : Nat) : Int) - w).natAbs < ((q : Int) - w).natAbs) : nrst P w lo (n + 1) = nrst P w lo n := by
  rw [nrst, e]; simp only; rw [if_neg (fun h9 => h h9.1)]
theorem nrst_new {P : Nat → Bool} {w : Int} {lo n : Nat} (h : P (lo + n) = true) (e : nrst P w lo n = none ∨ ∃ q, nrst P w lo n = some q ∧ (((lo + n : Nat) : Int) - w).natAbs < ((q : Int) - w).natAbs) : nrst P w lo (n + 1) = some (lo + n) := by
  rw [nrst]
  rcases e with e | ⟨q, e, h2⟩
  · rw [e]; simp only; rw [if_pos h]
  · rw [e]; simp only; rw [if_pos ⟨h2, h⟩]
theorem nrst_in {P : Nat → Bool} {w : Int} {lo q : Nat} : ∀ {n : Nat}, nrst P w lo n = some q → lo ≤ q ∧ q < lo + n ∧ P q = true := by
  intro n
  induction n with
  | zero => intro h; cases h
  | succ n ih =>
    intro h
    by_cases h9 : P (lo + n) = true
    · cases e : nrst P w lo n with
      | none =>
        rw [nrst_new h9 (Or.inl e)] at h
        cases h
        exact ⟨by omega, by omega, h9⟩
      | some q2 =>
        by_cases h8 : (((lo + n : Nat) : Int) - w).natAbs < ((q2 : Int) - w).natAbs
        · rw [nrst_new h9 (Or.inr ⟨q2, e, h8⟩)] at h
          cases h
          exact ⟨by omega, by omega, h9⟩
        · rw [nrst_far e h8] at h
          have := ih h
          exact ⟨this.1, by omega, this.2.2⟩
    · rw [nrst_no h9] at h
      have := ih h
      exact ⟨this.1, by omega, this.2.2⟩
theorem nrst_ext {P : Nat → Bool} {w : Int} {lo t : Nat} (h : ∀ p, lo + t ≤ p → ¬ P p = true) : ∀ {m : Nat}, t ≤ m → nrst P w lo m = nrst P w lo t := by
  intro m
  induction m with
  | zero => intro h9; rw [show t = 0 by omega]
  | succ m ih =>
    intro h9
    rcases Nat.lt_or_ge t (m + 1) with h8 | h8
    · rw [nrst_no (h _ (by omega))]; exact ih (by omega)
    · rw [show t = m + 1 by omega]
/-- the end of where the last hunk was done, by how much it was off, what came so far, how many were rejected -/
abbrev PS : Type := Nat × Int × List Int32 × Nat
def pwh (a c : List Int32) (s : PS) (h : N4) : Option Nat := nrst (fitB a h.1 h.2.1 c) ((h.1 : Int) + s.2.1) s.1 (c.length + 1 - s.1)
def pstep (a b c : List Int32) (s : PS) (h : N4) : PS := match pwh a c s h with
  | none => (s.1, s.2.1, s.2.2.1, s.2.2.2 + 1)
  | some p => (p + h.2.1, (p : Int) - (h.1 : Int), (s.2.2.1 ++ pt c s.1 p) ++ pt b h.2.2.1 (h.2.2.1 + h.2.2.2), s.2.2.2)
def pfold (a b c : List Int32) (hs : List N4) : PS := hs.foldl (pstep a b c) (0, 0, [], 0)
theorem pfold_snoc (a b c : List Int32) (hs : List N4) (h : N4) : pfold a b c (hs ++ [h]) = pstep a b c (pfold a b c hs) h := by rw [pfold, pfold, List.foldl_append]; rfl
theorem pstep_none {a b c : List Int32} {s : PS} {h : N4} (e : pwh a c s h = none) : pstep a b c s h = (s.1, s.2.1, s.2.2.1, s.2.2.2 + 1) := by rw [pstep, e]
theorem pstep_some {a b c : List Int32} {s : PS} {h : N4} {p : Nat} (e : pwh a c s h = some p) : pstep a b c s h = (p + h.2.1, (p : Int) - (h.1 : Int), (s.2.2.1 ++ pt c s.1 p) ++ pt b h.2.2.1 (h.2.2.1 + h.2.2.2), s.2.2.2) := by rw [pstep, e]
/-- what comes of c, and how many hunks are rejected -/
def patF (a b c : List Int32) : List Int32 × Nat := ((pfold a b c (hunksOf a b)).2.2.1 ++ pt c (pfold a b c (hunksOf a b)).1 c.length, (pfold a b c (hunksOf a b)).2.2.2)
/-- how many lines of b the hunks have -/
def bsum (hs : List N4) : Nat := (hs.map (fun h => h.2.2.2)).sum
theorem bsum_app (x y : List N4) : bsum (x ++ y) = bsum x + bsum y := by simp [bsum]
def hkok (a b : List Int32) (hs : List N4) : Prop := ∀ h ∈ hs, h.1 + h.2.1 ≤ a.length ∧ h.2.2.1 + h.2.2.2 ≤ b.length
theorem hk1_ok {a b : List Int32} {x i y j : Nat} (hx : x ≤ i) (hi : i ≤ a.length) (hy : y ≤ j) (hj : j ≤ b.length) : hkok a b (hk1 x i y j) ∧ bsum (hk1 x i y j) ≤ j - y := by
  unfold hk1
  split
  · refine ⟨fun h hh => ?_, ?_⟩
    · cases List.mem_singleton.mp hh
      exact ⟨by show x + (i - x) ≤ _; omega, by show y + (j - y) ≤ _; omega⟩
    · simp [bsum]
  · exact ⟨fun h hh => (by cases hh), by simp [bsum]⟩
theorem cutp_ok (a b : List Int32) (i : Nat) (hi : i ≤ a.length) : hkok a b (cutp (prs a b i)).2.2 ∧ bsum (cutp (prs a b i)).2.2 ≤ (cutp (prs a b i)).2.1 := by
  induction i with
  | zero => exact ⟨fun h hh => (by cases hh), Nat.le_refl _⟩
  | succ i ih =>
    have ih := ih (by omega)
    have hc := cutp_prs a b i
    cases h : pn a b i with
    | none => rw [prs_none h]; exact ih
    | some j =>
      have hs := stp_spec (show stp a b (fro a b i) i = some j from h)
      have h1 := hk1_ok (a := a) (b := b) hc.1 (by omega) (show (cutp (prs a b i)).2.1 ≤ j by omega) (by omega)
      rw [prs_some h, cutp_snoc]
      refine ⟨fun h hh => (List.mem_append.mp hh).elim (ih.1 h) (h1.1 h), ?_⟩
      simp only [cstep]
      rw [bsum_app]
      omega
theorem hunks_ok (a b : List Int32) : hkok a b (hunksOf a b) ∧ bsum (hunksOf a b) ≤ b.length ∧ (hunksOf a b).length ≤ a.length + 1 := by
  have hc := cutp_prs a b a.length
  have ho := cutp_ok a b a.length (Nat.le_refl _)
  have hf := fro_le a b a.length
  have h1 := hk1_ok (a := a) (b := b) hc.1 (Nat.le_refl _) (show (cutp (prs a b a.length)).2.1 ≤ b.length by omega) (Nat.le_refl _)
  have hl := hk1_len (cutp (prs a b a.length)).1 a.length (cutp (prs a b a.length)).2.1 b.length
  have hp := (prs_len a b a.length).1
  refine ⟨fun h hh => (List.mem_append.mp hh).elim (ho.1 h) (h1.1 h), ?_, ?_⟩
  · rw [hunksOf, bsum_app]; omega
  · rw [hunksOf, List.length_append]; omega
theorem bsum_take (hs : List N4) (k : Nat) : bsum (hs.take k) ≤ bsum hs := by
  have := bsum_app (hs.take k) (hs.drop k)
  rw [List.take_append_drop] at this
  omega
theorem pfold_ok {a b c : List Int32} {hs : List N4} (hk : hkok a b hs) (ha : a.length ≤ 60) (hc : c.length ≤ 60) : (pfold a b c hs).1 ≤ c.length ∧ -60 ≤ (pfold a b c hs).2.1 ∧ (pfold a b c hs).2.1 ≤ 60 ∧ (pfold a b c hs).2.2.1.length ≤ (pfold a b c hs).1 + bsum hs ∧ (pfold a b c hs).2.2.2 ≤ hs.length := by
  have key : ∀ (n : Nat) (hs : List N4), hs.length = n → hkok a b hs → (pfold a b c hs).1 ≤ c.length ∧ -60 ≤ (pfold a b c hs).2.1 ∧ (pfold a b c hs).2.1 ≤ 60 ∧ (pfold a b c hs).2.2.1.length ≤ (pfold a b c hs).1 + bsum hs ∧ (pfold a b c hs).2.2.2 ≤ hs.length := by
    intro n
    induction n with
    | zero =>
      intro hs hl _
      cases List.length_eq_zero_iff.mp hl
      exact ⟨Nat.zero_le _, show (-60 : Int) ≤ 0 by decide, show (0 : Int) ≤ 60 by decide, Nat.zero_le _, Nat.zero_le _⟩
    | succ n ih =>
      intro hs hl hk
      have hne : hs ≠ [] := fun e => by rw [e] at hl; cases hl
      have e : hs = hs.dropLast ++ [hs.getLast hne] := (List.dropLast_concat_getLast hne).symm
      have hkl := hk (hs.getLast hne) (List.getLast_mem hne)
      have ih := ih hs.dropLast (by rw [List.length_dropLast, hl]; rfl) (fun h hh => hk h (List.dropLast_subset _ hh))
      generalize hs.dropLast = t at e ih
      generalize hs.getLast hne = h at e hkl
      subst e
      rw [pfold_snoc, bsum_app, List.length_append, List.length_singleton]
      cases e9 : pwh a c (pfold a b c t) h with
      | none =>
        rw [pstep_none e9]
        dsimp only
        omega
      | some p =>
        rw [pstep_some e9]
        have hin := nrst_in e9
        have hf := (fitB_iff.mp hin.2.2).1
        dsimp only
        rw [List.length_append, List.length_append, pt_len (by omega), pt_len (by omega), show h.2.2.1 + h.2.2.2 - h.2.2.1 = h.2.2.2 by omega, show bsum [h] = h.2.2.2 by simp [bsum]]
        omega
  exact key _ hs rfl hk
