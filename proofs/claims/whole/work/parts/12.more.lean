/-! MORE ROWS of the machine over my words: Object's constructor, Math's three, numbers less one -/
set_option maxRecDepth 20000 in
theorem wO_inst : Cond.instanceMethod objectInit ∈ hB := hB_in 49 rfl (by decide +kernel)
set_option maxRecDepth 20000 in
theorem wO_code : Cond.code objectInit ⟨#[0xb1]⟩ 1 none ∈ hB := hB_in 50 rfl (by decide +kernel)
set_option maxRecDepth 20000 in
theorem wI_arr : Cond.arrayClass .int ∈ hB := hB_in 76 rfl (by decide +kernel)
set_option maxRecDepth 20000 in
theorem wJ_arr : Cond.arrayClass .long ∈ hB := hB_in 796 rfl (by decide +kernel)
set_option maxRecDepth 20000 in
theorem wM_ini : Cond.initialized "java/lang/Math" ∈ hB := hB_in 42 rfl (by decide +kernel)
set_option maxRecDepth 20000 in
theorem wM_smax : Cond.static Lib.Math.max.name ∈ hB := hB_in 413 rfl (by decide +kernel)
set_option maxRecDepth 20000 in
theorem wM_cmax : Cond.code Lib.Math.max.name Lib.Math.max.code 2 (some .int) ∈ hB := hB_in 414 rfl (by decide +kernel)
set_option maxRecDepth 20000 in
theorem wM_sabs : Cond.static Lib.Math.abs.name ∈ hB := hB_in 551 rfl (by decide +kernel)
set_option maxRecDepth 20000 in
theorem wM_cabs : Cond.code Lib.Math.abs.name Lib.Math.abs.code 1 (some .int) ∈ hB := hB_in 552 rfl (by decide +kernel)
set_option maxRecDepth 20000 in
theorem wM_smin : Cond.static Lib.Math.min.name ∈ hB := hB_in 558 rfl (by decide +kernel)
set_option maxRecDepth 20000 in
theorem wM_cmin : Cond.code Lib.Math.min.name Lib.Math.min.code 2 (some .int) ∈ hB := hB_in 559 rfl (by decide +kernel)
section HMO
variable {p : Program} {l : Launch} {e : Env} {R rm : Room} {s : State} {m : MethodId} {args : Array Value} {below : List Frame} {meth : Method} {c : Code} {H : Heap} {locs : List Loc} {cells slots : Nat} {Q : State → Prop}
variable {cc : ByteArray} {pc nL index a : Nat} {ls : Array Slot} {rest : List Value} {own : String}
theorem hw_objInit (S0 : CallFix p m c cc nL s args hB own) (hR : hRle rm R) (hl : ls.size = nL) (hk : Cond.methodLink own index objectInit ∈ hB) (hf : (Nat.ble 1 rm.frames && Nat.ble 12 rm.locals) = true) (hdg : decode cc pc = .ok (.invokespecial index, 3))
    (kk : W p l e R s m args below meth c H locs cells slots Q (F0 m (pc + 3) ls [])) : W p l e R s m args below meth c H locs cells slots Q (F0 m pc ls [.ref a]) := by
  rw [Bool.and_eq_true] at hf
  refine W.objInit S0.1 S0.2.1 S0.2.2.2.1 (S0.2.2.2.2 _ hk) (S0.2.2.2.2 _ wO_inst) (S0.2.2.2.2 _ wO_code) rfl (by rw [S0.2.2.1]; exact hl) rfl hdg (Nat.le_trans (Nat.le_of_ble_eq_true hf.1) hR.1) ?_ kk
  exact Nat.le_trans (Nat.le_of_ble_eq_true hf.2) hR.2.1
theorem hw_max (S0 : CallFix p m c cc nL s args hB own) (hR : hRle rm R) (hl : ls.size = nL) (hk : Cond.methodLink own index Lib.Math.max.name ∈ hB) (hf : (Nat.ble 1 rm.frames && Nat.ble ((rest.map fun v => v.category).sum + 13) rm.locals) = true) (hc : cells ≤ rm.cells ∧ slots ≤ rm.slots) {x y : Int32} (hdg : decode cc pc = .ok (.invokestatic index, 3))
    (kk : W p l e R s m args below meth c H locs cells slots Q (F0 m (pc + 3) ls (.int (if x < y then y else x) :: rest))) : W p l e R s m args below meth c H locs cells slots Q (F0 m pc ls (.int y :: .int x :: rest)) := by
  rw [Bool.and_eq_true] at hf
  exact va_mmax S0.1 S0.2.1 (by rw [S0.2.2.1]; exact hl.symm) S0.2.2.2.1 (S0.2.2.2.2 _ hk) (S0.2.2.2.2 _ wM_smax) (S0.2.2.2.2 _ wM_ini) (S0.2.2.2.2 _ wM_cmax) (Nat.le_trans (Nat.le_of_ble_eq_true hf.1) hR.1) (Nat.le_trans (Nat.le_of_ble_eq_true hf.2) hR.2.1) (Nat.le_trans hc.1 hR.2.2.1) (Nat.le_trans hc.2 hR.2.2.2) hdg kk
theorem hw_min (S0 : CallFix p m c cc nL s args hB own) (hR : hRle rm R) (hl : ls.size = nL) (hk : Cond.methodLink own index Lib.Math.min.name ∈ hB) (hf : (Nat.ble 1 rm.frames && Nat.ble ((rest.map fun v => v.category).sum + 13) rm.locals) = true) (hc : cells ≤ rm.cells ∧ slots ≤ rm.slots) {x y : Int32} (hdg : decode cc pc = .ok (.invokestatic index, 3))
    (kk : W p l e R s m args below meth c H locs cells slots Q (F0 m (pc + 3) ls (.int (if y < x then y else x) :: rest))) : W p l e R s m args below meth c H locs cells slots Q (F0 m pc ls (.int y :: .int x :: rest)) := by
  rw [Bool.and_eq_true] at hf
  exact va_mmin S0.1 S0.2.1 (by rw [S0.2.2.1]; exact hl.symm) S0.2.2.2.1 (S0.2.2.2.2 _ hk) (S0.2.2.2.2 _ wM_smin) (S0.2.2.2.2 _ wM_ini) (S0.2.2.2.2 _ wM_cmin) (Nat.le_trans (Nat.le_of_ble_eq_true hf.1) hR.1) (Nat.le_trans (Nat.le_of_ble_eq_true hf.2) hR.2.1) (Nat.le_trans hc.1 hR.2.2.1) (Nat.le_trans hc.2 hR.2.2.2) hdg kk
theorem hw_abs (S0 : CallFix p m c cc nL s args hB own) (hR : hRle rm R) (hl : ls.size = nL) (hk : Cond.methodLink own index Lib.Math.abs.name ∈ hB) (hf : (Nat.ble 1 rm.frames && Nat.ble ((rest.map fun v => v.category).sum + 13) rm.locals) = true) (hc : cells ≤ rm.cells ∧ slots ≤ rm.slots) {x : Int32} (hdg : decode cc pc = .ok (.invokestatic index, 3))
    (kk : W p l e R s m args below meth c H locs cells slots Q (F0 m (pc + 3) ls (.int (if 0 ≤ x then x else 0 - x) :: rest))) : W p l e R s m args below meth c H locs cells slots Q (F0 m pc ls (.int x :: rest)) := by
  rw [Bool.and_eq_true] at hf
  exact va_mabs S0.1 S0.2.1 (by rw [S0.2.2.1]; exact hl.symm) S0.2.2.2.1 (S0.2.2.2.2 _ hk) (S0.2.2.2.2 _ wM_sabs) (S0.2.2.2.2 _ wM_ini) (S0.2.2.2.2 _ wM_cabs) (Nat.le_trans (Nat.le_of_ble_eq_true hf.1) hR.1) (Nat.le_trans (Nat.le_of_ble_eq_true hf.2) hR.2.1) (Nat.le_trans hc.1 hR.2.2.1) (Nat.le_trans hc.2 hR.2.2.2) hdg kk
/-- a number on the stack by another name, deeper rows stay -/
theorem hw_eqv {x y : Value} (h : x = y) (k : W p l e R s m args below meth c H locs cells slots Q (F0 m pc ls (y :: rest))) : W p l e R s m args below meth c H locs cells slots Q (F0 m pc ls (x :: rest)) := by rw [h]; exact k
end HMO
/-- a count less one, as loops that fall hold it -/
def nJ (t : Nat) : Int32 := nI t - nI 1
theorem nJ_succ (i : Nat) : nJ (i + 1) = nI i := nI_pred i
theorem nJ_dec (i : Nat) : nI i + Int32.ofInt (-1) = nJ i := (Int32.sub_eq_add_neg (nI i) (nI 1)).symm
theorem nJ_neg {t : Nat} (h : t < 2 ^ 31) : nJ t < 0 ↔ t = 0 := by
  cases t with
  | zero => exact ⟨fun _ => rfl, fun _ => by decide +kernel⟩
  | succ i => rw [nJ_succ]; exact ⟨fun h9 => absurd h9 (nI_pos (by omega)), fun h9 => by omega⟩
theorem nI_max {x y : Nat} (hx : x < 2 ^ 31) (hy : y < 2 ^ 31) : (if nI x < nI y then nI y else nI x) = nI (max x y) := by
  by_cases h : x < y
  · rw [if_pos (nI_lt h hy), Nat.max_eq_right (by omega)]
  · rw [if_neg (nI_nlt (by omega) hx), Nat.max_eq_left (by omega)]
theorem nI_min {x y : Nat} (hx : x < 2 ^ 31) (hy : y < 2 ^ 31) : (if nI y < nI x then nI y else nI x) = nI (min x y) := by
  by_cases h : y < x
  · rw [if_pos (nI_lt h hx), Nat.min_eq_right (by omega)]
  · rw [if_neg (nI_nlt (by omega) hy), Nat.min_eq_left (by omega)]
