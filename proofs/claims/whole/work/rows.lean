section
-- ===== PART A: goes FIRST, ahead of the names: the tables' words, and 'selects' of the private methods out of them =====
/-- a private method of a class that the tables say can be made, by its rows of tables_1 -/
def lw_okq (q : MethodName × Nat) : Prop := (q.1.cls ≠ "java/lang/invoke/MethodHandle" ∧ q.1.cls ≠ "java/lang/invoke/VarHandle") ∧ Cond.instantiable q.1.cls q.2 ∈ tables_1 ∧ Cond.privateMethod q.1 ∈ tables_1 ∧ Cond.instanceMethod q.1 ∈ tables_1
theorem lw_p0 : lw_okq (⟨"MergeRows", "rowAt", "(I)LMergeRows$Row;"⟩, 7) := ⟨⟨by decide +kernel, by decide +kernel⟩, List.mem_of_getElem? (i := 18) (by decide +kernel), List.mem_of_getElem? (i := 238) (by decide +kernel), List.mem_of_getElem? (i := 239) (by decide +kernel)⟩
theorem lw_p1 : lw_okq (⟨"java/lang/Throwable", "fillInStackTrace", "(I)Ljava/lang/Throwable;"⟩, 6) := ⟨⟨by decide +kernel, by decide +kernel⟩, List.mem_of_getElem? (i := 280) (by decide +kernel), List.mem_of_getElem? (i := 278) (by decide +kernel), List.mem_of_getElem? (i := 279) (by decide +kernel)⟩
theorem lw_p2 : lw_okq (⟨"MergeRows$Common", "measure", "(LMergeRows$Row;LMergeRows$Row;)V"⟩, 4) := ⟨⟨by decide +kernel, by decide +kernel⟩, List.mem_of_getElem? (i := 52) (by decide +kernel), List.mem_of_getElem? (i := 379) (by decide +kernel), List.mem_of_getElem? (i := 380) (by decide +kernel)⟩
theorem lw_p3 : lw_okq (⟨"MergeRows$Common", "clearEnds", "(II)V"⟩, 4) := ⟨⟨by decide +kernel, by decide +kernel⟩, List.mem_of_getElem? (i := 52) (by decide +kernel), List.mem_of_getElem? (i := 383) (by decide +kernel), List.mem_of_getElem? (i := 384) (by decide +kernel)⟩
theorem lw_p4 : lw_okq (⟨"MergeRows$Common", "losesNoPair", "(III)Z"⟩, 4) := ⟨⟨by decide +kernel, by decide +kernel⟩, List.mem_of_getElem? (i := 52) (by decide +kernel), List.mem_of_getElem? (i := 394) (by decide +kernel), List.mem_of_getElem? (i := 395) (by decide +kernel)⟩
theorem lw_p5 : lw_okq (⟨"MergeRows$Common", "addPair", "(II)V"⟩, 4) := ⟨⟨by decide +kernel, by decide +kernel⟩, List.mem_of_getElem? (i := 52) (by decide +kernel), List.mem_of_getElem? (i := 398) (by decide +kernel), List.mem_of_getElem? (i := 399) (by decide +kernel)⟩
theorem lw_p6 : lw_okq (⟨"MergeRows$Hunks", "addUnlessEmpty", "(IIII)V"⟩, 3) := ⟨⟨by decide +kernel, by decide +kernel⟩, List.mem_of_getElem? (i := 83) (by decide +kernel), List.mem_of_getElem? (i := 422) (by decide +kernel), List.mem_of_getElem? (i := 423) (by decide +kernel)⟩
theorem lw_p7 : lw_okq (⟨"MergeRows$Merging", "mergeUpToAnchors", "(LMergeRows$Row;)V"⟩, 8) := ⟨⟨by decide +kernel, by decide +kernel⟩, List.mem_of_getElem? (i := 150) (by decide +kernel), List.mem_of_getElem? (i := 450) (by decide +kernel), List.mem_of_getElem? (i := 451) (by decide +kernel)⟩
theorem lw_p8 : lw_okq (⟨"MergeRows$Merging", "mergeParts", "(III)V"⟩, 8) := ⟨⟨by decide +kernel, by decide +kernel⟩, List.mem_of_getElem? (i := 150) (by decide +kernel), List.mem_of_getElem? (i := 454) (by decide +kernel), List.mem_of_getElem? (i := 455) (by decide +kernel)⟩
theorem lw_p9 : lw_okq (⟨"MergeRows$Merging", "take", "(LMergeRows$Part;)V"⟩, 8) := ⟨⟨by decide +kernel, by decide +kernel⟩, List.mem_of_getElem? (i := 150) (by decide +kernel), List.mem_of_getElem? (i := 466) (by decide +kernel), List.mem_of_getElem? (i := 467) (by decide +kernel)⟩
theorem lw_p10 : lw_okq (⟨"MergeRows$Merging", "addConflict", "()V"⟩, 8) := ⟨⟨by decide +kernel, by decide +kernel⟩, List.mem_of_getElem? (i := 150) (by decide +kernel), List.mem_of_getElem? (i := 475) (by decide +kernel), List.mem_of_getElem? (i := 476) (by decide +kernel)⟩
theorem lw_p11 : lw_okq (⟨"MergeRows$Merging", "stepPartsOverAnchor", "()V"⟩, 8) := ⟨⟨by decide +kernel, by decide +kernel⟩, List.mem_of_getElem? (i := 150) (by decide +kernel), List.mem_of_getElem? (i := 481) (by decide +kernel), List.mem_of_getElem? (i := 482) (by decide +kernel)⟩
theorem lw_p12 : lw_okq (⟨"MergeRows$Versions", "fillOrigins", "(LMergeRows$Row;)V"⟩, 5) := ⟨⟨by decide +kernel, by decide +kernel⟩, List.mem_of_getElem? (i := 123) (by decide +kernel), List.mem_of_getElem? (i := 548) (by decide +kernel), List.mem_of_getElem? (i := 549) (by decide +kernel)⟩
theorem lw_p13 : lw_okq (⟨"MergeRowsModel", "refuse", "(ZZ)Z"⟩, 29) := ⟨⟨by decide +kernel, by decide +kernel⟩, List.mem_of_getElem? (i := 562) (by decide +kernel), List.mem_of_getElem? (i := 667) (by decide +kernel), List.mem_of_getElem? (i := 668) (by decide +kernel)⟩
theorem lw_p14 : lw_okq (⟨"MergeRowsModel", "rows", "(II)V"⟩, 29) := ⟨⟨by decide +kernel, by decide +kernel⟩, List.mem_of_getElem? (i := 562) (by decide +kernel), List.mem_of_getElem? (i := 687) (by decide +kernel), List.mem_of_getElem? (i := 688) (by decide +kernel)⟩
theorem lw_p15 : lw_okq (⟨"MergeRowsModel", "first", "([III)V"⟩, 29) := ⟨⟨by decide +kernel, by decide +kernel⟩, List.mem_of_getElem? (i := 562) (by decide +kernel), List.mem_of_getElem? (i := 691) (by decide +kernel), List.mem_of_getElem? (i := 692) (by decide +kernel)⟩
def lw_privs_1 : List (MethodName × Nat) := [(⟨"MergeRows", "rowAt", "(I)LMergeRows$Row;"⟩, 7), (⟨"java/lang/Throwable", "fillInStackTrace", "(I)Ljava/lang/Throwable;"⟩, 6), (⟨"MergeRows$Common", "measure", "(LMergeRows$Row;LMergeRows$Row;)V"⟩, 4), (⟨"MergeRows$Common", "clearEnds", "(II)V"⟩, 4), (⟨"MergeRows$Common", "losesNoPair", "(III)Z"⟩, 4), (⟨"MergeRows$Common", "addPair", "(II)V"⟩, 4), (⟨"MergeRows$Hunks", "addUnlessEmpty", "(IIII)V"⟩, 3), (⟨"MergeRows$Merging", "mergeUpToAnchors", "(LMergeRows$Row;)V"⟩, 8), (⟨"MergeRows$Merging", "mergeParts", "(III)V"⟩, 8), (⟨"MergeRows$Merging", "take", "(LMergeRows$Part;)V"⟩, 8), (⟨"MergeRows$Merging", "addConflict", "()V"⟩, 8), (⟨"MergeRows$Merging", "stepPartsOverAnchor", "()V"⟩, 8), (⟨"MergeRows$Versions", "fillOrigins", "(LMergeRows$Row;)V"⟩, 5), (⟨"MergeRowsModel", "refuse", "(ZZ)Z"⟩, 29), (⟨"MergeRowsModel", "rows", "(II)V"⟩, 29), (⟨"MergeRowsModel", "first", "([III)V"⟩, 29)]
theorem lw_r1 : ∀ q ∈ lw_privs_1, lw_okq q := List.forall_mem_cons.mpr ⟨lw_p0, List.forall_mem_cons.mpr ⟨lw_p1, List.forall_mem_cons.mpr ⟨lw_p2, List.forall_mem_cons.mpr ⟨lw_p3, List.forall_mem_cons.mpr ⟨lw_p4, List.forall_mem_cons.mpr ⟨lw_p5, List.forall_mem_cons.mpr ⟨lw_p6, List.forall_mem_cons.mpr ⟨lw_p7, List.forall_mem_cons.mpr ⟨lw_p8, List.forall_mem_cons.mpr ⟨lw_p9, List.forall_mem_cons.mpr ⟨lw_p10, List.forall_mem_cons.mpr ⟨lw_p11, List.forall_mem_cons.mpr ⟨lw_p12, List.forall_mem_cons.mpr ⟨lw_p13, List.forall_mem_cons.mpr ⟨lw_p14, List.forall_mem_cons.mpr ⟨lw_p15, fun _ h => absurd h List.not_mem_nil⟩⟩⟩⟩⟩⟩⟩⟩⟩⟩⟩⟩⟩⟩⟩⟩
theorem lw_p16 : lw_okq (⟨"MergeRowsModel", "second", "([III)V"⟩, 29) := ⟨⟨by decide +kernel, by decide +kernel⟩, List.mem_of_getElem? (i := 562) (by decide +kernel), List.mem_of_getElem? (i := 695) (by decide +kernel), List.mem_of_getElem? (i := 696) (by decide +kernel)⟩
theorem lw_p17 : lw_okq (⟨"MergeRowsModel", "compare", "()V"⟩, 29) := ⟨⟨by decide +kernel, by decide +kernel⟩, List.mem_of_getElem? (i := 562) (by decide +kernel), List.mem_of_getElem? (i := 699) (by decide +kernel), List.mem_of_getElem? (i := 700) (by decide +kernel)⟩
theorem lw_p18 : lw_okq (⟨"MergeRowsModel", "cut", "()V"⟩, 29) := ⟨⟨by decide +kernel, by decide +kernel⟩, List.mem_of_getElem? (i := 562) (by decide +kernel), List.mem_of_getElem? (i := 711) (by decide +kernel), List.mem_of_getElem? (i := 712) (by decide +kernel)⟩
theorem lw_p19 : lw_okq (⟨"MergeRowsModel", "addPart", "(IIII)V"⟩, 29) := ⟨⟨by decide +kernel, by decide +kernel⟩, List.mem_of_getElem? (i := 562) (by decide +kernel), List.mem_of_getElem? (i := 715) (by decide +kernel), List.mem_of_getElem? (i := 716) (by decide +kernel)⟩
theorem lw_p20 : lw_okq (⟨"MergeRowsModel", "joinParts", "(IIIIIIIII)V"⟩, 29) := ⟨⟨by decide +kernel, by decide +kernel⟩, List.mem_of_getElem? (i := 562) (by decide +kernel), List.mem_of_getElem? (i := 727) (by decide +kernel), List.mem_of_getElem? (i := 728) (by decide +kernel)⟩
theorem lw_p21 : lw_okq (⟨"MergeRowsModel", "alike", "(IIIIII)Z"⟩, 29) := ⟨⟨by decide +kernel, by decide +kernel⟩, List.mem_of_getElem? (i := 562) (by decide +kernel), List.mem_of_getElem? (i := 731) (by decide +kernel), List.mem_of_getElem? (i := 732) (by decide +kernel)⟩
theorem lw_p22 : lw_okq (⟨"MergeRowsModel", "writePart", "(III)V"⟩, 29) := ⟨⟨by decide +kernel, by decide +kernel⟩, List.mem_of_getElem? (i := 562) (by decide +kernel), List.mem_of_getElem? (i := 735) (by decide +kernel), List.mem_of_getElem? (i := 736) (by decide +kernel)⟩
theorem lw_p23 : lw_okq (⟨"MergeRowsModel", "write", "(I)V"⟩, 29) := ⟨⟨by decide +kernel, by decide +kernel⟩, List.mem_of_getElem? (i := 562) (by decide +kernel), List.mem_of_getElem? (i := 739) (by decide +kernel), List.mem_of_getElem? (i := 740) (by decide +kernel)⟩
theorem lw_p24 : lw_okq (⟨"MergeRowsModel", "become", "(I)V"⟩, 29) := ⟨⟨by decide +kernel, by decide +kernel⟩, List.mem_of_getElem? (i := 562) (by decide +kernel), List.mem_of_getElem? (i := 743) (by decide +kernel), List.mem_of_getElem? (i := 744) (by decide +kernel)⟩
theorem lw_p25 : lw_okq (⟨"MergeRowsModel", "fits", "(III)Z"⟩, 29) := ⟨⟨by decide +kernel, by decide +kernel⟩, List.mem_of_getElem? (i := 562) (by decide +kernel), List.mem_of_getElem? (i := 758) (by decide +kernel), List.mem_of_getElem? (i := 759) (by decide +kernel)⟩
def lw_privs_2 : List (MethodName × Nat) := [(⟨"MergeRowsModel", "second", "([III)V"⟩, 29), (⟨"MergeRowsModel", "compare", "()V"⟩, 29), (⟨"MergeRowsModel", "cut", "()V"⟩, 29), (⟨"MergeRowsModel", "addPart", "(IIII)V"⟩, 29), (⟨"MergeRowsModel", "joinParts", "(IIIIIIIII)V"⟩, 29), (⟨"MergeRowsModel", "alike", "(IIIIII)Z"⟩, 29), (⟨"MergeRowsModel", "writePart", "(III)V"⟩, 29), (⟨"MergeRowsModel", "write", "(I)V"⟩, 29), (⟨"MergeRowsModel", "become", "(I)V"⟩, 29), (⟨"MergeRowsModel", "fits", "(III)Z"⟩, 29)]
theorem lw_r2 : ∀ q ∈ lw_privs_2, lw_okq q := List.forall_mem_cons.mpr ⟨lw_p16, List.forall_mem_cons.mpr ⟨lw_p17, List.forall_mem_cons.mpr ⟨lw_p18, List.forall_mem_cons.mpr ⟨lw_p19, List.forall_mem_cons.mpr ⟨lw_p20, List.forall_mem_cons.mpr ⟨lw_p21, List.forall_mem_cons.mpr ⟨lw_p22, List.forall_mem_cons.mpr ⟨lw_p23, List.forall_mem_cons.mpr ⟨lw_p24, List.forall_mem_cons.mpr ⟨lw_p25, fun _ h => absurd h List.not_mem_nil⟩⟩⟩⟩⟩⟩⟩⟩⟩⟩
def lw_privs : List (MethodName × Nat) := lw_privs_1 ++ (lw_privs_2)
def lw_tbl : List Cond := k2_sels lw_privs ++ tables_1
theorem lw_privs_ok : ∀ q ∈ lw_privs, lw_okq q := by
  show ∀ q ∈ lw_privs_1 ++ (lw_privs_2), lw_okq q
  exact List.forall_mem_append.mpr ⟨lw_r1, lw_r2⟩
/-- the words that any method of this claim may need: the good ones of the tables -/
def hB : List Cond := lw_tbl.filter goodWord
theorem hB_in {w : Cond} (k : Nat) (h : lw_tbl[k]? = some w) (hg : goodWord w = true) : w ∈ hB := List.mem_filter.mpr ⟨List.mem_of_getElem? h, hg⟩
theorem hB_of {w : Cond} (h : w ∈ lw_tbl) (hg : goodWord w = true) : w ∈ hB := List.mem_filter.mpr ⟨h, hg⟩
theorem hB_tbl {w : Cond} (h : w ∈ hB) : w ∈ lw_tbl := (List.mem_filter.mp h).1
theorem hB_good : GoodIn hB hB := fun _ h => ⟨h, good_of_word (List.mem_filter.mp h).2⟩
end
section
/-! ===== BEGIN words of one list among another's, by their places ===== -/
theorem goodIn_r {big : List Cond} (ws : List Cond) (ps : List Nat) (hp : ws = ps.filterMap (fun i => big[i]?)) (h : ws.all goodWord = true) : GoodIn big ws := by
  intro w hw
  have h1 := List.all_eq_true.mp h w hw
  rw [hp] at hw
  obtain ⟨i, -, hi⟩ := List.mem_filterMap.mp hw
  have hm : w ∈ big := by first | exact List.mem_of_getElem? hi | exact List.getElem?_mem hi
  exact ⟨hm, good_of_word h1⟩
theorem goodIn_app {big a b : List Cond} (ha : GoodIn big a) (hb : GoodIn big b) : GoodIn big (a ++ b) := fun w h => (List.mem_append.mp h).elim (ha w) (hb w)
theorem goodIn_ca {big a b : List Cond} {c : Cond} (ha : GoodIn big (c :: a)) (hb : GoodIn big b) : GoodIn big (c :: (a ++ b)) := fun w h => (List.mem_cons.mp h).elim (fun e => ha w (List.mem_cons.mpr (Or.inl e))) (fun h => (List.mem_append.mp h).elim (fun h => ha w (List.mem_cons.mpr (Or.inr h))) (hb w))
theorem goodIn_sub {big ws : List Cond} (hm : ∀ w ∈ ws, w ∈ big) (h : ws.all goodWord = true) : GoodIn big ws := fun w hw => ⟨hm w hw, good_of_word (List.all_eq_true.mp h w hw)⟩
/-! ===== END ===== -/

/-! ===== BEGIN exceptions that leave a method, and their catching by the caller (launches without stack traces) ===== -/
section VXA
/-! The laws vx_back, vx_callV, vx_callS, vx_callSW, vx_throw0, vx_throwS follow proofs of the library, with one case more: JvmDerived/Free/Laws.lean (Back.of_free), Shelf42/LK1.lean (callV, callS), Shelf/KitTraced.lean (throwNew0V, throwNewS). -/
/-- where a method has thrown q: the class by its name, the cell, what was written, the world -/
def vx_T (XC : String → State → State → Prop) (st : State) (q : Addr) (t : State) (mc ms : Nat) (free : Addr → Prop) : Prop :=
  ∃ (E : String) (ce : Cell) (L : List Loc), XC E st t ∧ t.heap[q]? = some ce ∧ ce.vm = .none ∧ st.vm.findClass E = some ce.cls ∧ st.WarmedH t.vm ∧ st.sameButNew ({ t with vm := st.vm } : State) L mc ms ∧ ∀ z ∈ L, free z.base
def vx_Q (Qc : Array Value → State → Outcome → State → Prop) (XC : String → State → State → Prop) (mc ms : Nat) (free : Addr → Prop) : Array Value → State → Outcome → State → Prop := fun a st o t =>
  (Qc a st o t ∧ ∃ L, FrameEnd st o t L mc ms ∧ ∀ q ∈ L, free q.base) ∨ ∃ q, o = .threw q ∧ vx_T XC st q t mc ms free
/-- a callee that returns or throws -/
def vx_Met (l : Launch) (y : MethodName) (ws : List Cond) (rm : Room) (Pc : Array Value → State → Prop) (Qc : Array Value → State → Outcome → State → Prop) (XC : String → State → State → Prop) (mc ms : Nat) (free : Addr → Prop) : Prop :=
  MetFree l y (headSpec ws rm) Pc (fun _ _ _ _ _ => True) (vx_Q Qc XC mc ms free)
def vx_Post (XC : String → State → State → Prop) (mc ms : Nat) (free : Addr → Prop) : Pt → Array Value → Addr → Pt → Prop := fun A a q B =>
  ∃ (g : JFrame) (mk : MethodId) (t : State) (L : List Loc) (E : String) (ce : Cell), B.U.heap = t.heap ∧ B.U.vm = t.vm ∧ XC E (A.U.calling g mk a) t ∧ t.heap[q]? = some ce ∧ ce.vm = .none ∧ A.U.vm.findClass E = some ce.cls ∧ B.locs = A.locs ++ L ∧ (∀ z ∈ L, free z.base) ∧ B.cells = A.cells + mc ∧ B.slots = A.slots + ms
def vx_Back (l : Launch) (R : Room) (p : Program) (e : Env) (below : List Frame) (s : State) (sargs : Array Value) (y : MethodName) (len W9 : Nat)
    (Pre : Pt → Array Value → Prop) (Post : Pt → Array Value → Option Value → Pt → Prop) (PostX : Pt → Array Value → Addr → Pt → Prop) : Prop :=
  ∀ (m : MethodId) (meth : Method) (c : Code) (A : Pt) (g : JFrame) (ig : Instr) (mk : MethodId) (a : Array Value),
    Stand p l e R s m sargs below meth c A.U A.locs A.cells A.slots → g.method = m → g.locals.size = c.maxLocals → decode c.code g.pc = .ok (ig, len) →
    2 * g.monitorRoom + (g.stack.map fun v => v.category).sum ≤ W9 → A.U.methodNamed? y = some mk → Pre A a →
    (∃ (v : Option Value) (B : Pt), Stand p l e R s m sargs below meth c B.U B.locs B.cells B.slots ∧ Post A a v B ∧
      Steps p.tables e below (doInvoke e (A.U.setTop g) [] mk a).1 (B.U.setTop { g with pc := g.pc + len, stack := v.toList ++ g.stack })) ∨
    (∃ (q : Addr) (B : Pt), Stand p l e R s m sargs below meth c B.U B.locs B.cells B.slots ∧ PostX A a q B ∧
      Steps p.tables e below (doInvoke e (A.U.setTop g) [] mk a).1 ((B.U.setTop g).pushFrame (.throwing q)))
section Payer
variable {l : Launch} {R : Room} {p : Program} {e : Env} {below : List Frame} {s : State} {sargs : Array Value} {y : MethodName} {len W9 : Nat}
theorem vx_back {ws : List Cond} {rm : Room} {Pc : Array Value → State → Prop} {Qc : Array Value → State → Outcome → State → Prop} {XC : String → State → State → Prop} {mc ms : Nat} {free : Addr → Prop} {bytes : ByteArray} {maxL : Nat} {ret : Option FieldType}
    (hM : vx_Met l y ws rm Pc Qc XC mc ms free) (hblind : FrameBlind Pc) (hrc : rm.cells = mc) (hrs : rm.slots = ms)
    (hframes : rm.frames + 1 ≤ R.frames) (hlocals : W9 + (maxL + 11) + rm.locals ≤ R.locals)
    (hws : ∀ w ∈ ws, ∀ a' U, s.WarmedH U.vm → w.before a' U = true) (hcode : Cond.code y bytes maxL ret ∈ ws) (hinit : ∀ a' U, s.WarmedH U.vm → (Cond.initialized y.cls).before a' U = true) :
    vx_Back l R p e below s sargs y len W9 (PreOf R mc ms Pc) (PostOf Qc mc ms free) (vx_Post XC mc ms free) := by
  intro m meth c A g ig mk a X hg hsize hdg hW hn hp
  have h1 : (headSpec ws rm).pre.before a A.U = true := atoms_intro fun w hw => hws w hw _ _ X.warmed
  have h2 : (Cond.code y bytes maxL ret).before a A.U = true := hws _ hcode _ _ X.warmed
  have h3 : (Cond.initialized y.cls).before a A.U = true := hinit _ _ X.warmed
  have h4 : A.cells + (headSpec ws rm).room.cells ≤ R.cells := by rw [show (headSpec ws rm).room.cells = mc from hrc]; exact hp.1
  have h5 : A.slots + (headSpec ws rm).room.slots ≤ R.slots := by rw [show (headSpec ws rm).room.slots = ms from hrs]; exact hp.2.1
  have hPc : Pc a (A.U.calling g mk a) := hblind _ _ _ _ hp.2.2
  obtain ⟨U, Ls, c0, s0⟩ := A
  dsimp only [Pt.U, Pt.locs, Pt.cells, Pt.slots] at h1 h2 h3 h4 h5 X hn hPc ⊢
  obtain ⟨methY, cY, hmY, hcY, -, hlY, -, -, -, -⟩ := Cond.code_spec hn h2
  obtain ⟨kY, hkY, -⟩ := className_of_methodNamed hn
  have hinitY : kY.init = .initialized := Cond.initialized_spec (findClass_of_methodNamed hn) hkY h3
  have h : At U g.method c below := by rw [hg]; exact X.here
  have hlocals9 : W9 + (maxL + 11) + (headSpec ws rm).room.locals ≤ R.locals := hlocals
  have happ : (headSpec ws rm).appliesLoose y e.platform (U.calling g mk a) = true :=
    Spec.appliesLoose_calling (g := g) h hdg hn hkY hinitY
      (X.room_calling (g := g) (R' := (headSpec ws rm).room) hsize hmY hcY hframes (by rw [hlY]; omega) h4 h5) h1
  obtain ⟨mid, hmid⟩ := h.above
  have hfr : (U.setTop g).frames = (.java g :: mid) ++ below := by rw [State.frames_setTop' g h.top, hmid]; rfl
  obtain ⟨o, s₂, hsteps, -, hend, hq⟩ := Steps.callFree hM p X.admits X.cas X.clock (acts := []) hfr happ hPc trivial
  have hq' : vx_Q Qc XC mc ms free a (U.calling g mk a) o s₂ := hq
  rw [State.frames_setTop' g h.top] at hend
  obtain ⟨g₀, hg0⟩ := Option.isSome_iff_exists.mp h.top
  obtain ⟨r, hr⟩ := State.topJava?_eq_some.mp hg0
  have hr' : (({ U with heap := s₂.heap, slotsUsed := s₂.slotsUsed } : State).setVm s₂.vm).frames = .java g₀ :: r := hr
  rcases hq' with ⟨hqc, L, hfe, hL⟩ | ⟨q, rfl, E, ce, L, hx, hce, hcv, hcl, hW₂, hsm, hL⟩
  · obtain ⟨⟨v, rfl⟩, hW₂, e2, q2, q3, q4, q5, q6⟩ := id hfe
    have e3 : s₂ = ({ (U.calling g mk a).setFrames s₂.frames with heap := s₂.heap, slotsUsed := s₂.slotsUsed } : State).setVm s₂.vm := by
      have : s₂ = ({ s₂ with vm := (U.calling g mk a).vm } : State).setVm s₂.vm := rfl
      rw [e2] at this
      exact this
    obtain ⟨c₂, i₂, len₂, hc₂, hd₂, hf₂⟩ := hend
    have hW' : U.WarmedH s₂.vm := hW₂
    have hcc : c₂ = c := by
      have h1 : s₂.code? g.method = U.code? g.method := by
        rw [State.code?_eq, State.code?_eq, hW'.alike.method?]
      exact Option.some.inj (hc₂.symm.trans (h1.trans h.code))
    subst hcc
    have hlen : len₂ = len := by rw [hdg] at hd₂; cases hd₂; rfl
    subst hlen
    have hs₂ : s₂ = (({ U with heap := s₂.heap, slotsUsed := s₂.slotsUsed } : State).setVm s₂.vm).setTop { g with pc := g.pc + len₂, stack := v.toList ++ g.stack } := by
      refine e3.trans ?_
      rw [hf₂, State.calling_eq h.top, State.setFrames_setFrames, State.setTop_of_frames _ hr', hr]
      rfl
    have hsame : U.sameButNew ({ U with heap := s₂.heap, slotsUsed := s₂.slotsUsed } : State) L mc ms := by
      refine ⟨?_, q2, q3, q4, q5, q6⟩
      obtain ⟨t, ht, -⟩ := State.frames_cons hr
      show ({ U with heap := s₂.heap, slotsUsed := s₂.slotsUsed } : State) = { U.setFrames U.frames with heap := s₂.heap, slotsUsed := s₂.slotsUsed }
      rw [State.setFrames_self ht]
    subst hg
    refine Or.inl ⟨v, ⟨(({ U with heap := s₂.heap, slotsUsed := s₂.slotsUsed } : State).setVm s₂.vm), Ls ++ L, c0 + mc, s0 + ms⟩,
      ⟨X.admits, X.cas, X.clock, X.frames, X.room, X.hears, X.method, X.code, (X.here.setHeapUsed s₂.heap s₂.slotsUsed).setVm hW'.alike, X.tail, State.WarmedH.trans X.warmed hW', X.limits, X.bytes, X.same.trans (hsame.setVm s.vm)⟩,
      ⟨g, mk, s₂, L, rfl, rfl, hqc, rfl, hL, rfl, rfl⟩, ?_⟩
    show Steps p.tables e below _ ((({ U with heap := s₂.heap, slotsUsed := s₂.slotsUsed } : State).setVm s₂.vm).setTop { g with pc := g.pc + len₂, stack := v.toList ++ g.stack })
    rw [← hs₂]
    exact hsteps
  · obtain ⟨e2, q2, q3, q4, q5, q6⟩ := id hsm
    have e3 : s₂ = ({ (U.calling g mk a).setFrames s₂.frames with heap := s₂.heap, slotsUsed := s₂.slotsUsed } : State).setVm s₂.vm := by
      have : s₂ = ({ s₂ with vm := (U.calling g mk a).vm } : State).setVm s₂.vm := rfl
      rw [e2] at this
      exact this
    have hf₂ : s₂.frames = .throwing q :: .java g :: U.frames.tail := hend
    have hW' : U.WarmedH s₂.vm := hW₂
    have hs₂ : s₂ = ((({ U with heap := s₂.heap, slotsUsed := s₂.slotsUsed } : State).setVm s₂.vm).setTop g).pushFrame (.throwing q) := by
      refine e3.trans ?_
      rw [hf₂, State.calling_eq h.top, State.setFrames_setFrames, State.pushFrame, State.frames_setTop _ hr', State.setTop_of_frames _ hr', State.setFrames_setFrames, hr]
      rfl
    have hsame : U.sameButNew ({ U with heap := s₂.heap, slotsUsed := s₂.slotsUsed } : State) L mc ms := by
      refine ⟨?_, q2, q3, q4, q5, q6⟩
      obtain ⟨t, ht, -⟩ := State.frames_cons hr
      show ({ U with heap := s₂.heap, slotsUsed := s₂.slotsUsed } : State) = { U.setFrames U.frames with heap := s₂.heap, slotsUsed := s₂.slotsUsed }
      rw [State.setFrames_self ht]
    subst hg
    refine Or.inr ⟨q, ⟨(({ U with heap := s₂.heap, slotsUsed := s₂.slotsUsed } : State).setVm s₂.vm), Ls ++ L, c0 + mc, s0 + ms⟩,
      ⟨X.admits, X.cas, X.clock, X.frames, X.room, X.hears, X.method, X.code, (X.here.setHeapUsed s₂.heap s₂.slotsUsed).setVm hW'.alike, X.tail, State.WarmedH.trans X.warmed hW', X.limits, X.bytes, X.same.trans (hsame.setVm s.vm)⟩,
      ⟨g, mk, s₂, L, E, ce, rfl, rfl, hx, hce, hcv, hcl, rfl, hL, rfl, rfl⟩, ?_⟩
    show Steps p.tables e below _ (((({ U with heap := s₂.heap, slotsUsed := s₂.slotsUsed } : State).setVm s₂.vm).setTop g).pushFrame (.throwing q))
    rw [← hs₂]
    exact hsteps
end Payer
section Calls
variable {p : Program} {l : Launch} {e : Env} {R : Room} {s : State} {m : MethodId} {args : Array Value} {below : List Frame} {meth : Method} {c : Code} {T : State} {locs : List Loc} {cells slots : Nat}
theorem vx_callV (X : Stand p l e R s m args below meth c T locs cells slots) (hexec : p.tables.exec = Jvm.exec) {own C : String} {index : Nat} {y : MethodName} {bytes : ByteArray} {maxL : Nat} {ret : Option FieldType}
    (hown : s.vm.findClass own = some m.cls) (hlink : (Cond.methodLink own index y).before args s = true) (hinst : (Cond.instanceMethod y).before args s = true) (hsel : (Cond.selects C y y).before args s = true)
    (hcode : (Cond.code y bytes maxL ret).before args s = true) (hy : y.cls ≠ "java/lang/invoke/MethodHandle" ∧ y.cls ≠ "java/lang/invoke/VarHandle")
    {W9 : Nat} {Pre : Pt → Array Value → Prop} {Post : Pt → Array Value → Option Value → Pt → Prop} {PostX : Pt → Array Value → Addr → Pt → Prop} (hK : vx_Back l R p e below s args y 3 W9 Pre Post PostX)
    {b : Addr} {cellB : Cell} (hcell : T.heap[b]? = some cellB) (hobj : cellB.vm.isStatics = false) (hcls : s.vm.findClass C = some cellB.cls)
    {g : JFrame} (hg : g.method = m) (hsize : g.locals.size = c.maxLocals) {argsL rest : List Value} (hlen : ∀ sig, parseMethodDescriptor y.desc = some sig → argsL.length = sig.parameters.length)
    (hstack : g.stack = argsL.reverse ++ .ref b :: rest) (hW : 2 * g.monitorRoom + (rest.map fun v => v.category).sum ≤ W9) (hdg : decode c.code g.pc = .ok (.invokevirtual index, 3))
    (hpre : ∀ vm₁, s.WarmedH vm₁ → Pre ⟨T.setVm vm₁, locs, cells, slots⟩ (Value.ref b :: argsL).toArray) :
    (∃ (v : Option Value) (vm₁ : Vm) (B : Pt), s.WarmedH vm₁ ∧ Stand p l e R s m args below meth c B.U B.locs B.cells B.slots ∧ Post ⟨T.setVm vm₁, locs, cells, slots⟩ (Value.ref b :: argsL).toArray v B ∧
      ∀ target, Steps p.tables e below (B.U.setTop { g with pc := g.pc + 3, stack := v.toList ++ rest }) target → Steps p.tables e below (T.setTop g) target) ∨
    (∃ (q : Addr) (vm₁ : Vm) (B : Pt), s.WarmedH vm₁ ∧ Stand p l e R s m args below meth c B.U B.locs B.cells B.slots ∧ PostX ⟨T.setVm vm₁, locs, cells, slots⟩ (Value.ref b :: argsL).toArray q B ∧
      Steps p.tables e below (T.setTop g) ((B.U.setTop { g with stack := rest }).pushFrame (.throwing q))) := by
  obtain ⟨mk, methM, hnamed, hmethM, hstM, habM⟩ := Cond.instanceMethod_spec hinst
  obtain ⟨methM', cM, hmethM', -, -, -, -, -, -, hsigM⟩ := Cond.code_spec hnamed hcode
  cases hmethM.symm.trans hmethM'
  obtain ⟨c2, r2, m2, q1, q2, q3, q4, kP, hkP, hkPi⟩ := Cond.selects_spec hsel
  cases hcls.symm.trans q1
  cases (State.methodFound?_of_named hnamed hy).symm.trans q2
  cases hnamed.symm.trans q3
  have hselP : selectMethod e.platform s.vm cellB.cls mk = .method mk := by rw [Launch.admits_selectMethod X.admits]; exact q4
  obtain ⟨vm₁, X₁, hstep₁⟩ := X.invokevirtual hexec hown hlink hnamed hmethM hstM hkP hkPi hy (a := b) (cell := cellB) hcell
    (fun z h => by rw [h] at hobj; cases hobj) hselP hmethM habM hkP hkPi (g := g) hg (argsL := argsL) (rest := rest) (hlen _ hsigM) hstack hdg
  rcases hK m meth c ⟨T.setVm vm₁, locs, cells, slots⟩ { g with stack := rest } (.invokevirtual index) mk (Value.ref b :: argsL).toArray X₁ hg hsize hdg hW (X₁.named hnamed) (hpre vm₁ X₁.warmed) with ⟨v, B, X', hpost, hsteps⟩ | ⟨q, B, X', hpost, hsteps⟩
  · exact Or.inl ⟨v, vm₁, B, X₁.warmed, X', hpost, fun target h => hstep₁ _ fun acts => by rw [doInvoke_state]; exact hsteps.trans h⟩
  · exact Or.inr ⟨q, vm₁, B, X₁.warmed, X', hpost, hstep₁ _ fun acts => by rw [doInvoke_state]; exact hsteps⟩
theorem vx_callS (X : Stand p l e R s m args below meth c T locs cells slots) (hexec : p.tables.exec = Jvm.exec) {own : String} {index : Nat} {y : MethodName} {bytes : ByteArray} {maxL : Nat} {ret : Option FieldType}
    (hown : s.vm.findClass own = some m.cls) (hlink : (Cond.methodLink own index y).before args s = true) (hstat : (Cond.static y).before args s = true) (hinit : (Cond.initialized y.cls).before args s = true)
    (hcode : (Cond.code y bytes maxL ret).before args s = true) (hy : y.cls ≠ "java/lang/invoke/MethodHandle" ∧ y.cls ≠ "java/lang/invoke/VarHandle")
    {W9 : Nat} {Pre : Pt → Array Value → Prop} {Post : Pt → Array Value → Option Value → Pt → Prop} {PostX : Pt → Array Value → Addr → Pt → Prop} (hK : vx_Back l R p e below s args y 3 W9 Pre Post PostX)
    {g : JFrame} (hg : g.method = m) (hsize : g.locals.size = c.maxLocals) {argsL rest : List Value} (hlen : ∀ sig, parseMethodDescriptor y.desc = some sig → argsL.length = sig.parameters.length)
    (hstack : g.stack = argsL.reverse ++ rest) (hW : 2 * g.monitorRoom + (rest.map fun v => v.category).sum ≤ W9) (hdg : decode c.code g.pc = .ok (.invokestatic index, 3))
    (hpre : ∀ vm₁, s.WarmedH vm₁ → Pre ⟨T.setVm vm₁, locs, cells, slots⟩ argsL.toArray) :
    (∃ (v : Option Value) (vm₁ : Vm) (B : Pt), s.WarmedH vm₁ ∧ Stand p l e R s m args below meth c B.U B.locs B.cells B.slots ∧ Post ⟨T.setVm vm₁, locs, cells, slots⟩ argsL.toArray v B ∧
      ∀ target, Steps p.tables e below (B.U.setTop { g with pc := g.pc + 3, stack := v.toList ++ rest }) target → Steps p.tables e below (T.setTop g) target) ∨
    (∃ (q : Addr) (vm₁ : Vm) (B : Pt), s.WarmedH vm₁ ∧ Stand p l e R s m args below meth c B.U B.locs B.cells B.slots ∧ PostX ⟨T.setVm vm₁, locs, cells, slots⟩ argsL.toArray q B ∧
      Steps p.tables e below (T.setTop g) ((B.U.setTop { g with stack := rest }).pushFrame (.throwing q))) := by
  obtain ⟨mk, hnamed⟩ := Cond.code_named hcode
  obtain ⟨methM, cM, hmethM, -, -, -, -, -, -, hsigM⟩ := Cond.code_spec hnamed hcode
  have hstatic : methM.isStatic = true := Cond.static_spec hnamed hmethM hstat
  obtain ⟨kP, hkP, -⟩ := className_of_methodNamed hnamed
  have hinitP : kP.init = .initialized := Cond.initialized_spec (findClass_of_methodNamed hnamed) hkP hinit
  obtain ⟨vm₁, X₁, hstep₁⟩ := X.invokestatic hexec hown hlink hnamed hmethM hstatic hkP hinitP hy (g := g) hg (argsL := argsL) (rest := rest) (hlen _ hsigM) hstack hdg
  rcases hK m meth c ⟨T.setVm vm₁, locs, cells, slots⟩ { g with stack := rest } (.invokestatic index) mk argsL.toArray X₁ hg hsize hdg hW (X₁.named hnamed) (hpre vm₁ X₁.warmed) with ⟨v, B, X', hpost, hsteps⟩ | ⟨q, B, X', hpost, hsteps⟩
  · exact Or.inl ⟨v, vm₁, B, X₁.warmed, X', hpost, fun target h => hstep₁ _ fun acts => by rw [doInvoke_state]; exact hsteps.trans h⟩
  · exact Or.inr ⟨q, vm₁, B, X₁.warmed, X', hpost, hstep₁ _ fun acts => by rw [doInvoke_state]; exact hsteps⟩
end Calls
theorem vx_cls {s : State} {T : State} {vm₁ : Vm} {E : String} {k : ClassId} (hW : s.WarmedH vm₁) (h : (T.setVm vm₁).vm.findClass E = some k) : s.vm.findClass E = some k := by
  have h1 : vm₁.findClass E = some k := h
  rw [hW.alike.findClass] at h1
  exact h1
/-- the method's frame g, with q thrown over it -/
def vx_W (p : Program) (l : Launch) (e : Env) (R : Room) (s : State) (m : MethodId) (args : Array Value) (below : List Frame) (meth : Method) (c : Code) (H : Heap) (locs : List Loc) (cells slots : Nat) (Q : State → Prop) (g : JFrame) (q : Addr) : Prop :=
  ∀ T : State, T.heap = H → Stand p l e R s m args below meth c T locs cells slots → ∃ t, Steps p.tables e below ((T.setTop g).pushFrame (.throwing q)) t ∧ Q t
def vx_Run (p : Program) (l : Launch) (e : Env) (R : Room) (s : State) (m : MethodId) (args : Array Value) (below : List Frame) (meth : Method) (c : Code) (H : Heap) (locs : List Loc) (cells slots mc ms : Nat) (g : JFrame) (rest : List Value) (Qa : State → Outcome → State → Prop) (XC : String → State → State → Prop) (free : Addr → Prop) : Prop :=
  ∀ T : State, T.heap = H → Stand p l e R s m args below meth c T locs cells slots →
    (∃ (v : Option Value) (st₀ t T' : State) (L : List Loc), st₀.heap = H ∧ Stand p l e R s m args below meth c T' (locs ++ L) (cells + mc) (slots + ms) ∧ (∀ q ∈ L, free q.base) ∧ T'.heap = t.heap ∧ T'.vm = t.vm ∧ Qa st₀ (.returned v) t ∧
      Goes p e below T g T' { g with pc := g.pc + 3, stack := v.toList ++ rest }) ∨
    (∃ (q : Addr) (st₀ t T' : State) (L : List Loc) (E : String) (ce : Cell), st₀.heap = H ∧ Stand p l e R s m args below meth c T' (locs ++ L) (cells + mc) (slots + ms) ∧ (∀ z ∈ L, free z.base) ∧ T'.heap = t.heap ∧ T'.vm = t.vm ∧ XC E st₀ t ∧ t.heap[q]? = some ce ∧ ce.vm = .none ∧ s.vm.findClass E = some ce.cls ∧
      Steps p.tables e below (T.setTop g) ((T'.setTop { g with stack := rest }).pushFrame (.throwing q)))
def vx_X {S : Type} (px : S → Prop) (B : String → S → State → Prop) (A : Nat → Prop) : String → State → State → Prop := fun E st t => ∃ u : S, px u ∧ B E u t ∧ va_F A st t
section Runs
variable {p : Program} {l : Launch} {e : Env} {R : Room} {s : State} {m : MethodId} {args : Array Value} {below : List Frame} {meth : Method} {c : Code} {H : Heap} {locs : List Loc} {cells slots : Nat}
variable {y : MethodName} {bytes cc : ByteArray} {maxL nL mc ms n index : Nat} {ret : Option FieldType} {ws : List Cond} {rm : Room} {Pc : Array Value → State → Prop} {Qc : Array Value → State → Outcome → State → Prop} {XC : String → State → State → Prop} {free : Addr → Prop} {Ts : List Cond} {own C : String} {b : Addr} {As rest : List Value} {g : JFrame}
theorem vx_callBack (cb : CallB R s args own index y bytes maxL ret ws rm mc ms n) (hM : vx_Met l y ws rm Pc Qc XC mc ms free) (hbl : FrameBlind Pc) : vx_Back l R p e below s args y 3 8 (PreOf R mc ms Pc) (PostOf Qc mc ms free) (vx_Post XC mc ms free) := by
  obtain ⟨hrc, hrs, hfr, hlo, hws, hcw, -, hini, -⟩ := cb
  exact vx_back (bytes := bytes) (maxL := maxL) (ret := ret) hM hbl hrc hrs hfr hlo hws hcw (fun a' U hW => word_at hW (Or.inl (by first | rfl | simp [Cond.onTables, Cond.keeps, Cond.steady])) hini)
theorem vx_runV (S : CallFix p m c cc nL s args Ts own) (hM : vx_Met l y ws rm Pc Qc XC mc ms free) (cw : CallW R s args own C index y bytes maxL ret ws rm mc ms n) (hp : PreV s H C b Pc As)
    (hg : g.method = m) (hn : As.length = n) (hsize : g.locals.size = nL) (hstack : g.stack = As.reverse ++ .ref b :: rest) (hW : 2 * g.monitorRoom + (rest.map fun v => v.category).sum ≤ 8) (hdg : decode cc g.pc = .ok (.invokevirtual index, 3)) (hf : cells + mc ≤ R.cells ∧ slots + ms ≤ R.slots) :
    vx_Run p l e R s m args below meth c H locs cells slots mc ms g rest (Qc (Value.ref b :: As).toArray) XC free := by
  have hK : vx_Back l R p e below s args y 3 8 (PreOf R mc ms Pc) (PostOf Qc mc ms free) (vx_Post XC mc ms free) := vx_callBack cw.1 hM hp.1
  obtain ⟨⟨-, -, -, -, -, -, hcode, -, hy, hlen, hl⟩, hin, hse⟩ := cw
  obtain ⟨hx, hb, hml, ho, -⟩ := S
  obtain ⟨-, ⟨cellB, hcB, hoB, hclB⟩, hPc⟩ := hp
  intro T hT X
  rcases vx_callV X hx (C := C) (bytes := bytes) (maxL := maxL) (ret := ret) ho hl hin hse hcode hy hK (by rw [hT]; exact hcB) hoB hclB hg (hsize.trans hml.symm) (argsL := As) (rest := rest) (fun sig h => hn.trans (hlen sig h)) hstack hW (by rw [hb]; exact hdg)
    (fun vm₁ hW₁ => ⟨hf.1, hf.2, hPc (T.setVm vm₁) hT hW₁⟩) with ⟨v, vm₁, ⟨U', l2, c2, s2⟩, hW₁, X', ⟨g', mk, t, L, e1, e2, hq, h1, hL, h2, h3⟩, st⟩ | ⟨q, vm₁, ⟨U', l2, c2, s2⟩, hW₁, X', ⟨g', mk, t, L, E, ce, e1, e2, hq, hce, hcv, hcl, h1, hL, h2, h3⟩, st⟩
  · dsimp only [Pt.U, Pt.locs, Pt.cells, Pt.slots] at X' e1 e2 h1 h2 h3 st
    subst h1; subst h2; subst h3
    exact Or.inl ⟨v, (T.setVm vm₁).calling g' mk (Value.ref b :: As).toArray, t, U', L, hT, X', hL, e1, e2, hq, st⟩
  · dsimp only [Pt.U, Pt.locs, Pt.cells, Pt.slots] at X' e1 e2 h1 h2 h3 st hcl
    subst h1; subst h2; subst h3
    exact Or.inr ⟨q, (T.setVm vm₁).calling g' mk (Value.ref b :: As).toArray, t, U', L, E, ce, hT, X', hL, e1, e2, hq, hce, hcv, vx_cls hW₁ hcl, st⟩
theorem vx_runS (S : CallFix p m c cc nL s args Ts own) (hM : vx_Met l y ws rm Pc Qc XC mc ms free) (cw : CallB R s args own index y bytes maxL ret ws rm mc ms n ∧ (Cond.static y).before args s = true) (hp : PreS s H Pc As)
    (hg : g.method = m) (hn : As.length = n) (hsize : g.locals.size = nL) (hstack : g.stack = As.reverse ++ rest) (hW : 2 * g.monitorRoom + (rest.map fun v => v.category).sum ≤ 8) (hdg : decode cc g.pc = .ok (.invokestatic index, 3)) (hf : cells + mc ≤ R.cells ∧ slots + ms ≤ R.slots) :
    vx_Run p l e R s m args below meth c H locs cells slots mc ms g rest (Qc As.toArray) XC free := by
  have hK : vx_Back l R p e below s args y 3 8 (PreOf R mc ms Pc) (PostOf Qc mc ms free) (vx_Post XC mc ms free) := vx_callBack cw.1 hM hp.1
  obtain ⟨⟨-, -, -, -, -, -, hcode, hini, hy, hlen, hl⟩, hstt⟩ := cw
  obtain ⟨hx, hb, hml, ho, -⟩ := S
  intro T hT X
  rcases vx_callS X hx (bytes := bytes) (maxL := maxL) (ret := ret) ho hl hstt hini hcode hy hK hg (hsize.trans hml.symm) (argsL := As) (rest := rest) (fun sig h => hn.trans (hlen sig h)) hstack hW (by rw [hb]; exact hdg)
    (fun vm₁ hW₁ => ⟨hf.1, hf.2, hp.2 (T.setVm vm₁) hT hW₁⟩) with ⟨v, vm₁, ⟨U', l2, c2, s2⟩, hW₁, X', ⟨g', mk, t, L, e1, e2, hq, h1, hL, h2, h3⟩, st⟩ | ⟨q, vm₁, ⟨U', l2, c2, s2⟩, hW₁, X', ⟨g', mk, t, L, E, ce, e1, e2, hq, hce, hcv, hcl, h1, hL, h2, h3⟩, st⟩
  · dsimp only [Pt.U, Pt.locs, Pt.cells, Pt.slots] at X' e1 e2 h1 h2 h3 st
    subst h1; subst h2; subst h3
    exact Or.inl ⟨v, (T.setVm vm₁).calling g' mk As.toArray, t, U', L, hT, X', hL, e1, e2, hq, st⟩
  · dsimp only [Pt.U, Pt.locs, Pt.cells, Pt.slots] at X' e1 e2 h1 h2 h3 st hcl
    subst h1; subst h2; subst h3
    exact Or.inr ⟨q, (T.setVm vm₁).calling g' mk As.toArray, t, U', L, E, ce, hT, X', hL, e1, e2, hq, hce, hcv, vx_cls hW₁ hcl, st⟩
end Runs
section Rows
variable {p : Program} {l : Launch} {e : Env} {R : Room} {s : State} {m : MethodId} {args : Array Value} {below : List Frame} {meth : Method} {c : Code} {H : Heap} {locs : List Loc} {cells slots : Nat} {Q : State → Prop}
variable {mc ms : Nat} {free : Addr → Prop} {A0 A1 : Nat → Prop} {H0 : Heap} {a : Array Value} {pc : Nat} {ls : Array Slot} {st0 rest : List Value}
theorem vx_keep {st₀ t T' : State} {L : List Loc} (h0 : st₀.heap = H) (e1 : T'.heap = t.heap) (hS : va_S A0 H0 H locs) (hA : ∀ q, q < H.size → A1 q → A0 q) (hf : ∀ q, free q → A0 q) (hL : ∀ q ∈ L, free q.base) (hF : va_F A1 st₀ t) :
    H.size ≤ T'.heap.size ∧ (∀ q : Nat, q < H.size → ¬ A1 q → T'.heap[q]? = H[q]?) ∧ va_S A0 H0 T'.heap (locs ++ L) := by
  obtain ⟨hz, hk⟩ := hF
  rw [h0] at hz hk
  exact ⟨by rw [e1]; exact hz, fun q h1 h2 => by rw [e1]; exact hk q h1 h2,
    ⟨Nat.le_trans hS.1 (by rw [e1]; exact hz), fun q h1 h2 => by rw [e1, hk q (Nat.lt_of_lt_of_le h1 hS.1) (fun z => h2 (hA q (Nat.lt_of_lt_of_le h1 hS.1) z))]; exact hS.2.1 q h1 h2, fun q hq => by
      rcases List.mem_append.mp hq with h | h
      · exact hS.2.2 q h
      · exact hf _ (hL q h)⟩⟩
theorem vx_calli {S SX : Type} {post : Int32 → S → Prop} {px : SX → Prop} {B : S → State → Prop} {BX : String → SX → State → Prop} {AX : Nat → Prop} (hr : vx_Run p l e R s m args below meth c H locs cells slots mc ms (F0 m pc ls st0) rest (va_Qi post B A1 a) (vx_X px BX AX) free) (hS : va_S A0 H0 H locs) (hA : ∀ q, q < H.size → A1 q → A0 q) (hf : ∀ q, free q → A0 q) (hAX : ∀ q, q < H.size → AX q → A0 q)
    (kx : ∀ (E : String) (ce : Cell) (q9 : Addr) (u : SX) (t : State) (H1 : Heap) (locs1 : List Loc), t.heap = H1 → s.vm.Alike t.vm → px u → BX E u t → H.size ≤ H1.size → (∀ q : Nat, q < H.size → ¬ AX q → H1[q]? = H[q]?) → va_S A0 H0 H1 locs1 → H1[q9]? = some ce → ce.vm = .none → s.vm.findClass E = some ce.cls → vx_W p l e R s m args below meth c H1 locs1 (cells + mc) (slots + ms) Q (F0 m pc ls rest) q9)
    (kk : ∀ (r : Int32) (u : S) (t : State) (H1 : Heap) (locs1 : List Loc), t.heap = H1 → s.vm.Alike t.vm → post r u → B u t → H.size ≤ H1.size → (∀ q : Nat, q < H.size → ¬ A1 q → H1[q]? = H[q]?) → va_S A0 H0 H1 locs1 → W p l e R s m args below meth c H1 locs1 (cells + mc) (slots + ms) Q (F0 m (pc + 3) ls (.int r :: rest))) : W p l e R s m args below meth c H locs cells slots Q (F0 m pc ls st0) := by
  intro T hT X
  rcases hr T hT X with ⟨v, st₀, t, T', L, h0, X', hL, e1, e2, ⟨⟨r, u, hv, hp, hb⟩, hF⟩, st⟩ | ⟨q, st₀, t, T', L, E, ce, h0, X', hL, e1, e2, ⟨u, hp, hb, hF⟩, hce, hcv, hcl, st⟩
  · cases hv
    obtain ⟨k1, k2, k3⟩ := vx_keep h0 e1 hS hA hf hL hF
    obtain ⟨t2, a1, b1⟩ := kk r u t T'.heap (locs ++ L) e1.symm (by rw [← e2]; exact X'.warmed.alike) hp hb k1 k2 k3 T' rfl X'
    exact ⟨t2, st t2 a1, b1⟩
  · obtain ⟨k1, k2, k3⟩ := vx_keep h0 e1 hS hAX hf hL hF
    obtain ⟨t2, a1, b1⟩ := kx E ce q u t T'.heap (locs ++ L) e1.symm (by rw [← e2]; exact X'.warmed.alike) hp hb k1 k2 k3 (by rw [e1]; exact hce) hcv hcl T' rfl X'
    exact ⟨t2, st.trans a1, b1⟩
theorem vx_calll {S SX : Type} {post : Int64 → S → Prop} {px : SX → Prop} {B : S → State → Prop} {BX : String → SX → State → Prop} {AX : Nat → Prop} (hr : vx_Run p l e R s m args below meth c H locs cells slots mc ms (F0 m pc ls st0) rest (va_Ql post B A1 a) (vx_X px BX AX) free) (hS : va_S A0 H0 H locs) (hA : ∀ q, q < H.size → A1 q → A0 q) (hf : ∀ q, free q → A0 q) (hAX : ∀ q, q < H.size → AX q → A0 q)
    (kx : ∀ (E : String) (ce : Cell) (q9 : Addr) (u : SX) (t : State) (H1 : Heap) (locs1 : List Loc), t.heap = H1 → s.vm.Alike t.vm → px u → BX E u t → H.size ≤ H1.size → (∀ q : Nat, q < H.size → ¬ AX q → H1[q]? = H[q]?) → va_S A0 H0 H1 locs1 → H1[q9]? = some ce → ce.vm = .none → s.vm.findClass E = some ce.cls → vx_W p l e R s m args below meth c H1 locs1 (cells + mc) (slots + ms) Q (F0 m pc ls rest) q9)
    (kk : ∀ (r : Int64) (u : S) (t : State) (H1 : Heap) (locs1 : List Loc), t.heap = H1 → s.vm.Alike t.vm → post r u → B u t → H.size ≤ H1.size → (∀ q : Nat, q < H.size → ¬ A1 q → H1[q]? = H[q]?) → va_S A0 H0 H1 locs1 → W p l e R s m args below meth c H1 locs1 (cells + mc) (slots + ms) Q (F0 m (pc + 3) ls (.long r :: rest))) : W p l e R s m args below meth c H locs cells slots Q (F0 m pc ls st0) := by
  intro T hT X
  rcases hr T hT X with ⟨v, st₀, t, T', L, h0, X', hL, e1, e2, ⟨⟨r, u, hv, hp, hb⟩, hF⟩, st⟩ | ⟨q, st₀, t, T', L, E, ce, h0, X', hL, e1, e2, ⟨u, hp, hb, hF⟩, hce, hcv, hcl, st⟩
  · cases hv
    obtain ⟨k1, k2, k3⟩ := vx_keep h0 e1 hS hA hf hL hF
    obtain ⟨t2, a1, b1⟩ := kk r u t T'.heap (locs ++ L) e1.symm (by rw [← e2]; exact X'.warmed.alike) hp hb k1 k2 k3 T' rfl X'
    exact ⟨t2, st t2 a1, b1⟩
  · obtain ⟨k1, k2, k3⟩ := vx_keep h0 e1 hS hAX hf hL hF
    obtain ⟨t2, a1, b1⟩ := kx E ce q u t T'.heap (locs ++ L) e1.symm (by rw [← e2]; exact X'.warmed.alike) hp hb k1 k2 k3 (by rw [e1]; exact hce) hcv hcl T' rfl X'
    exact ⟨t2, st.trans a1, b1⟩
theorem vx_callf {S SX : Type} {post : UInt32 → S → Prop} {px : SX → Prop} {B : S → State → Prop} {BX : String → SX → State → Prop} {AX : Nat → Prop} (hr : vx_Run p l e R s m args below meth c H locs cells slots mc ms (F0 m pc ls st0) rest (va_Qf post B A1 a) (vx_X px BX AX) free) (hS : va_S A0 H0 H locs) (hA : ∀ q, q < H.size → A1 q → A0 q) (hf : ∀ q, free q → A0 q) (hAX : ∀ q, q < H.size → AX q → A0 q)
    (kx : ∀ (E : String) (ce : Cell) (q9 : Addr) (u : SX) (t : State) (H1 : Heap) (locs1 : List Loc), t.heap = H1 → s.vm.Alike t.vm → px u → BX E u t → H.size ≤ H1.size → (∀ q : Nat, q < H.size → ¬ AX q → H1[q]? = H[q]?) → va_S A0 H0 H1 locs1 → H1[q9]? = some ce → ce.vm = .none → s.vm.findClass E = some ce.cls → vx_W p l e R s m args below meth c H1 locs1 (cells + mc) (slots + ms) Q (F0 m pc ls rest) q9)
    (kk : ∀ (r : UInt32) (u : S) (t : State) (H1 : Heap) (locs1 : List Loc), t.heap = H1 → s.vm.Alike t.vm → post r u → B u t → H.size ≤ H1.size → (∀ q : Nat, q < H.size → ¬ A1 q → H1[q]? = H[q]?) → va_S A0 H0 H1 locs1 → W p l e R s m args below meth c H1 locs1 (cells + mc) (slots + ms) Q (F0 m (pc + 3) ls (.float r :: rest))) : W p l e R s m args below meth c H locs cells slots Q (F0 m pc ls st0) := by
  intro T hT X
  rcases hr T hT X with ⟨v, st₀, t, T', L, h0, X', hL, e1, e2, ⟨⟨r, u, hv, hp, hb⟩, hF⟩, st⟩ | ⟨q, st₀, t, T', L, E, ce, h0, X', hL, e1, e2, ⟨u, hp, hb, hF⟩, hce, hcv, hcl, st⟩
  · cases hv
    obtain ⟨k1, k2, k3⟩ := vx_keep h0 e1 hS hA hf hL hF
    obtain ⟨t2, a1, b1⟩ := kk r u t T'.heap (locs ++ L) e1.symm (by rw [← e2]; exact X'.warmed.alike) hp hb k1 k2 k3 T' rfl X'
    exact ⟨t2, st t2 a1, b1⟩
  · obtain ⟨k1, k2, k3⟩ := vx_keep h0 e1 hS hAX hf hL hF
    obtain ⟨t2, a1, b1⟩ := kx E ce q u t T'.heap (locs ++ L) e1.symm (by rw [← e2]; exact X'.warmed.alike) hp hb k1 k2 k3 (by rw [e1]; exact hce) hcv hcl T' rfl X'
    exact ⟨t2, st.trans a1, b1⟩
theorem vx_calld {S SX : Type} {post : UInt64 → S → Prop} {px : SX → Prop} {B : S → State → Prop} {BX : String → SX → State → Prop} {AX : Nat → Prop} (hr : vx_Run p l e R s m args below meth c H locs cells slots mc ms (F0 m pc ls st0) rest (va_Qd post B A1 a) (vx_X px BX AX) free) (hS : va_S A0 H0 H locs) (hA : ∀ q, q < H.size → A1 q → A0 q) (hf : ∀ q, free q → A0 q) (hAX : ∀ q, q < H.size → AX q → A0 q)
    (kx : ∀ (E : String) (ce : Cell) (q9 : Addr) (u : SX) (t : State) (H1 : Heap) (locs1 : List Loc), t.heap = H1 → s.vm.Alike t.vm → px u → BX E u t → H.size ≤ H1.size → (∀ q : Nat, q < H.size → ¬ AX q → H1[q]? = H[q]?) → va_S A0 H0 H1 locs1 → H1[q9]? = some ce → ce.vm = .none → s.vm.findClass E = some ce.cls → vx_W p l e R s m args below meth c H1 locs1 (cells + mc) (slots + ms) Q (F0 m pc ls rest) q9)
    (kk : ∀ (r : UInt64) (u : S) (t : State) (H1 : Heap) (locs1 : List Loc), t.heap = H1 → s.vm.Alike t.vm → post r u → B u t → H.size ≤ H1.size → (∀ q : Nat, q < H.size → ¬ A1 q → H1[q]? = H[q]?) → va_S A0 H0 H1 locs1 → W p l e R s m args below meth c H1 locs1 (cells + mc) (slots + ms) Q (F0 m (pc + 3) ls (.double r :: rest))) : W p l e R s m args below meth c H locs cells slots Q (F0 m pc ls st0) := by
  intro T hT X
  rcases hr T hT X with ⟨v, st₀, t, T', L, h0, X', hL, e1, e2, ⟨⟨r, u, hv, hp, hb⟩, hF⟩, st⟩ | ⟨q, st₀, t, T', L, E, ce, h0, X', hL, e1, e2, ⟨u, hp, hb, hF⟩, hce, hcv, hcl, st⟩
  · cases hv
    obtain ⟨k1, k2, k3⟩ := vx_keep h0 e1 hS hA hf hL hF
    obtain ⟨t2, a1, b1⟩ := kk r u t T'.heap (locs ++ L) e1.symm (by rw [← e2]; exact X'.warmed.alike) hp hb k1 k2 k3 T' rfl X'
    exact ⟨t2, st t2 a1, b1⟩
  · obtain ⟨k1, k2, k3⟩ := vx_keep h0 e1 hS hAX hf hL hF
    obtain ⟨t2, a1, b1⟩ := kx E ce q u t T'.heap (locs ++ L) e1.symm (by rw [← e2]; exact X'.warmed.alike) hp hb k1 k2 k3 (by rw [e1]; exact hce) hcv hcl T' rfl X'
    exact ⟨t2, st.trans a1, b1⟩
theorem vx_callv {S SX : Type} {post : S → Prop} {px : SX → Prop} {B : S → State → Prop} {BX : String → SX → State → Prop} {AX : Nat → Prop} (hr : vx_Run p l e R s m args below meth c H locs cells slots mc ms (F0 m pc ls st0) rest (va_Qv post B A1 a) (vx_X px BX AX) free) (hS : va_S A0 H0 H locs) (hA : ∀ q, q < H.size → A1 q → A0 q) (hf : ∀ q, free q → A0 q) (hAX : ∀ q, q < H.size → AX q → A0 q)
    (kx : ∀ (E : String) (ce : Cell) (q9 : Addr) (u : SX) (t : State) (H1 : Heap) (locs1 : List Loc), t.heap = H1 → s.vm.Alike t.vm → px u → BX E u t → H.size ≤ H1.size → (∀ q : Nat, q < H.size → ¬ AX q → H1[q]? = H[q]?) → va_S A0 H0 H1 locs1 → H1[q9]? = some ce → ce.vm = .none → s.vm.findClass E = some ce.cls → vx_W p l e R s m args below meth c H1 locs1 (cells + mc) (slots + ms) Q (F0 m pc ls rest) q9)
    (kk : ∀ (u : S) (t : State) (H1 : Heap) (locs1 : List Loc), t.heap = H1 → s.vm.Alike t.vm → post u → B u t → H.size ≤ H1.size → (∀ q : Nat, q < H.size → ¬ A1 q → H1[q]? = H[q]?) → va_S A0 H0 H1 locs1 → W p l e R s m args below meth c H1 locs1 (cells + mc) (slots + ms) Q (F0 m (pc + 3) ls (rest))) : W p l e R s m args below meth c H locs cells slots Q (F0 m pc ls st0) := by
  intro T hT X
  rcases hr T hT X with ⟨v, st₀, t, T', L, h0, X', hL, e1, e2, ⟨⟨u, hv, hp, hb⟩, hF⟩, st⟩ | ⟨q, st₀, t, T', L, E, ce, h0, X', hL, e1, e2, ⟨u, hp, hb, hF⟩, hce, hcv, hcl, st⟩
  · cases hv
    obtain ⟨k1, k2, k3⟩ := vx_keep h0 e1 hS hA hf hL hF
    obtain ⟨t2, a1, b1⟩ := kk u t T'.heap (locs ++ L) e1.symm (by rw [← e2]; exact X'.warmed.alike) hp hb k1 k2 k3 T' rfl X'
    exact ⟨t2, st t2 a1, b1⟩
  · obtain ⟨k1, k2, k3⟩ := vx_keep h0 e1 hS hAX hf hL hF
    obtain ⟨t2, a1, b1⟩ := kx E ce q u t T'.heap (locs ++ L) e1.symm (by rw [← e2]; exact X'.warmed.alike) hp hb k1 k2 k3 (by rw [e1]; exact hce) hcv hcl T' rfl X'
    exact ⟨t2, st.trans a1, b1⟩
/-- caught by the row x of this method's table; the rows ahead don't take it -/
theorem vx_catch {own name : String} {E : String} {ce : Cell} {q : Addr} (hown : s.vm.findClass own = some m.cls) (pre : List ExceptionTableEntry) (x : ExceptionTableEntry) (suf : List ExceptionTableEntry) (hsplit : c.exceptionTable.toList = pre ++ x :: suf)
    (hpass : ∀ z ∈ pre, covers z pc = false ∨ (z.catchType ≠ 0 ∧ ∃ nm : String, (Cond.classLink own z.catchType nm).before args s = true ∧ va_Nc E nm s)) (hx : covers x pc = true) (h0 : x.catchType ≠ 0)
    (hlink : (Cond.classLink own x.catchType name).before args s = true) (hcast : (Cond.castable E name).before args s = true) (hcell : H[q]? = some ce) (hv : ce.vm = .none) (hcl : s.vm.findClass E = some ce.cls)
    (kk : W p l e R s m args below meth c H locs cells slots Q (F0 m x.handlerPc ls [.ref q])) : vx_W p l e R s m args below meth c H locs cells slots Q (F0 m pc ls rest) q := by
  intro T hT X
  have hpl : e.platform.magicAccessors = ({} : Platform).magicAccessors := by rw [X.admits.platform]
  obtain ⟨c3, c4, hc3, hc4, hasg⟩ := Cond.castable_spec hcast
  cases Option.some.inj (hc3.symm.trans hcl)
  obtain ⟨c5, hc5, hcl5⟩ := Cond.classLink_spec hown hlink e.platform hpl
  cases Option.some.inj (hc4.symm.trans hc5)
  obtain ⟨vm', X', st⟩ := X.thenCaughtThrough q (g := F0 m pc ls rest) rfl (Steps.refl _) (by rw [hT]; exact hcell) (by rw [hv]; rfl) (by obtain ⟨k9, h9, -⟩ := Vm.findClass_spec hcl; exact ⟨k9, h9⟩) pre x suf hsplit
    (fun z hz => by
      rcases hpass z hz with h | ⟨hz0, nm, hl1, hn1⟩
      · exact Or.inl h
      · obtain ⟨c6, hc6, hcl6⟩ := Cond.classLink_spec hown hl1 e.platform hpl
        obtain ⟨a8, b8, h1, h2, h3⟩ := hn1
        cases Option.some.inj (h1.symm.trans hcl)
        cases Option.some.inj (h2.symm.trans hc6)
        exact Or.inr ⟨hz0, _, hcl6, h3⟩) hx (Or.inr ⟨h0, c4, hcl5, hasg⟩)
  obtain ⟨t, a1, b1⟩ := kk (T.setVm vm') hT X'
  exact ⟨t, st.trans a1, b1⟩
end Rows
section Ends
variable {p : Program} {l : Launch} {e : Env} {R : Room} {s : State} {m : MethodId} {args : Array Value} {below : List Frame} {meth : Method} {c : Code} {H : Heap} {locs : List Loc} {cells slots : Nat} {Q : State → Prop}
variable {mc ms : Nat} {free : Addr → Prop} {A0 A1 : Nat → Prop} {H0 : Heap} {a : Array Value} {ls : Array Slot} {st0 rest : List Value}
variable {Qc : Array Value → State → Outcome → State → Prop} {XC : String → State → State → Prop}
/-- what a body that may throw owes at its end -/
def vx_MQ (below : List Frame) (Qc : Array Value → State → Outcome → State → Prop) (XC : String → State → State → Prop) (a : Array Value) (s : State) (mc ms : Nat) (free : Addr → Prop) : State → Prop := fun t =>
  ∃ o, t.status = .running ∧ Ended t below o ∧ vx_Q Qc XC mc ms free a s o t
theorem vx_ret {g : JFrame} {mc ms : Nat} (k : W p l e R s m args below meth c H locs cells slots (MQ below Qc args s mc ms free) g) : W p l e R s m args below meth c H locs cells slots (vx_MQ below Qc XC args s mc ms free) g := by
  intro T hT X
  obtain ⟨t, a1, o, b1, b2, b3, b4⟩ := k T hT X
  exact ⟨t, a1, o, b1, b2, Or.inl ⟨b3, b4⟩⟩
/-- not caught here: it goes on to the caller -/
theorem vx_widen {g : JFrame} {q : Addr} {k n : Nat} (h1 : cells ≤ k) (h2 : slots ≤ n) (kk : vx_W p l e R s m args below meth c H locs k n Q g q) : vx_W p l e R s m args below meth c H locs cells slots Q g q := fun T hT X => kk T hT (stand_widen X h1 h2)
theorem vx_out {pc : Nat} {E : String} {ce : Cell} {q : Addr} {mc ms : Nat} (hout : ∀ x ∈ c.exceptionTable.toList, covers x pc = false) (hlocks : meth.locks = false) (hcell : H[q]? = some ce) (hv : ce.vm = .none) (hcl : s.vm.findClass E = some ce.cls)
    (hx : ∀ t : State, t.heap = H → s.vm.Alike t.vm → XC E s t) (hf : ∀ z ∈ locs, free z.base) (hc : cells ≤ mc) (hs : slots ≤ ms) :
    vx_W p l e R s m args below meth c H locs cells slots (vx_MQ below Qc XC args s mc ms free) (F0 m pc ls rest) q := by
  intro T hT X
  obtain ⟨st1, hrun, hend, hW, hsm⟩ := X.leaveThrown q (g := F0 m pc ls rest) rfl rfl rfl hout hlocks
  have hcell9 : (T.setFrames (.throwing q :: below)).heap[q]? = some ce := by
    show T.heap[q]? = some ce
    rw [hT]; exact hcell
  exact ⟨_, st1, .threw q, hrun, hend, Or.inr ⟨q, rfl, E, ce, locs, hx _ hT hW.alike, hcell9, hv, hcl, hW, hsm.mono hc hs, hf⟩⟩
theorem vx_frame {U : State} {k n : Nat} (h : s.sameButNew ({ U with vm := s.vm } : State) locs k n) : s.heap.size ≤ U.heap.size ∧ ∀ q : Nat, q < s.heap.size → (∀ z ∈ locs, z.base ≠ q) → U.heap[q]? = s.heap[q]? := by
  obtain ⟨-, h2, -, -, -, h6⟩ := h
  refine ⟨h2, fun q hq hz => ?_⟩
  obtain ⟨c9, e1, e2, e3, e4⟩ := h6 q _ (Array.getElem?_eq_getElem hq)
  have hs : c9.slots = (s.heap[q]).slots := Array.ext_getElem? fun i => e4 i fun hm => hz _ hm rfl
  have h9 : c9 = s.heap[q] := by
    rw [hs] at e2
    exact e2
  have e5 : U.heap[q]? = some c9 := e1
  rw [e5, h9, Array.getElem?_eq_getElem hq]
/-- the words of a throw but the four that speak of the heap -/
def vx_no (w : Cond) : Bool := decide (w ≠ .isRef (.static Bundle.tN "UNASSIGNED_STACK" Bundle.steD)) && decide (w ≠ .isRef (.static Bundle.tN "SUPPRESSED_SENTINEL" Bundle.listD)) && decide (w ≠ .laysStatic Bundle.tN "UNASSIGNED_STACK" Bundle.steD) && decide (w ≠ .laysStatic Bundle.tN "SUPPRESSED_SENTINEL" Bundle.listD)
def vx_at0 (own : String) (ic : Nat) (X : String) (names : List String) : List Cond := (Bundle.ownAtoms0 own ic X names).filter vx_no
def vx_atS (own : String) (ic : Nat) (X : String) (names : List String) : List Cond := (Bundle.ownAtoms own ic X names).filter vx_no
/-- a word that the tables alone decide, or a good one -/
def vx_ot (w : Cond) : Bool := w.onTables || goodWord w
theorem vx_ot_at {args a' : Array Value} {s U : State} {w : Cond} (hW : s.WarmedH U.vm) (hvm : s.vm = U.vm) (hg : vx_ot w = true) (h : w.before args s = true) : w.before a' U = true := by
  simp only [vx_ot, Bool.or_eq_true] at hg
  rcases hg with hg | hg
  · exact va_tabs hg hvm h
  · exact word_at hW (good_of_word hg) h
/-- a list's words: the good ones out of the method's own list, the others by premises of their own -/
theorem vx_hat {args : Array Value} {s : State} {L B : List Cond} (h1 : ∀ w ∈ L.filter goodWord, w.before args s = true) (h2 : ∀ w ∈ L.filter (fun w => !goodWord w), w ∈ B) (h3 : ∀ w ∈ B, w.before args s = true) : ∀ w ∈ L, w.before args s = true := by
  intro w hw
  by_cases g : goodWord w = true
  · exact h1 w (List.mem_filter.mpr ⟨hw, g⟩)
  · refine h3 w (h2 w (List.mem_filter.mpr ⟨hw, ?_⟩))
    show (!goodWord w) = true
    cases hgw : goodWord w
    · rfl
    · exact absurd hgw g
theorem vx_c {args : Array Value} {s : State} {w : Cond} {B : List Cond} (h : w.before args s = true) (t : ∀ w ∈ B, w.before args s = true) : ∀ w' ∈ w :: B, w'.before args s = true := fun w' h' => (List.mem_cons.mp h').elim (fun e => by rw [e]; exact h) (t w')
theorem vx_n {args : Array Value} {s : State} : ∀ w ∈ ([] : List Cond), w.before args s = true := fun _ h => nomatch h
theorem vx_own {args : Array Value} {s : State} {L : List Cond} (h1 : ∀ w ∈ L.filter vx_no, w.before args s = true)
    (hU : (Cond.isRef (.static Bundle.tN "UNASSIGNED_STACK" Bundle.steD)).before args s = true) (hN : (Cond.isRef (.static Bundle.tN "SUPPRESSED_SENTINEL" Bundle.listD)).before args s = true)
    (lU : (Cond.laysStatic Bundle.tN "UNASSIGNED_STACK" Bundle.steD).before args s = true) (lN : (Cond.laysStatic Bundle.tN "SUPPRESSED_SENTINEL" Bundle.listD).before args s = true) : ∀ w ∈ L, w.before args s = true := by
  intro w hw
  by_cases e1 : w = .isRef (.static Bundle.tN "UNASSIGNED_STACK" Bundle.steD)
  · rw [e1]; exact hU
  · by_cases e2 : w = .isRef (.static Bundle.tN "SUPPRESSED_SENTINEL" Bundle.listD)
    · rw [e2]; exact hN
    · by_cases e3 : w = .laysStatic Bundle.tN "UNASSIGNED_STACK" Bundle.steD
      · rw [e3]; exact lU
      · by_cases e4 : w = .laysStatic Bundle.tN "SUPPRESSED_SENTINEL" Bundle.listD
        · rw [e4]; exact lN
        · exact h1 w (List.mem_filter.mpr ⟨hw, by unfold vx_no; rw [decide_eq_true e1, decide_eq_true e2, decide_eq_true e3, decide_eq_true e4]; rfl⟩)
/-- where a static field lies, its class's statics cell in H -/
def vx_L (C n d : String) (A : Nat → Prop) (U : State) (H : Heap) : Prop := ∃ (c : ClassId) (k : Class) (i : Nat) (f : Field) (a : Nat) (cell : Cell), U.vm.findClass C = some c ∧ U.fieldFound? C n d = some (c, k, i, f) ∧ f.isStatic = true ∧ k.statics = some a ∧ H[a]? = some cell ∧ cell.vm.isStatics = true ∧ cell.cls = c ∧ f.slot < cell.slots.size ∧ k.staticTypes[f.slot]? = some f.type ∧ ¬ A a
theorem vx_L.moved {C n d : String} {A : Nat → Prop} {u U : State} {H : Heap} (hvm : u.vm.Alike U.vm) (h : vx_L C n d A u H) : vx_L C n d A U H := by
  obtain ⟨c, k, i, f, a, cell, h1, h2, h3, h4, h5, h6, h7, h8, h9, h10⟩ := h
  obtain ⟨k', hi', he⟩ := State.fieldFound?_setVm hvm h2
  exact ⟨c, k', i, f, a, cell, by rw [hvm.findClass]; exact h1, hi', h3, by rw [he]; exact h4, h5, h6, h7, h8, by rw [he]; exact h9, h10⟩
theorem vx_L.kept {C n d : String} {A : Nat → Prop} {U : State} {H H1 : Heap} (h : vx_L C n d A U H) (hq : ∀ a : Nat, a < H.size → ¬ A a → H1[a]? = H[a]?) : vx_L C n d A U H1 := by
  obtain ⟨c, k, i, f, a, cell, h1, h2, h3, h4, h5, h6, h7, h8, h9, h10⟩ := h
  exact ⟨c, k, i, f, a, cell, h1, h2, h3, h4, by rw [hq a (Array.getElem?_eq_some_iff.mp h5).1 h10]; exact h5, h6, h7, h8, h9, h10⟩
theorem vx_L.narrow {C n d : String} {A B : Nat → Prop} {U : State} {H : Heap} (h : vx_L C n d A U H) (hAB : ∀ q, B q → A q) : vx_L C n d B U H := by
  obtain ⟨c, k, i, f, a, cell, h1, h2, h3, h4, h5, h6, h7, h8, h9, h10⟩ := h
  exact ⟨c, k, i, f, a, cell, h1, h2, h3, h4, h5, h6, h7, h8, h9, fun z => h10 (hAB _ z)⟩
theorem vx_L.word {C n d : String} {A : Nat → Prop} {s : State} {args : Array Value} (h : vx_L C n d A s s.heap) : (Cond.laysStatic C n d).before args s = true := by
  obtain ⟨c, k, i, f, a, cell, h1, h2, h3, h4, h5, h6, h7, h8, h9, -⟩ := h
  show (Cond.laysStatic C n d).holds args s none s [] = true
  exact Cond.laysStatic_of h1 h2 h3 h4 h5 h6 h7 h8 h9
/-- .. and what it holds: null or some reference -/
def vx_Zq (C n d : String) (A : Nat → Prop) (U : State) (H : Heap) : Prop := va_Zq C n d A U H ∧ vx_L C n d A U H
theorem vx_Zq.moved {C n d : String} {A : Nat → Prop} {u U : State} {H : Heap} (hvm : u.vm.Alike U.vm) (h : vx_Zq C n d A u H) : vx_Zq C n d A U H := ⟨va_Zq.moved hvm h.1, vx_L.moved hvm h.2⟩
theorem vx_Zq.kept {C n d : String} {A : Nat → Prop} {U : State} {H H1 : Heap} (h : vx_Zq C n d A U H) (hq : ∀ a : Nat, a < H.size → ¬ A a → H1[a]? = H[a]?) : vx_Zq C n d A U H1 := ⟨va_Zq.kept h.1 hq, vx_L.kept h.2 hq⟩
theorem vx_Zq.narrow {C n d : String} {A B : Nat → Prop} {U : State} {H : Heap} (h : vx_Zq C n d A U H) (hAB : ∀ q, B q → A q) : vx_Zq C n d B U H := ⟨va_Zq.narrow h.1 hAB, vx_L.narrow h.2 hAB⟩
theorem vx_Zqof {args : Array Value} {s : State} {C n d : String} {A : Nat → Prop} (hl : (Cond.laysStatic C n d).before args s = true) (hini : (Cond.initialized C).before args s = true) (h : (Cond.isRef (.static C n d)).before args s = true) (hA : ∀ a : Nat, a < s.heap.size → ¬ A a) : vx_Zq C n d A s s.heap := by
  refine ⟨va_Zqof hl hini h hA, ?_⟩
  obtain ⟨c, k, i, f, a, cell, h1, h2, h3, h4, h5, h6, h7, h8, h9⟩ := Cond.laysStatic_spec hl
  exact ⟨c, k, i, f, a, cell, h1, h2, h3, h4, h5, h6, h7, h8, h9, hA a (Array.getElem?_eq_some_iff.mp h5).1⟩
theorem vx_isRef {C n d : String} {v : Value} {A : Nat → Prop} {s : State} {args : Array Value} (h : va_Z C n d v A s s.heap) (hv : v.isRef = true) : (Cond.isRef (.static C n d)).before args s = true := by
  obtain ⟨cf, kf, fi, f, a, cell, h1, h2, h3, h4, h5, h6, h7, -⟩ := h
  have he : (Term.static C n d).eval args s none [] s = some v := by
    simp [Term.eval, State.fieldNamed?, h1, h2, h4, h5, h6, h7]
  simp only [Cond.before, Cond.holds, Cond.value, he]
  cases v <;> simp_all [Value.isRef]
theorem vx_isRefq {C n d : String} {A : Nat → Prop} {s : State} {args : Array Value} (h : va_Zq C n d A s s.heap) : (Cond.isRef (.static C n d)).before args s = true := by
  rcases h with h | ⟨t, h⟩
  · exact vx_isRef h rfl
  · exact vx_isRef h rfl
/-- the same frame, seen from here: as if the method were called anew in this heap -/
theorem vx_rebase {T : State} (X : Stand p l e R s m args below meth c T locs cells slots) {R' : Room} (hf : R'.frames ≤ R.frames) (hl : R'.locals ≤ R.locals) (hc : cells + R'.cells ≤ R.cells) (hs : slots + R'.slots ≤ R.slots) :
    Stand p l e R' ((T.setVm s.vm).setFrames (.invoking m args :: below)) m args below meth c T [] 0 0 := by
  have htop : (T.setVm s.vm).topJava?.isSome := X.here.top
  have hF : ((T.setVm s.vm).setFrames (.invoking m args :: below)).frames = .invoking m args :: below := State.frames_setFrames _ (State.cur_lt_of_top htop)
  obtain ⟨g₀, hg0⟩ := Option.isSome_iff_exists.mp htop
  obtain ⟨r, hr⟩ := State.topJava?_eq_some.mp hg0
  have hl9 : e.platform.stackLimits (T.setVm s.vm).me = e.platform.stackLimits s.me := X.limits
  have hb9 : (T.setVm s.vm).me.stackBytes = s.me.stackBytes := X.bytes
  refine ⟨X.admits, X.cas, X.clock, hF, ?_, X.hears, X.method, X.code, X.here, X.tail, X.warmed, ?_, ?_, ?_⟩
  · have h := X.room
    have hU : ((T.setVm s.vm).setFrames (.invoking m args :: below)).localsInUse = s.localsInUse := by
      rw [State.localsInUse_invoking hF (meth := meth) (c := c) X.method X.code, State.localsInUse_invoking X.frames X.method X.code]
    simp only [State.hasRoom, Bool.and_eq_true, decide_eq_true_eq] at h ⊢
    obtain ⟨⟨⟨⟨h1, h2, h3, h4, h5, h6⟩, h7⟩, h8⟩, h9⟩ := h
    rw [X.frames, List.length_cons] at h2 h3
    have q1 := X.heapSize
    have q2 := X.used
    simp only [hF, hU, List.length_cons, State.stackLimits_setFrames, State.stackBytes_setFrames, hl9, hb9]
    refine ⟨⟨⟨⟨by omega, by omega, by omega, by omega, by omega, h6⟩, ?_⟩, ?_⟩, X.book⟩
    · show T.heap.size + R'.cells ≤ e.platform.maxCells
      omega
    · show T.slotsUsed + R'.slots ≤ e.platform.maxSlots
      omega
  · rw [State.stackLimits_setFrames]; rfl
  · rw [State.stackBytes_setFrames]; rfl
  · refine ⟨?_, Nat.le_refl _, Nat.le_refl _, ?_, ?_, fun a c9 h9 => ⟨c9, h9, rfl, rfl, fun _ _ => rfl⟩⟩
    · obtain ⟨t, ht, -⟩ := State.frames_cons hr
      show T.setVm s.vm = { ((T.setVm s.vm).setFrames (.invoking m args :: below)).setFrames (T.setVm s.vm).frames with heap := T.heap, slotsUsed := T.slotsUsed }
      rw [State.setFrames_setFrames, State.setFrames_self ht]
      rfl
    · show T.slotsUsed = T.slotsUsed + ((T.heap.toList.drop T.heap.size).map (·.slots.size)).sum
      rw [List.drop_eq_nil_of_le (Nat.le_of_eq Array.length_toList)]
      rfl
    · show ((T.heap.toList.drop T.heap.size).map (·.slots.size)).sum ≤ 0
      rw [List.drop_eq_nil_of_le (Nat.le_of_eq Array.length_toList)]
      exact Nat.le_refl _
/-- 'throw new E()': new; dup; invokespecial; athrow -/
theorem vx_throw0 {cc : ByteArray} {pc : Nat} (hexec : p.tables.exec = Jvm.exec) (hb : c.code = cc) (hl : l.stackTraces = false) {own cls : String} {names : List String} {ik ic mc ms : Nat} {A : Nat → Prop}
    (hown : s.vm.findClass own = some m.cls) (hcls : Bundle.fit cls = true) (hnames : ∀ n ∈ names, Bundle.fit n = true)
    (hk : (Cond.classLink own ik cls).before args s = true) (hini : (Cond.initialized cls).before args s = true) (hat : ∀ w ∈ vx_at0 own ic cls names, w.before args s = true)
    (hgood : ∀ w ∈ Cond.classLink own ik cls :: Cond.initialized cls :: vx_at0 own ic cls names, vx_ot w = true)
    (hU : vx_Zq Bundle.tN "UNASSIGNED_STACK" Bundle.steD A s s.heap) (hN : vx_Zq Bundle.tN "SUPPRESSED_SENTINEL" Bundle.listD A s s.heap) (hS : va_S A s.heap H locs) (hsize : ls.size = c.maxLocals)
    (d0 : decode cc pc = .ok (.new ik, 3)) (d3 : decode cc (pc + 3) = .ok (.dup, 1)) (d4 : decode cc (pc + 4) = .ok (.invokespecial ic, 3)) (d7 : decode cc (pc + 7) = .ok (.athrow, 1))
    (hout : ∀ x ∈ c.exceptionTable.toList, covers x (pc + 7) = false)
    (hRframes : names.length + 3 < R.frames) (hRlocals : (rest.map fun v => v.category).sum + (13 * (names.length + 1) + 42) ≤ R.locals) (hRcells : cells + 1 ≤ R.cells) (hRslots : slots + 6 ≤ R.slots) (hlocks : meth.locks = false)
    (hx : ∀ t : State, s.vm.Alike t.vm → H.size ≤ t.heap.size → (∀ q : Nat, q < H.size → t.heap[q]? = H[q]?) → XC cls s t)
    (hf : ∀ z ∈ locs, free z.base) (hc : cells + 1 ≤ mc) (hs : slots + 6 ≤ ms) :
    W p l e R s m args below meth c H locs cells slots (vx_MQ below Qc XC args s mc ms free) (F0 m pc ls rest) := by
  intro T hT X
  have htr : e.platform.stackTraces = false := (show e.platform.stackTraces = l.stackTraces by rw [X.admits.platform]).trans hl
  have Y := vx_rebase X (R' := { frames := R.frames, locals := R.locals, cells := 1, slots := 6 }) (Nat.le_refl _) (Nat.le_refl _) hRcells hRslots
  obtain ⟨s', hA⟩ : ∃ z, z = (T.setVm s.vm).setFrames (.invoking m args :: below) := ⟨_, rfl⟩
  rw [← hA] at Y
  have hvm : s'.vm = s.vm := by rw [hA]; rfl
  have hhp : s'.heap = H := by rw [hA]; exact hT
  have hW0 : s.WarmedH s'.vm := by rw [hvm]; exact State.WarmedH.refl s
  have hat' : ∀ w ∈ vx_at0 own ic cls names, w.before args s' = true := fun w hw => vx_ot_at hW0 hvm.symm (hgood w (List.mem_cons_of_mem _ (List.mem_cons_of_mem _ hw))) (hat w hw)
  have hk' : (Cond.classLink own ik cls).before args s' = true := vx_ot_at hW0 hvm.symm (hgood _ List.mem_cons_self) hk
  have hini' : (Cond.initialized cls).before args s' = true := vx_ot_at hW0 hvm.symm (hgood _ (List.mem_cons_of_mem _ List.mem_cons_self)) hini
  have hU' : vx_Zq Bundle.tN "UNASSIGNED_STACK" Bundle.steD A s' s'.heap := by rw [hhp]; exact vx_Zq.moved hW0.alike (hU.kept hS.2.1)
  have hN' : vx_Zq Bundle.tN "SUPPRESSED_SENTINEL" Bundle.listD A s' s'.heap := by rw [hhp]; exact vx_Zq.moved hW0.alike (hN.kept hS.2.1)
  have h : ∀ w ∈ Bundle.ownAtoms0 own ic cls names, w.before args s' = true := vx_own hat' (vx_isRefq hU'.1) (vx_isRefq hN'.1) hU'.2.word hN'.2.word
  have hown' : s'.vm.findClass own = some m.cls := by rw [hvm]; exact hown
  have hins : (Cond.instantiable cls 6).before args s' = true := h _ (by simp [Bundle.ownAtoms0])
  obtain ⟨vm₁, cX, kX, hfX, hkX, -, -, X₁, st1⟩ := Y.newCold hexec (own := own) (C := cls) (index := ik) (n := 6) hown' hk' hins hini'
    (g := F0 m pc ls rest) rfl (by rw [hb]; exact d0) (Nat.le_refl _) (Nat.le_refl _)
  generalize hT1 : (T.setVm vm₁).pushCell { cls := cX, slots := kX.instanceTypes.map defaultValue, vm := .none } = T1 at X₁ st1
  have hcat : (Value.ref T.heap.size).category = 1 := rfl
  have hcellA : T1.heap[T.heap.size]? = some (freshCell cX kX) := by rw [← hT1]; exact State.heap_pushCell_size _ _
  have d3' : decode c.code (pc + 3) = .ok (.dup, 1) := by rw [hb]; exact d3
  obtain ⟨U, hsteps, hrun, hend, hW, hsame, ce, hce, hO⟩ := X₁.ctorThrow0 hexec htr (own := own) (cls := cls) (names := names) (ic := ic) hown' hcls hnames h (fun x hx => nomatch hx) hfX hkX hcellA (by rw [hhp, hT]; exact Nat.le_refl _)
    (g := { method := m, pc := pc + 4, locals := ls, stack := .ref T.heap.size :: .ref T.heap.size :: rest, locked := none }) rfl hsize rfl rfl (rest := rest) rfl
    (by rw [hb]; exact d4) (by rw [hb]; exact d7) hout hRframes (by simp only [List.map_cons, List.sum_cons, hcat]; omega) hlocks
  obtain ⟨f1, f2⟩ := vx_frame hsame
  rw [hhp] at f1 f2
  have hWs : s.WarmedH U.vm := State.WarmedH.trans hW0 hW
  have hcl : s.vm.findClass cls = some ce.cls := by
    have h9 := hO.cls
    rw [hvm] at h9
    exact h9
  have hall : s.sameButNew ({ U with vm := s.vm } : State) locs mc ms := by
    subst hA
    obtain ⟨e1, e2⟩ := hsame
    rw [State.setFrames_setFrames] at e1
    have h2 : (T.setVm s.vm).sameButNew ({ U with vm := s.vm } : State) [] (0 + 1) (0 + 6) := ⟨e1, e2⟩
    have h3 := X.same.trans h2
    rw [List.append_nil] at h3
    exact h3.mono hc hs
  refine ⟨U, ?_, .threw T.heap.size, hrun, hend, Or.inr ⟨T.heap.size, rfl, cls, ce, locs, hx U hWs.alike f1 (fun q hq => f2 q hq (fun z hz => nomatch hz)), hce, hO.vm, hcl, hWs, hall, hf⟩⟩
  refine st1 _ ?_
  show Steps p.tables e below (T1.setTop { method := m, pc := pc + 3, locals := ls, stack := .ref T.heap.size :: rest, locked := none }) _
  jvm_step X₁.here [X₁.here.top, hexec, d3', Value.category]
  exact hsteps
/-- 'throw new E("text")': new; dup; ldc; invokespecial; athrow -/
theorem vx_throwS {cc : ByteArray} {pc : Nat} (hexec : p.tables.exec = Jvm.exec) (hb : c.code = cc) (hl : l.stackTraces = false) {own cls text : String} {names : List String} {ik is ic mc ms sa : Nat} {A : Nat → Prop}
    (hown : s.vm.findClass own = some m.cls) (hcls : Bundle.fit cls = true) (hnames : ∀ n ∈ names, Bundle.fit n = true)
    (hk : (Cond.classLink own ik cls).before args s = true) (hini : (Cond.initialized cls).before args s = true) (hstr : vk_R own is text sa s) (hat : ∀ w ∈ vx_atS own ic cls names, w.before args s = true)
    (hgood : ∀ w ∈ Cond.classLink own ik cls :: Cond.initialized cls :: vx_atS own ic cls names, vx_ot w = true)
    (hU : vx_Zq Bundle.tN "UNASSIGNED_STACK" Bundle.steD A s s.heap) (hN : vx_Zq Bundle.tN "SUPPRESSED_SENTINEL" Bundle.listD A s s.heap) (hS : va_S A s.heap H locs) (hsize : ls.size = c.maxLocals)
    (d0 : decode cc pc = .ok (.new ik, 3)) (d3 : decode cc (pc + 3) = .ok (.dup, 1)) (d4 : decode cc (pc + 4) = .ok (.ldc is, 2)) (d6 : decode cc (pc + 6) = .ok (.invokespecial ic, 3)) (d9 : decode cc (pc + 9) = .ok (.athrow, 1))
    (hout : ∀ x ∈ c.exceptionTable.toList, covers x (pc + 9) = false)
    (hRframes : names.length + 3 < R.frames) (hRlocals : (rest.map fun v => v.category).sum + (13 * (names.length + 1) + 43) ≤ R.locals) (hRcells : cells + 1 ≤ R.cells) (hRslots : slots + 6 ≤ R.slots) (hlocks : meth.locks = false)
    (hx : ∀ t : State, s.vm.Alike t.vm → H.size ≤ t.heap.size → (∀ q : Nat, q < H.size → t.heap[q]? = H[q]?) → XC cls s t)
    (hf : ∀ z ∈ locs, free z.base) (hc : cells + 1 ≤ mc) (hs : slots + 6 ≤ ms) :
    W p l e R s m args below meth c H locs cells slots (vx_MQ below Qc XC args s mc ms free) (F0 m pc ls rest) := by
  intro T hT X
  have htr : e.platform.stackTraces = false := (show e.platform.stackTraces = l.stackTraces by rw [X.admits.platform]).trans hl
  have Y := vx_rebase X (R' := { frames := R.frames, locals := R.locals, cells := 1, slots := 6 }) (Nat.le_refl _) (Nat.le_refl _) hRcells hRslots
  obtain ⟨s', hA⟩ : ∃ z, z = (T.setVm s.vm).setFrames (.invoking m args :: below) := ⟨_, rfl⟩
  rw [← hA] at Y
  have hvm : s'.vm = s.vm := by rw [hA]; rfl
  have hhp : s'.heap = H := by rw [hA]; exact hT
  have hW0 : s.WarmedH s'.vm := by rw [hvm]; exact State.WarmedH.refl s
  have hat' : ∀ w ∈ vx_atS own ic cls names, w.before args s' = true := fun w hw => vx_ot_at hW0 hvm.symm (hgood w (List.mem_cons_of_mem _ (List.mem_cons_of_mem _ hw))) (hat w hw)
  have hk' : (Cond.classLink own ik cls).before args s' = true := vx_ot_at hW0 hvm.symm (hgood _ List.mem_cons_self) hk
  have hini' : (Cond.initialized cls).before args s' = true := vx_ot_at hW0 hvm.symm (hgood _ (List.mem_cons_of_mem _ List.mem_cons_self)) hini
  have hU' : vx_Zq Bundle.tN "UNASSIGNED_STACK" Bundle.steD A s' s'.heap := by rw [hhp]; exact vx_Zq.moved hW0.alike (hU.kept hS.2.1)
  have hN' : vx_Zq Bundle.tN "SUPPRESSED_SENTINEL" Bundle.listD A s' s'.heap := by rw [hhp]; exact vx_Zq.moved hW0.alike (hN.kept hS.2.1)
  have h : ∀ w ∈ Bundle.ownAtoms own ic cls names, w.before args s' = true := vx_own hat' (vx_isRefq hU'.1) (vx_isRefq hN'.1) hU'.2.word hN'.2.word
  have hown' : s'.vm.findClass own = some m.cls := by rw [hvm]; exact hown
  have hins : (Cond.instantiable cls 6).before args s' = true := h _ (by simp [Bundle.ownAtoms])
  obtain ⟨vm₁, cX, kX, hfX, hkX, -, -, X₁, st1⟩ := Y.newCold hexec (own := own) (C := cls) (index := ik) (n := 6) hown' hk' hins hini'
    (g := F0 m pc ls rest) rfl (by rw [hb]; exact d0) (Nat.le_refl _) (Nat.le_refl _)
  generalize hT1 : (T.setVm vm₁).pushCell { cls := cX, slots := kX.instanceTypes.map defaultValue, vm := .none } = T1 at X₁ st1
  have hcat : (Value.ref T.heap.size).category = 1 := rfl
  have hcellA : T1.heap[T.heap.size]? = some (freshCell cX kX) := by rw [← hT1]; exact State.heap_pushCell_size _ _
  have d3' : decode c.code (pc + 3) = .ok (.dup, 1) := by rw [hb]; exact d3
  have d4' : decode c.code (pc + 4) = .ok (.ldc is, 2) := by rw [hb]; exact d4
  have hstr' : vk_R own is text sa s' := vk_R.warm hW0 hstr
  obtain ⟨U, hsteps, hrun, hend, hW, hsame, ce, hce, hO⟩ := X₁.ctorThrowS hexec htr (own := own) (cls := cls) (names := names) (ic := ic) hown' hcls hnames h (fun x hx => nomatch hx) hfX hkX hcellA (by rw [hhp, hT]; exact Nat.le_refl _) (msg := .ref sa) rfl
    (g := { method := m, pc := pc + 6, locals := ls, stack := .ref sa :: .ref T.heap.size :: .ref T.heap.size :: rest, locked := none }) rfl hsize rfl rfl (rest := rest) rfl
    (by rw [hb]; exact d6) (by rw [hb]; exact d9) hout hRframes (by simp only [List.map_cons, List.sum_cons, hcat]; omega) hlocks
  obtain ⟨f1, f2⟩ := vx_frame hsame
  rw [hhp] at f1 f2
  have hWs : s.WarmedH U.vm := State.WarmedH.trans hW0 hW
  have hcl : s.vm.findClass cls = some ce.cls := by
    have h9 := hO.cls
    rw [hvm] at h9
    exact h9
  have hall : s.sameButNew ({ U with vm := s.vm } : State) locs mc ms := by
    subst hA
    obtain ⟨e1, e2⟩ := hsame
    rw [State.setFrames_setFrames] at e1
    have h2 : (T.setVm s.vm).sameButNew ({ U with vm := s.vm } : State) [] (0 + 1) (0 + 6) := ⟨e1, e2⟩
    have h3 := X.same.trans h2
    rw [List.append_nil] at h3
    exact h3.mono hc hs
  refine ⟨U, ?_, .threw T.heap.size, hrun, hend, Or.inr ⟨T.heap.size, rfl, cls, ce, locs, hx U hWs.alike f1 (fun q hq => f2 q hq (fun z hz => nomatch hz)), hce, hO.vm, hcl, hWs, hall, hf⟩⟩
  refine st1 _ ?_
  show Steps p.tables e below (T1.setTop { method := m, pc := pc + 3, locals := ls, stack := .ref T.heap.size :: rest, locked := none }) _
  jvm_step X₁.here [X₁.here.top, hexec, d3', Value.category]
  exact X₁.ldcString hexec (own := own) (text := text) (index := is) (a := sa) hown' hstr'.1 hstr'.2
    (g := { method := m, pc := pc + 4, locals := ls, stack := .ref T.heap.size :: .ref T.heap.size :: rest, locked := none }) rfl d4' _ hsteps
/-- 'throw new E("text")', the text by a wide index -/
theorem vx_throwSW {cc : ByteArray} {pc : Nat} (hexec : p.tables.exec = Jvm.exec) (hb : c.code = cc) (hl : l.stackTraces = false) {own cls text : String} {names : List String} {ik is ic mc ms sa : Nat} {A : Nat → Prop}
    (hown : s.vm.findClass own = some m.cls) (hcls : Bundle.fit cls = true) (hnames : ∀ n ∈ names, Bundle.fit n = true)
    (hk : (Cond.classLink own ik cls).before args s = true) (hini : (Cond.initialized cls).before args s = true) (hstr : vk_R own is text sa s) (hat : ∀ w ∈ vx_atS own ic cls names, w.before args s = true)
    (hgood : ∀ w ∈ Cond.classLink own ik cls :: Cond.initialized cls :: vx_atS own ic cls names, vx_ot w = true)
    (hU : vx_Zq Bundle.tN "UNASSIGNED_STACK" Bundle.steD A s s.heap) (hN : vx_Zq Bundle.tN "SUPPRESSED_SENTINEL" Bundle.listD A s s.heap) (hS : va_S A s.heap H locs) (hsize : ls.size = c.maxLocals)
    (d0 : decode cc pc = .ok (.new ik, 3)) (d3 : decode cc (pc + 3) = .ok (.dup, 1)) (d4 : decode cc (pc + 4) = .ok (.ldc_w is, 3)) (d7 : decode cc (pc + 7) = .ok (.invokespecial ic, 3)) (d10 : decode cc (pc + 10) = .ok (.athrow, 1))
    (hout : ∀ x ∈ c.exceptionTable.toList, covers x (pc + 10) = false)
    (hRframes : names.length + 3 < R.frames) (hRlocals : (rest.map fun v => v.category).sum + (13 * (names.length + 1) + 43) ≤ R.locals) (hRcells : cells + 1 ≤ R.cells) (hRslots : slots + 6 ≤ R.slots) (hlocks : meth.locks = false)
    (hx : ∀ t : State, s.vm.Alike t.vm → H.size ≤ t.heap.size → (∀ q : Nat, q < H.size → t.heap[q]? = H[q]?) → XC cls s t)
    (hf : ∀ z ∈ locs, free z.base) (hc : cells + 1 ≤ mc) (hs : slots + 6 ≤ ms) :
    W p l e R s m args below meth c H locs cells slots (vx_MQ below Qc XC args s mc ms free) (F0 m pc ls rest) := by
  intro T hT X
  have htr : e.platform.stackTraces = false := (show e.platform.stackTraces = l.stackTraces by rw [X.admits.platform]).trans hl
  have Y := vx_rebase X (R' := { frames := R.frames, locals := R.locals, cells := 1, slots := 6 }) (Nat.le_refl _) (Nat.le_refl _) hRcells hRslots
  obtain ⟨s', hA⟩ : ∃ z, z = (T.setVm s.vm).setFrames (.invoking m args :: below) := ⟨_, rfl⟩
  rw [← hA] at Y
  have hvm : s'.vm = s.vm := by rw [hA]; rfl
  have hhp : s'.heap = H := by rw [hA]; exact hT
  have hW0 : s.WarmedH s'.vm := by rw [hvm]; exact State.WarmedH.refl s
  have hat' : ∀ w ∈ vx_atS own ic cls names, w.before args s' = true := fun w hw => vx_ot_at hW0 hvm.symm (hgood w (List.mem_cons_of_mem _ (List.mem_cons_of_mem _ hw))) (hat w hw)
  have hk' : (Cond.classLink own ik cls).before args s' = true := vx_ot_at hW0 hvm.symm (hgood _ List.mem_cons_self) hk
  have hini' : (Cond.initialized cls).before args s' = true := vx_ot_at hW0 hvm.symm (hgood _ (List.mem_cons_of_mem _ List.mem_cons_self)) hini
  have hU' : vx_Zq Bundle.tN "UNASSIGNED_STACK" Bundle.steD A s' s'.heap := by rw [hhp]; exact vx_Zq.moved hW0.alike (hU.kept hS.2.1)
  have hN' : vx_Zq Bundle.tN "SUPPRESSED_SENTINEL" Bundle.listD A s' s'.heap := by rw [hhp]; exact vx_Zq.moved hW0.alike (hN.kept hS.2.1)
  have h : ∀ w ∈ Bundle.ownAtoms own ic cls names, w.before args s' = true := vx_own hat' (vx_isRefq hU'.1) (vx_isRefq hN'.1) hU'.2.word hN'.2.word
  have hown' : s'.vm.findClass own = some m.cls := by rw [hvm]; exact hown
  have hins : (Cond.instantiable cls 6).before args s' = true := h _ (by simp [Bundle.ownAtoms])
  obtain ⟨vm₁, cX, kX, hfX, hkX, -, -, X₁, st1⟩ := Y.newCold hexec (own := own) (C := cls) (index := ik) (n := 6) hown' hk' hins hini'
    (g := F0 m pc ls rest) rfl (by rw [hb]; exact d0) (Nat.le_refl _) (Nat.le_refl _)
  generalize hT1 : (T.setVm vm₁).pushCell { cls := cX, slots := kX.instanceTypes.map defaultValue, vm := .none } = T1 at X₁ st1
  have hcat : (Value.ref T.heap.size).category = 1 := rfl
  have hcellA : T1.heap[T.heap.size]? = some (freshCell cX kX) := by rw [← hT1]; exact State.heap_pushCell_size _ _
  have d3' : decode c.code (pc + 3) = .ok (.dup, 1) := by rw [hb]; exact d3
  have d4' : decode c.code (pc + 4) = .ok (.ldc_w is, 3) := by rw [hb]; exact d4
  have hstr' : vk_R own is text sa s' := vk_R.warm hW0 hstr
  obtain ⟨U, hsteps, hrun, hend, hW, hsame, ce, hce, hO⟩ := X₁.ctorThrowS hexec htr (own := own) (cls := cls) (names := names) (ic := ic) hown' hcls hnames h (fun x hx => nomatch hx) hfX hkX hcellA (by rw [hhp, hT]; exact Nat.le_refl _) (msg := .ref sa) rfl
    (g := { method := m, pc := pc + 7, locals := ls, stack := .ref sa :: .ref T.heap.size :: .ref T.heap.size :: rest, locked := none }) rfl hsize rfl rfl (rest := rest) rfl
    (by rw [hb]; exact d7) (by rw [hb]; exact d10) hout hRframes (by simp only [List.map_cons, List.sum_cons, hcat]; omega) hlocks
  obtain ⟨f1, f2⟩ := vx_frame hsame
  rw [hhp] at f1 f2
  have hWs : s.WarmedH U.vm := State.WarmedH.trans hW0 hW
  have hcl : s.vm.findClass cls = some ce.cls := by
    have h9 := hO.cls
    rw [hvm] at h9
    exact h9
  have hall : s.sameButNew ({ U with vm := s.vm } : State) locs mc ms := by
    subst hA
    obtain ⟨e1, e2⟩ := hsame
    rw [State.setFrames_setFrames] at e1
    have h2 : (T.setVm s.vm).sameButNew ({ U with vm := s.vm } : State) [] (0 + 1) (0 + 6) := ⟨e1, e2⟩
    have h3 := X.same.trans h2
    rw [List.append_nil] at h3
    exact h3.mono hc hs
  refine ⟨U, ?_, .threw T.heap.size, hrun, hend, Or.inr ⟨T.heap.size, rfl, cls, ce, locs, hx U hWs.alike f1 (fun q hq => f2 q hq (fun z hz => nomatch hz)), hce, hO.vm, hcl, hWs, hall, hf⟩⟩
  refine st1 _ ?_
  show Steps p.tables e below (T1.setTop { method := m, pc := pc + 3, locals := ls, stack := .ref T.heap.size :: rest, locked := none }) _
  jvm_step X₁.here [X₁.here.top, hexec, d3', Value.category]
  exact X₁.ldcStringW hexec (own := own) (text := text) (index := is) (a := sa) hown' hstr'.1 hstr'.2
    (g := { method := m, pc := pc + 4, locals := ls, stack := .ref T.heap.size :: .ref T.heap.size :: rest, locked := none }) rfl d4' _ hsteps
end Ends
section Bodies
variable {l : Launch}
theorem vx_ofW {y : MethodName} {ws ws' : List Cond} {rm : Room} {Pc : Array Value → State → Prop} {Qc : Array Value → State → Outcome → State → Prop} {XC : String → State → State → Prop} {mc ms : Nat} {free : Addr → Prop} {cc : ByteArray} {maxL : Nat} {ret : Option FieldType}
    (hy : plainName y.cls = true) (hw : ws = Cond.code y cc maxL ret :: ws')
    (body : ∀ p e s m args below meth c s₁, BodyLoose p l y (headSpec ws rm) cc maxL ret e s m args below meth c s₁ → c.maxLocals = maxL → (∀ x ∈ c.exceptionTable.toList, False) → Pc args s →
      W p l e (headSpec ws rm).room s m args below meth c s.heap [] 0 0 (vx_MQ below Qc XC args s mc ms free) (entryFrame m args maxL)) : vx_Met l y ws rm Pc Qc XC mc ms free := by
  refine MetFree.of_bodyS (code := cc) (maxLocals := maxL) (ret := ret) hy ?_ ?_
  · intro args s m h hn
    obtain ⟨meth, c, h1, h2, h3, h4, h5, h6, -, -⟩ := Cond.code_spec hn (atoms_spec (ws := ws) h _ (by rw [hw]; exact List.mem_cons_self))
    exact ⟨meth, c, h1, h2, h3, h4, h5, h6⟩
  · intro p e s m args below meth c s₁ B hml hP _
    have hh0 : s₁.heap = s.heap := by rw [B.state]; rfl
    have ht : ∀ x ∈ c.exceptionTable.toList, False := by
      obtain ⟨meth9, c9, h1, h2, -, -, -, -, h7, -⟩ := Cond.code_spec B.named (atoms_spec (ws := ws) B.pre _ (by rw [hw]; exact List.mem_cons_self))
      cases Option.some.inj (h1.symm.trans B.method)
      cases Option.some.inj (h2.symm.trans (Stand.of_body B).code)
      intro x hx
      rw [Array.isEmpty_iff.mp h7] at hx
      cases hx
    obtain ⟨t, a1, o, b1, b2, b3⟩ := body p e s m args below meth c s₁ B hml ht hP s₁ hh0 (Stand.of_body B)
    exact ⟨t, o, a1, b1, b2, b3⟩
/-- the table of a body with handlers -/
theorem vx_table {p : Program} {x y : MethodName} {S : Spec} {cc bytes : ByteArray} {maxL maxL' : Nat} {ret ret' : Option FieldType} {e : Env} {s s₁ : State} {m : MethodId} {args : Array Value} {below : List Frame} {meth : Method} {c : Code} {hh : List (Nat × Nat × Nat × Nat)}
    (B : BodyLoose p l y S cc maxL ret e s m args below meth c s₁) (h : (Cond.codeWith y bytes maxL' ret' hh).before args s = true) : c.exceptionTable.toList = tableOf hh := by
  obtain ⟨m9, meth9, c9, hn9, h1, h2, -, -, h6, -⟩ := Cond.codeWith_spec h
  cases Option.some.inj (hn9.symm.trans B.named)
  cases Option.some.inj (h1.symm.trans B.method)
  cases Option.some.inj (h2.symm.trans (Stand.of_body B).code)
  rw [← h6, table_eq]
end Bodies
end VXA
/-! ===== END ===== -/
/-! ===== BEGIN a static call of a method with an exception table ===== -/
section VXS
variable {p : Program} {l : Launch} {e : Env} {R : Room} {s : State} {m : MethodId} {args : Array Value} {below : List Frame} {meth : Method} {c : Code} {T : State} {H : Heap} {locs : List Loc} {cells slots : Nat}
abbrev vx_CSW (R : Room) (s : State) (args : Array Value) (own : String) (index : Nat) (y : MethodName) (bytes : ByteArray) (maxL : Nat) (ret : Option FieldType) (hh : List (Nat × Nat × Nat × Nat)) (ws : List Cond) (rm : Room) (mc ms n : Nat) : Prop :=
  (rm.cells = mc ∧ rm.slots = ms ∧ rm.frames + 1 ≤ R.frames ∧ 8 + (maxL + 11) + rm.locals ≤ R.locals ∧ (∀ w ∈ ws, ∀ (a' : Array Value) (U : State), s.WarmedH U.vm → w.before a' U = true) ∧ Cond.codeWith y bytes maxL ret hh ∈ ws) ∧
  (Cond.codeWith y bytes maxL ret hh).before args s = true ∧ (Cond.initialized y.cls).before args s = true ∧ (y.cls ≠ "java/lang/invoke/MethodHandle" ∧ y.cls ≠ "java/lang/invoke/VarHandle") ∧
  (∀ sig, parseMethodDescriptor y.desc = some sig → n = sig.parameters.length) ∧ (Cond.methodLink own index y).before args s = true ∧ (Cond.static y).before args s = true
theorem vx_cwSW {own : String} {index maxL mc ms : Nat} {y : MethodName} {bytes : ByteArray} {ret : Option FieldType} {hh : List (Nat × Nat × Nat × Nat)} {Ts ws ws' : List Cond} {rm : Room} (n : Nat) (ht : ∀ w ∈ Ts, w.before args s = true) (hT : GoodIn Ts (va_wsS own index y ws)) (hw : ws = Cond.codeWith y bytes maxL ret hh :: ws') (hrc : rm.cells = mc) (hrs : rm.slots = ms)
    (hd : y.cls ≠ "java/lang/invoke/MethodHandle" ∧ y.cls ≠ "java/lang/invoke/VarHandle" ∧ (parseMethodDescriptor y.desc).map (fun d => d.parameters.length) = some n) (hR : rm.frames + 1 ≤ R.frames ∧ 8 + (maxL + 11) + rm.locals ≤ R.locals) :
    vx_CSW R s args own index y bytes maxL ret hh ws rm mc ms n := by
  have ok : ∀ w ∈ va_wsS own index y ws, w.before args s = true := fun w h => ht w (hT w h).1
  have hG : GoodIn Ts ws := fun w h => hT w (by unfold va_wsS; exact List.mem_append_right _ h)
  have hc : Cond.codeWith y bytes maxL ret hh ∈ ws := by rw [hw]; exact List.mem_cons_self
  refine ⟨⟨hrc, hrs, hR.1, hR.2, pay_in ht hG, hc⟩, ht _ (hG _ hc).1, ok _ (by simp [va_wsS]), ⟨hd.1, hd.2.1⟩, fun sig h => ?_, ok _ (by simp [va_wsS]), ok _ (by simp [va_wsS])⟩
  have h2 := hd.2.2
  rw [h] at h2
  exact (Option.some.inj h2).symm
theorem vx_callSW (X : Stand p l e R s m args below meth c T locs cells slots) (hexec : p.tables.exec = Jvm.exec) {own : String} {index : Nat} {y : MethodName} {bytes : ByteArray} {maxL : Nat} {ret : Option FieldType} {hh : List (Nat × Nat × Nat × Nat)}
    (hown : s.vm.findClass own = some m.cls) (hlink : (Cond.methodLink own index y).before args s = true) (hstat : (Cond.static y).before args s = true) (hinit : (Cond.initialized y.cls).before args s = true)
    (hcode : (Cond.codeWith y bytes maxL ret hh).before args s = true) (hy : y.cls ≠ "java/lang/invoke/MethodHandle" ∧ y.cls ≠ "java/lang/invoke/VarHandle")
    {W9 : Nat} {Pre : Pt → Array Value → Prop} {Post : Pt → Array Value → Option Value → Pt → Prop} (hK : Back l R p e below s args y 3 W9 Pre Post)
    {g : JFrame} (hg : g.method = m) (hsize : g.locals.size = c.maxLocals) {argsL rest : List Value} (hlen : ∀ sig, parseMethodDescriptor y.desc = some sig → argsL.length = sig.parameters.length)
    (hstack : g.stack = argsL.reverse ++ rest) (hW : 2 * g.monitorRoom + (rest.map fun v => v.category).sum ≤ W9) (hdg : decode c.code g.pc = .ok (.invokestatic index, 3))
    (hpre : ∀ vm₁, s.WarmedH vm₁ → Pre ⟨T.setVm vm₁, locs, cells, slots⟩ argsL.toArray) :
    ∃ (v : Option Value) (vm₁ : Vm) (B : Pt), s.WarmedH vm₁ ∧ Stand p l e R s m args below meth c B.U B.locs B.cells B.slots ∧ Post ⟨T.setVm vm₁, locs, cells, slots⟩ argsL.toArray v B ∧
      ∀ target, Steps p.tables e below (B.U.setTop { g with pc := g.pc + 3, stack := v.toList ++ rest }) target → Steps p.tables e below (T.setTop g) target := by
  obtain ⟨mk, methM, cM, hnamed, hmethM, -, -, -, -, -, -, hsigM⟩ := Cond.codeWith_spec hcode
  have hstatic : methM.isStatic = true := Cond.static_spec hnamed hmethM hstat
  obtain ⟨kP, hkP, -⟩ := className_of_methodNamed hnamed
  have hinitP : kP.init = .initialized := Cond.initialized_spec (findClass_of_methodNamed hnamed) hkP hinit
  obtain ⟨vm₁, X₁, hstep₁⟩ := X.invokestatic hexec hown hlink hnamed hmethM hstatic hkP hinitP hy (g := g) hg (argsL := argsL) (rest := rest) (hlen _ hsigM) hstack hdg
  obtain ⟨v, B, X', hpost, hsteps⟩ := hK m meth c ⟨T.setVm vm₁, locs, cells, slots⟩ { g with stack := rest } (.invokestatic index) mk argsL.toArray X₁ hg hsize hdg hW (X₁.named hnamed) (hpre vm₁ X₁.warmed)
  exact ⟨v, vm₁, B, X₁.warmed, X', hpost, fun target h => hstep₁ _ fun acts => by rw [doInvoke_state]; exact hsteps.trans h⟩
theorem vx_runSW {y : MethodName} {bytes cc : ByteArray} {maxL nL mc ms n index : Nat} {ret : Option FieldType} {hh : List (Nat × Nat × Nat × Nat)} {ws : List Cond} {rm : Room} {Pc : Array Value → State → Prop} {Qc : Array Value → State → Outcome → State → Prop} {free : Addr → Prop} {Ts : List Cond} {own : String} {As rest : List Value} {g : JFrame}
    (S : CallFix p m c cc nL s args Ts own) (hM : Met l y ws rm Pc Qc mc ms free) (cw : vx_CSW R s args own index y bytes maxL ret hh ws rm mc ms n) (hp : PreS s H Pc As)
    (hg : g.method = m) (hn : As.length = n) (hsize : g.locals.size = nL) (hstack : g.stack = As.reverse ++ rest) (hW : 2 * g.monitorRoom + (rest.map fun v => v.category).sum ≤ 8) (hdg : decode cc g.pc = .ok (.invokestatic index, 3)) (hf : cells + mc ≤ R.cells ∧ slots + ms ≤ R.slots) :
    va_Run p l e R s m args below meth c H locs cells slots mc ms g rest (Qc As.toArray) (free) := by
  obtain ⟨⟨hrc, hrs, hfr, hlo, hws, hcw⟩, hcode, hini, hy, hlen, hl, hstt⟩ := cw
  have hK : Back l R p e below s args y 3 8 (PreOf R mc ms Pc) (PostOf Qc mc ms free) := va_backW (hh := hh) (bytes := bytes) (maxL := maxL) (ret := ret) hM hp.1 hrc hrs hfr hlo hws hcw (fun a' U hW => word_at hW (Or.inl (by first | rfl | simp [Cond.onTables, Cond.keeps, Cond.steady])) hini)
  obtain ⟨hx, hb, hml, ho, -⟩ := S
  intro T hT X
  obtain ⟨v, vm₁, ⟨U', l2, c2, s2⟩, hW₁, X', ⟨g', mk, t, L, e1, e2, hq, h1, hL, h2, h3⟩, st⟩ := vx_callSW X hx (hh := hh) (bytes := bytes) (maxL := maxL) (ret := ret) ho hl hstt hini hcode hy hK hg (hsize.trans hml.symm) (argsL := As) (rest := rest) (fun sig h => hn.trans (hlen sig h)) hstack hW (by rw [hb]; exact hdg)
    (fun vm₁ hW₁ => ⟨hf.1, hf.2, hp.2 (T.setVm vm₁) hT hW₁⟩)
  dsimp only [Pt.U, Pt.locs, Pt.cells, Pt.slots] at X' e1 e2 h1 h2 h3 st
  subst h1; subst h2; subst h3
  exact ⟨v, (T.setVm vm₁).calling g' mk As.toArray, t, U', L, hT, X', hL, e1, e2, hq, st⟩
/-- not caught here, past rows that name other classes: it goes on to the caller -/
theorem vx_outP {p : Program} {l : Launch} {e : Env} {R : Room} {s : State} {m : MethodId} {args : Array Value} {below : List Frame} {meth : Method} {c : Code} {H : Heap} {locs : List Loc} {cells slots : Nat} {free : Addr → Prop} {ls : Array Slot} {rest : List Value} {Qc : Array Value → State → Outcome → State → Prop} {XC : String → State → State → Prop}
    {pc : Nat} {own E : String} {ce : Cell} {q : Addr} {mc ms : Nat} (hown : s.vm.findClass own = some m.cls) (hlocks : meth.locks = false)
    (hpass : ∀ z ∈ c.exceptionTable.toList, covers z pc = false ∨ (z.catchType ≠ 0 ∧ ∃ nm : String, (Cond.classLink own z.catchType nm).before args s = true ∧ va_Nc E nm s)) (hcell : H[q]? = some ce) (hv : ce.vm = .none) (hcl : s.vm.findClass E = some ce.cls)
    (hx : ∀ t : State, t.heap = H → s.vm.Alike t.vm → XC E s t) (hf : ∀ z ∈ locs, free z.base) (hc : cells ≤ mc) (hs : slots ≤ ms) :
    vx_W p l e R s m args below meth c H locs cells slots (vx_MQ below Qc XC args s mc ms free) (F0 m pc ls rest) q := by
  intro T hT X
  have hpl : e.platform.magicAccessors = ({} : Platform).magicAccessors := by rw [X.admits.platform]
  obtain ⟨vm', hW', X', st⟩ := X.outThrough hlocks q (g := F0 m pc ls rest) rfl rfl rfl (cell := ce) (by rw [hT]; exact hcell) (by rw [hv]; rfl)
    (by obtain ⟨k9, h9, -⟩ := Vm.findClass_spec hcl; exact ⟨k9, h9⟩) (fun z hz => by
      rcases hpass z hz with h | ⟨hz0, nm, hl1, hn1⟩
      · exact Or.inl h
      · obtain ⟨c6, hc6, hcl6⟩ := Cond.classLink_spec hown hl1 e.platform hpl
        obtain ⟨a8, b8, h1, h2, h3⟩ := hn1
        cases Option.some.inj (h1.symm.trans hcl)
        cases Option.some.inj (h2.symm.trans hc6)
        exact Or.inr ⟨hz0, _, hcl6, h3⟩)
  obtain ⟨g₀, hfr⟩ := X'.frames_eq
  have hcell9 : ((T.setVm vm').setFrames (.throwing q :: below)).heap[q]? = some ce := by
    show T.heap[q]? = some ce
    rw [hT]; exact hcell
  have hend : Ended ((T.setVm vm').setFrames (.throwing q :: below)) below (.threw q) := State.frames_setFrames _ (State.cur_lt_of_frames hfr)
  refine ⟨(T.setVm vm').setFrames (.throwing q :: below), ?_, .threw q, X'.here.running, hend, Or.inr ⟨q, rfl, E, ce, locs, hx _ hT (X'.ends _).1.alike, hcell9, hv, hcl, (X'.ends _).1, (X'.ends _).2.mono hc hs, hf⟩⟩
  rw [X.pushThrowing_eq]
  exact st
/-- a thing of a world lies in the heap -/
theorem vx_lt {D : va_G} {cl : List vw_C} {ws : va_W} {H1 : Heap} (h : va_P D cl ws H1) {k : Nat} {q : Nat × va_E} (hk : ws[k]? = some q) : q.1 < H1.size := (h k q hk).lt
end VXS
/-! ===== END ===== -/
/-! ===== BEGIN methods with a table of their own: called by a name, returning or throwing ===== -/
section VXH
/-! vx_backW, vx_callVX, vx_callSX, vx_callVW, vx_runVW, vx_runVX, vx_runSX, vx_ofWH follow the same proofs as their sisters above (Free/Laws.lean, Shelf42/LK1.lean); vx_outP calls Shelf42/NT130.lean (outThrough). -/
section
variable {l : Launch} {R : Room} {p : Program} {e : Env} {below : List Frame} {s : State} {sargs : Array Value} {y : MethodName} {len W9 : Nat}
theorem vx_backW {ws : List Cond} {rm : Room} {Pc : Array Value → State → Prop} {Qc : Array Value → State → Outcome → State → Prop} {XC : String → State → State → Prop} {mc ms : Nat} {free : Addr → Prop} {bytes : ByteArray} {maxL : Nat} {ret : Option FieldType} {hh : List (Nat × Nat × Nat × Nat)}
    (hM : vx_Met l y ws rm Pc Qc XC mc ms free) (hblind : FrameBlind Pc) (hrc : rm.cells = mc) (hrs : rm.slots = ms)
    (hframes : rm.frames + 1 ≤ R.frames) (hlocals : W9 + (maxL + 11) + rm.locals ≤ R.locals)
    (hws : ∀ w ∈ ws, ∀ a' U, s.WarmedH U.vm → w.before a' U = true) (hcode : Cond.codeWith y bytes maxL ret hh ∈ ws) (hinit : ∀ a' U, s.WarmedH U.vm → (Cond.initialized y.cls).before a' U = true) :
    vx_Back l R p e below s sargs y len W9 (PreOf R mc ms Pc) (PostOf Qc mc ms free) (vx_Post XC mc ms free) := by
  intro m meth c A g ig mk a X hg hsize hdg hW hn hp
  have h1 : (headSpec ws rm).pre.before a A.U = true := atoms_intro fun w hw => hws w hw _ _ X.warmed
  have h2 : (Cond.codeWith y bytes maxL ret hh).before a A.U = true := hws _ hcode _ _ X.warmed
  have h3 : (Cond.initialized y.cls).before a A.U = true := hinit _ _ X.warmed
  have h4 : A.cells + (headSpec ws rm).room.cells ≤ R.cells := by rw [show (headSpec ws rm).room.cells = mc from hrc]; exact hp.1
  have h5 : A.slots + (headSpec ws rm).room.slots ≤ R.slots := by rw [show (headSpec ws rm).room.slots = ms from hrs]; exact hp.2.1
  have hPc : Pc a (A.U.calling g mk a) := hblind _ _ _ _ hp.2.2
  obtain ⟨U, Ls, c0, s0⟩ := A
  dsimp only [Pt.U, Pt.locs, Pt.cells, Pt.slots] at h1 h2 h3 h4 h5 X hn hPc ⊢
  obtain ⟨m9, methY, cY, hn9, hmY, hcY, -, hlY, -⟩ := Cond.codeWith_spec h2
  cases Option.some.inj (hn9.symm.trans hn)
  obtain ⟨kY, hkY, -⟩ := className_of_methodNamed hn
  have hinitY : kY.init = .initialized := Cond.initialized_spec (findClass_of_methodNamed hn) hkY h3
  have h : At U g.method c below := by rw [hg]; exact X.here
  have hlocals9 : W9 + (maxL + 11) + (headSpec ws rm).room.locals ≤ R.locals := hlocals
  have happ : (headSpec ws rm).appliesLoose y e.platform (U.calling g mk a) = true :=
    Spec.appliesLoose_calling (g := g) h hdg hn hkY hinitY
      (X.room_calling (g := g) (R' := (headSpec ws rm).room) hsize hmY hcY hframes (by rw [hlY]; omega) h4 h5) h1
  obtain ⟨mid, hmid⟩ := h.above
  have hfr : (U.setTop g).frames = (.java g :: mid) ++ below := by rw [State.frames_setTop' g h.top, hmid]; rfl
  obtain ⟨o, s₂, hsteps, -, hend, hq⟩ := Steps.callFree hM p X.admits X.cas X.clock (acts := []) hfr happ hPc trivial
  have hq' : vx_Q Qc XC mc ms free a (U.calling g mk a) o s₂ := hq
  rw [State.frames_setTop' g h.top] at hend
  obtain ⟨g₀, hg0⟩ := Option.isSome_iff_exists.mp h.top
  obtain ⟨r, hr⟩ := State.topJava?_eq_some.mp hg0
  have hr' : (({ U with heap := s₂.heap, slotsUsed := s₂.slotsUsed } : State).setVm s₂.vm).frames = .java g₀ :: r := hr
  rcases hq' with ⟨hqc, L, hfe, hL⟩ | ⟨q, rfl, E, ce, L, hx, hce, hcv, hcl, hW₂, hsm, hL⟩
  · obtain ⟨⟨v, rfl⟩, hW₂, e2, q2, q3, q4, q5, q6⟩ := id hfe
    have e3 : s₂ = ({ (U.calling g mk a).setFrames s₂.frames with heap := s₂.heap, slotsUsed := s₂.slotsUsed } : State).setVm s₂.vm := by
      have : s₂ = ({ s₂ with vm := (U.calling g mk a).vm } : State).setVm s₂.vm := rfl
      rw [e2] at this
      exact this
    obtain ⟨c₂, i₂, len₂, hc₂, hd₂, hf₂⟩ := hend
    have hW' : U.WarmedH s₂.vm := hW₂
    have hcc : c₂ = c := by
      have h1 : s₂.code? g.method = U.code? g.method := by
        rw [State.code?_eq, State.code?_eq, hW'.alike.method?]
      exact Option.some.inj (hc₂.symm.trans (h1.trans h.code))
    subst hcc
    have hlen : len₂ = len := by rw [hdg] at hd₂; cases hd₂; rfl
    subst hlen
    have hs₂ : s₂ = (({ U with heap := s₂.heap, slotsUsed := s₂.slotsUsed } : State).setVm s₂.vm).setTop { g with pc := g.pc + len₂, stack := v.toList ++ g.stack } := by
      refine e3.trans ?_
      rw [hf₂, State.calling_eq h.top, State.setFrames_setFrames, State.setTop_of_frames _ hr', hr]
      rfl
    have hsame : U.sameButNew ({ U with heap := s₂.heap, slotsUsed := s₂.slotsUsed } : State) L mc ms := by
      refine ⟨?_, q2, q3, q4, q5, q6⟩
      obtain ⟨t, ht, -⟩ := State.frames_cons hr
      show ({ U with heap := s₂.heap, slotsUsed := s₂.slotsUsed } : State) = { U.setFrames U.frames with heap := s₂.heap, slotsUsed := s₂.slotsUsed }
      rw [State.setFrames_self ht]
    subst hg
    refine Or.inl ⟨v, ⟨(({ U with heap := s₂.heap, slotsUsed := s₂.slotsUsed } : State).setVm s₂.vm), Ls ++ L, c0 + mc, s0 + ms⟩,
      ⟨X.admits, X.cas, X.clock, X.frames, X.room, X.hears, X.method, X.code, (X.here.setHeapUsed s₂.heap s₂.slotsUsed).setVm hW'.alike, X.tail, State.WarmedH.trans X.warmed hW', X.limits, X.bytes, X.same.trans (hsame.setVm s.vm)⟩,
      ⟨g, mk, s₂, L, rfl, rfl, hqc, rfl, hL, rfl, rfl⟩, ?_⟩
    show Steps p.tables e below _ ((({ U with heap := s₂.heap, slotsUsed := s₂.slotsUsed } : State).setVm s₂.vm).setTop { g with pc := g.pc + len₂, stack := v.toList ++ g.stack })
    rw [← hs₂]
    exact hsteps
  · obtain ⟨e2, q2, q3, q4, q5, q6⟩ := id hsm
    have e3 : s₂ = ({ (U.calling g mk a).setFrames s₂.frames with heap := s₂.heap, slotsUsed := s₂.slotsUsed } : State).setVm s₂.vm := by
      have : s₂ = ({ s₂ with vm := (U.calling g mk a).vm } : State).setVm s₂.vm := rfl
      rw [e2] at this
      exact this
    have hf₂ : s₂.frames = .throwing q :: .java g :: U.frames.tail := hend
    have hW' : U.WarmedH s₂.vm := hW₂
    have hs₂ : s₂ = ((({ U with heap := s₂.heap, slotsUsed := s₂.slotsUsed } : State).setVm s₂.vm).setTop g).pushFrame (.throwing q) := by
      refine e3.trans ?_
      rw [hf₂, State.calling_eq h.top, State.setFrames_setFrames, State.pushFrame, State.frames_setTop _ hr', State.setTop_of_frames _ hr', State.setFrames_setFrames, hr]
      rfl
    have hsame : U.sameButNew ({ U with heap := s₂.heap, slotsUsed := s₂.slotsUsed } : State) L mc ms := by
      refine ⟨?_, q2, q3, q4, q5, q6⟩
      obtain ⟨t, ht, -⟩ := State.frames_cons hr
      show ({ U with heap := s₂.heap, slotsUsed := s₂.slotsUsed } : State) = { U.setFrames U.frames with heap := s₂.heap, slotsUsed := s₂.slotsUsed }
      rw [State.setFrames_self ht]
    subst hg
    refine Or.inr ⟨q, ⟨(({ U with heap := s₂.heap, slotsUsed := s₂.slotsUsed } : State).setVm s₂.vm), Ls ++ L, c0 + mc, s0 + ms⟩,
      ⟨X.admits, X.cas, X.clock, X.frames, X.room, X.hears, X.method, X.code, (X.here.setHeapUsed s₂.heap s₂.slotsUsed).setVm hW'.alike, X.tail, State.WarmedH.trans X.warmed hW', X.limits, X.bytes, X.same.trans (hsame.setVm s.vm)⟩,
      ⟨g, mk, s₂, L, E, ce, rfl, rfl, hx, hce, hcv, hcl, rfl, hL, rfl, rfl⟩, ?_⟩
    show Steps p.tables e below _ (((({ U with heap := s₂.heap, slotsUsed := s₂.slotsUsed } : State).setVm s₂.vm).setTop g).pushFrame (.throwing q))
    rw [← hs₂]
    exact hsteps
end
variable {p : Program} {l : Launch} {e : Env} {R : Room} {s : State} {m : MethodId} {args : Array Value} {below : List Frame} {meth : Method} {c : Code} {T : State} {H : Heap} {locs : List Loc} {cells slots : Nat}
theorem vx_callVX (X : Stand p l e R s m args below meth c T locs cells slots) (hexec : p.tables.exec = Jvm.exec) {own C : String} {index : Nat} {y : MethodName} {bytes : ByteArray} {maxL : Nat} {ret : Option FieldType} {hh : List (Nat × Nat × Nat × Nat)}
    (hown : s.vm.findClass own = some m.cls) (hlink : (Cond.methodLink own index y).before args s = true) (hinst : (Cond.instanceMethod y).before args s = true) (hsel : (Cond.selects C y y).before args s = true)
    (hcode : (Cond.codeWith y bytes maxL ret hh).before args s = true) (hy : y.cls ≠ "java/lang/invoke/MethodHandle" ∧ y.cls ≠ "java/lang/invoke/VarHandle")
    {W9 : Nat} {Pre : Pt → Array Value → Prop} {Post : Pt → Array Value → Option Value → Pt → Prop} {PostX : Pt → Array Value → Addr → Pt → Prop} (hK : vx_Back l R p e below s args y 3 W9 Pre Post PostX)
    {b : Addr} {cellB : Cell} (hcell : T.heap[b]? = some cellB) (hobj : cellB.vm.isStatics = false) (hcls : s.vm.findClass C = some cellB.cls)
    {g : JFrame} (hg : g.method = m) (hsize : g.locals.size = c.maxLocals) {argsL rest : List Value} (hlen : ∀ sig, parseMethodDescriptor y.desc = some sig → argsL.length = sig.parameters.length)
    (hstack : g.stack = argsL.reverse ++ .ref b :: rest) (hW : 2 * g.monitorRoom + (rest.map fun v => v.category).sum ≤ W9) (hdg : decode c.code g.pc = .ok (.invokevirtual index, 3))
    (hpre : ∀ vm₁, s.WarmedH vm₁ → Pre ⟨T.setVm vm₁, locs, cells, slots⟩ (Value.ref b :: argsL).toArray) :
    (∃ (v : Option Value) (vm₁ : Vm) (B : Pt), s.WarmedH vm₁ ∧ Stand p l e R s m args below meth c B.U B.locs B.cells B.slots ∧ Post ⟨T.setVm vm₁, locs, cells, slots⟩ (Value.ref b :: argsL).toArray v B ∧
      ∀ target, Steps p.tables e below (B.U.setTop { g with pc := g.pc + 3, stack := v.toList ++ rest }) target → Steps p.tables e below (T.setTop g) target) ∨
    (∃ (q : Addr) (vm₁ : Vm) (B : Pt), s.WarmedH vm₁ ∧ Stand p l e R s m args below meth c B.U B.locs B.cells B.slots ∧ PostX ⟨T.setVm vm₁, locs, cells, slots⟩ (Value.ref b :: argsL).toArray q B ∧
      Steps p.tables e below (T.setTop g) ((B.U.setTop { g with stack := rest }).pushFrame (.throwing q))) := by
  obtain ⟨mk, methM, hnamed, hmethM, hstM, habM⟩ := Cond.instanceMethod_spec hinst
  obtain ⟨m8, methM', cM, hn8, hmethM', -, -, -, -, -, -, hsigM⟩ := Cond.codeWith_spec hcode
  cases Option.some.inj (hn8.symm.trans hnamed)
  cases hmethM.symm.trans hmethM'
  obtain ⟨c2, r2, m2, q1, q2, q3, q4, kP, hkP, hkPi⟩ := Cond.selects_spec hsel
  cases hcls.symm.trans q1
  cases (State.methodFound?_of_named hnamed hy).symm.trans q2
  cases hnamed.symm.trans q3
  have hselP : selectMethod e.platform s.vm cellB.cls mk = .method mk := by rw [Launch.admits_selectMethod X.admits]; exact q4
  obtain ⟨vm₁, X₁, hstep₁⟩ := X.invokevirtual hexec hown hlink hnamed hmethM hstM hkP hkPi hy (a := b) (cell := cellB) hcell
    (fun z h => by rw [h] at hobj; cases hobj) hselP hmethM habM hkP hkPi (g := g) hg (argsL := argsL) (rest := rest) (hlen _ hsigM) hstack hdg
  rcases hK m meth c ⟨T.setVm vm₁, locs, cells, slots⟩ { g with stack := rest } (.invokevirtual index) mk (Value.ref b :: argsL).toArray X₁ hg hsize hdg hW (X₁.named hnamed) (hpre vm₁ X₁.warmed) with ⟨v, B, X', hpost, hsteps⟩ | ⟨q, B, X', hpost, hsteps⟩
  · exact Or.inl ⟨v, vm₁, B, X₁.warmed, X', hpost, fun target h => hstep₁ _ fun acts => by rw [doInvoke_state]; exact hsteps.trans h⟩
  · exact Or.inr ⟨q, vm₁, B, X₁.warmed, X', hpost, hstep₁ _ fun acts => by rw [doInvoke_state]; exact hsteps⟩
theorem vx_callSX (X : Stand p l e R s m args below meth c T locs cells slots) (hexec : p.tables.exec = Jvm.exec) {own : String} {index : Nat} {y : MethodName} {bytes : ByteArray} {maxL : Nat} {ret : Option FieldType} {hh : List (Nat × Nat × Nat × Nat)}
    (hown : s.vm.findClass own = some m.cls) (hlink : (Cond.methodLink own index y).before args s = true) (hstat : (Cond.static y).before args s = true) (hinit : (Cond.initialized y.cls).before args s = true)
    (hcode : (Cond.codeWith y bytes maxL ret hh).before args s = true) (hy : y.cls ≠ "java/lang/invoke/MethodHandle" ∧ y.cls ≠ "java/lang/invoke/VarHandle")
    {W9 : Nat} {Pre : Pt → Array Value → Prop} {Post : Pt → Array Value → Option Value → Pt → Prop} {PostX : Pt → Array Value → Addr → Pt → Prop} (hK : vx_Back l R p e below s args y 3 W9 Pre Post PostX)
    {g : JFrame} (hg : g.method = m) (hsize : g.locals.size = c.maxLocals) {argsL rest : List Value} (hlen : ∀ sig, parseMethodDescriptor y.desc = some sig → argsL.length = sig.parameters.length)
    (hstack : g.stack = argsL.reverse ++ rest) (hW : 2 * g.monitorRoom + (rest.map fun v => v.category).sum ≤ W9) (hdg : decode c.code g.pc = .ok (.invokestatic index, 3))
    (hpre : ∀ vm₁, s.WarmedH vm₁ → Pre ⟨T.setVm vm₁, locs, cells, slots⟩ argsL.toArray) :
    (∃ (v : Option Value) (vm₁ : Vm) (B : Pt), s.WarmedH vm₁ ∧ Stand p l e R s m args below meth c B.U B.locs B.cells B.slots ∧ Post ⟨T.setVm vm₁, locs, cells, slots⟩ argsL.toArray v B ∧
      ∀ target, Steps p.tables e below (B.U.setTop { g with pc := g.pc + 3, stack := v.toList ++ rest }) target → Steps p.tables e below (T.setTop g) target) ∨
    (∃ (q : Addr) (vm₁ : Vm) (B : Pt), s.WarmedH vm₁ ∧ Stand p l e R s m args below meth c B.U B.locs B.cells B.slots ∧ PostX ⟨T.setVm vm₁, locs, cells, slots⟩ argsL.toArray q B ∧
      Steps p.tables e below (T.setTop g) ((B.U.setTop { g with stack := rest }).pushFrame (.throwing q))) := by
  obtain ⟨mk, methM, cM, hnamed, hmethM, -, -, -, -, -, -, hsigM⟩ := Cond.codeWith_spec hcode
  have hstatic : methM.isStatic = true := Cond.static_spec hnamed hmethM hstat
  obtain ⟨kP, hkP, -⟩ := className_of_methodNamed hnamed
  have hinitP : kP.init = .initialized := Cond.initialized_spec (findClass_of_methodNamed hnamed) hkP hinit
  obtain ⟨vm₁, X₁, hstep₁⟩ := X.invokestatic hexec hown hlink hnamed hmethM hstatic hkP hinitP hy (g := g) hg (argsL := argsL) (rest := rest) (hlen _ hsigM) hstack hdg
  rcases hK m meth c ⟨T.setVm vm₁, locs, cells, slots⟩ { g with stack := rest } (.invokestatic index) mk argsL.toArray X₁ hg hsize hdg hW (X₁.named hnamed) (hpre vm₁ X₁.warmed) with ⟨v, B, X', hpost, hsteps⟩ | ⟨q, B, X', hpost, hsteps⟩
  · exact Or.inl ⟨v, vm₁, B, X₁.warmed, X', hpost, fun target h => hstep₁ _ fun acts => by rw [doInvoke_state]; exact hsteps.trans h⟩
  · exact Or.inr ⟨q, vm₁, B, X₁.warmed, X', hpost, hstep₁ _ fun acts => by rw [doInvoke_state]; exact hsteps⟩
theorem vx_callVW (X : Stand p l e R s m args below meth c T locs cells slots) (hexec : p.tables.exec = Jvm.exec) {own C : String} {index : Nat} {y : MethodName} {bytes : ByteArray} {maxL : Nat} {ret : Option FieldType} {hh : List (Nat × Nat × Nat × Nat)}
    (hown : s.vm.findClass own = some m.cls) (hlink : (Cond.methodLink own index y).before args s = true) (hinst : (Cond.instanceMethod y).before args s = true) (hsel : (Cond.selects C y y).before args s = true)
    (hcode : (Cond.codeWith y bytes maxL ret hh).before args s = true) (hy : y.cls ≠ "java/lang/invoke/MethodHandle" ∧ y.cls ≠ "java/lang/invoke/VarHandle")
    {W9 : Nat} {Pre : Pt → Array Value → Prop} {Post : Pt → Array Value → Option Value → Pt → Prop} (hK : Back l R p e below s args y 3 W9 Pre Post)
    {b : Addr} {cellB : Cell} (hcell : T.heap[b]? = some cellB) (hobj : cellB.vm.isStatics = false) (hcls : s.vm.findClass C = some cellB.cls)
    {g : JFrame} (hg : g.method = m) (hsize : g.locals.size = c.maxLocals) {argsL rest : List Value} (hlen : ∀ sig, parseMethodDescriptor y.desc = some sig → argsL.length = sig.parameters.length)
    (hstack : g.stack = argsL.reverse ++ .ref b :: rest) (hW : 2 * g.monitorRoom + (rest.map fun v => v.category).sum ≤ W9) (hdg : decode c.code g.pc = .ok (.invokevirtual index, 3))
    (hpre : ∀ vm₁, s.WarmedH vm₁ → Pre ⟨T.setVm vm₁, locs, cells, slots⟩ (Value.ref b :: argsL).toArray) :
    ∃ (v : Option Value) (vm₁ : Vm) (B : Pt), s.WarmedH vm₁ ∧ Stand p l e R s m args below meth c B.U B.locs B.cells B.slots ∧ Post ⟨T.setVm vm₁, locs, cells, slots⟩ (Value.ref b :: argsL).toArray v B ∧
      ∀ target, Steps p.tables e below (B.U.setTop { g with pc := g.pc + 3, stack := v.toList ++ rest }) target → Steps p.tables e below (T.setTop g) target := by
  obtain ⟨mk, methM, hnamed, hmethM, hstM, habM⟩ := Cond.instanceMethod_spec hinst
  obtain ⟨m8, methM', cM, hn8, hmethM', -, -, -, -, -, -, hsigM⟩ := Cond.codeWith_spec hcode
  cases Option.some.inj (hn8.symm.trans hnamed)
  cases hmethM.symm.trans hmethM'
  obtain ⟨c2, r2, m2, q1, q2, q3, q4, kP, hkP, hkPi⟩ := Cond.selects_spec hsel
  cases hcls.symm.trans q1
  cases (State.methodFound?_of_named hnamed hy).symm.trans q2
  cases hnamed.symm.trans q3
  have hselP : selectMethod e.platform s.vm cellB.cls mk = .method mk := by rw [Launch.admits_selectMethod X.admits]; exact q4
  obtain ⟨vm₁, X₁, hstep₁⟩ := X.invokevirtual hexec hown hlink hnamed hmethM hstM hkP hkPi hy (a := b) (cell := cellB) hcell
    (fun z h => by rw [h] at hobj; cases hobj) hselP hmethM habM hkP hkPi (g := g) hg (argsL := argsL) (rest := rest) (hlen _ hsigM) hstack hdg
  obtain ⟨v, B, X', hpost, hsteps⟩ := hK m meth c ⟨T.setVm vm₁, locs, cells, slots⟩ { g with stack := rest } (.invokevirtual index) mk (Value.ref b :: argsL).toArray X₁ hg hsize hdg hW (X₁.named hnamed) (hpre vm₁ X₁.warmed)
  exact ⟨v, vm₁, B, X₁.warmed, X', hpost, fun target h => hstep₁ _ fun acts => by rw [doInvoke_state]; exact hsteps.trans h⟩
abbrev vx_CVW (R : Room) (s : State) (args : Array Value) (own C : String) (index : Nat) (y : MethodName) (bytes : ByteArray) (maxL : Nat) (ret : Option FieldType) (hh : List (Nat × Nat × Nat × Nat)) (ws : List Cond) (rm : Room) (mc ms n : Nat) : Prop :=
  (rm.cells = mc ∧ rm.slots = ms ∧ rm.frames + 1 ≤ R.frames ∧ 8 + (maxL + 11) + rm.locals ≤ R.locals ∧ (∀ w ∈ ws, ∀ (a' : Array Value) (U : State), s.WarmedH U.vm → w.before a' U = true) ∧ Cond.codeWith y bytes maxL ret hh ∈ ws) ∧
  (Cond.codeWith y bytes maxL ret hh).before args s = true ∧ (Cond.initialized y.cls).before args s = true ∧ (y.cls ≠ "java/lang/invoke/MethodHandle" ∧ y.cls ≠ "java/lang/invoke/VarHandle") ∧
  (∀ sig, parseMethodDescriptor y.desc = some sig → n = sig.parameters.length) ∧ (Cond.methodLink own index y).before args s = true ∧ (Cond.instanceMethod y).before args s = true ∧ (Cond.selects C y y).before args s = true
theorem vx_cwVW {own C : String} {index maxL mc ms : Nat} {y : MethodName} {bytes : ByteArray} {ret : Option FieldType} {hh : List (Nat × Nat × Nat × Nat)} {Ts ws ws' : List Cond} {rm : Room} (n : Nat) (ht : ∀ w ∈ Ts, w.before args s = true) (hT : GoodIn Ts (wsV own index C y ws)) (hw : ws = Cond.codeWith y bytes maxL ret hh :: ws') (hrc : rm.cells = mc) (hrs : rm.slots = ms)
    (hd : y.cls = C ∧ y.cls ≠ "java/lang/invoke/MethodHandle" ∧ y.cls ≠ "java/lang/invoke/VarHandle" ∧ (parseMethodDescriptor y.desc).map (fun d => d.parameters.length) = some n) (hR : rm.frames + 1 ≤ R.frames ∧ 8 + (maxL + 11) + rm.locals ≤ R.locals) :
    vx_CVW R s args own C index y bytes maxL ret hh ws rm mc ms n := by
  obtain ⟨hC, hd⟩ := hd
  subst hC
  have ok : ∀ w ∈ wsV own index y.cls y ws, w.before args s = true := fun w h => ht w (hT w h).1
  have hG : GoodIn Ts ws := fun w h => hT w (by unfold wsV; exact List.mem_append_right _ h)
  have hc : Cond.codeWith y bytes maxL ret hh ∈ ws := by rw [hw]; exact List.mem_cons_self
  refine ⟨⟨hrc, hrs, hR.1, hR.2, pay_in ht hG, hc⟩, ht _ (hG _ hc).1, ok _ (by simp [wsV]), ⟨hd.1, hd.2.1⟩, fun sig h => ?_, ok _ (by simp [wsV]), ok _ (by simp [wsV]), ok _ (by simp [wsV])⟩
  have h2 := hd.2.2
  rw [h] at h2
  exact (Option.some.inj h2).symm
theorem vx_runVW {y : MethodName} {bytes cc : ByteArray} {maxL nL mc ms n index : Nat} {ret : Option FieldType} {hh : List (Nat × Nat × Nat × Nat)} {ws : List Cond} {rm : Room} {Pc : Array Value → State → Prop} {Qc : Array Value → State → Outcome → State → Prop} {free : Addr → Prop} {Ts : List Cond} {own C : String} {b : Addr} {As rest : List Value} {g : JFrame}
    (S : CallFix p m c cc nL s args Ts own) (hM : Met l y ws rm Pc Qc mc ms free) (cw : vx_CVW R s args own C index y bytes maxL ret hh ws rm mc ms n) (hp : PreV s H C b Pc As)
    (hg : g.method = m) (hn : As.length = n) (hsize : g.locals.size = nL) (hstack : g.stack = As.reverse ++ .ref b :: rest) (hW : 2 * g.monitorRoom + (rest.map fun v => v.category).sum ≤ 8) (hdg : decode cc g.pc = .ok (.invokevirtual index, 3)) (hf : cells + mc ≤ R.cells ∧ slots + ms ≤ R.slots) :
    va_Run p l e R s m args below meth c H locs cells slots mc ms g rest (Qc (Value.ref b :: As).toArray) free := by
  obtain ⟨⟨hrc, hrs, hfr, hlo, hws, hcw⟩, hcode, hini, hy, hlen, hl, hin, hse⟩ := cw
  have hK : Back l R p e below s args y 3 8 (PreOf R mc ms Pc) (PostOf Qc mc ms free) := va_backW (hh := hh) (bytes := bytes) (maxL := maxL) (ret := ret) hM hp.1 hrc hrs hfr hlo hws hcw (fun a' U hW => word_at hW (Or.inl (by first | rfl | simp [Cond.onTables, Cond.keeps, Cond.steady])) hini)
  obtain ⟨hx, hb, hml, ho, -⟩ := S
  obtain ⟨-, ⟨cellB, hcB, hoB, hclB⟩, hPc⟩ := hp
  intro T hT X
  obtain ⟨v, vm₁, ⟨U', l2, c2, s2⟩, hW₁, X', ⟨g', mk, t, L, e1, e2, hq, h1, hL, h2, h3⟩, st⟩ := vx_callVW X hx (C := C) (hh := hh) (bytes := bytes) (maxL := maxL) (ret := ret) ho hl hin hse hcode hy hK (by rw [hT]; exact hcB) hoB hclB hg (hsize.trans hml.symm) (argsL := As) (rest := rest) (fun sig h => hn.trans (hlen sig h)) hstack hW (by rw [hb]; exact hdg)
    (fun vm₁ hW₁ => ⟨hf.1, hf.2, hPc (T.setVm vm₁) hT hW₁⟩)
  dsimp only [Pt.U, Pt.locs, Pt.cells, Pt.slots] at X' e1 e2 h1 h2 h3 st
  subst h1; subst h2; subst h3
  exact ⟨v, (T.setVm vm₁).calling g' mk (Value.ref b :: As).toArray, t, U', L, hT, X', hL, e1, e2, hq, st⟩
section
variable {y : MethodName} {bytes cc : ByteArray} {maxL nL mc ms n index : Nat} {ret : Option FieldType} {ws : List Cond} {rm : Room} {Pc : Array Value → State → Prop} {Qc : Array Value → State → Outcome → State → Prop} {XC : String → State → State → Prop} {free : Addr → Prop} {Ts : List Cond} {own C : String} {b : Addr} {As rest : List Value} {g : JFrame}
theorem vx_runVX {hh : List (Nat × Nat × Nat × Nat)} (S : CallFix p m c cc nL s args Ts own) (hM : vx_Met l y ws rm Pc Qc XC mc ms free) (cw : vx_CVW R s args own C index y bytes maxL ret hh ws rm mc ms n) (hp : PreV s H C b Pc As)
    (hg : g.method = m) (hn : As.length = n) (hsize : g.locals.size = nL) (hstack : g.stack = As.reverse ++ .ref b :: rest) (hW : 2 * g.monitorRoom + (rest.map fun v => v.category).sum ≤ 8) (hdg : decode cc g.pc = .ok (.invokevirtual index, 3)) (hf : cells + mc ≤ R.cells ∧ slots + ms ≤ R.slots) :
    vx_Run p l e R s m args below meth c H locs cells slots mc ms g rest (Qc (Value.ref b :: As).toArray) XC free := by
  obtain ⟨⟨hrc, hrs, hfr, hlo, hws, hcw⟩, hcode, hini, hy, hlen, hl, hin, hse⟩ := cw
  have hK : vx_Back l R p e below s args y 3 8 (PreOf R mc ms Pc) (PostOf Qc mc ms free) (vx_Post XC mc ms free) := vx_backW (hh := hh) (bytes := bytes) (maxL := maxL) (ret := ret) hM hp.1 hrc hrs hfr hlo hws hcw (fun a' U hW => word_at hW (Or.inl (by first | rfl | simp [Cond.onTables, Cond.keeps, Cond.steady])) hini)
  obtain ⟨hx, hb, hml, ho, -⟩ := S
  obtain ⟨-, ⟨cellB, hcB, hoB, hclB⟩, hPc⟩ := hp
  intro T hT X
  rcases vx_callVX X hx (C := C) (hh := hh) (bytes := bytes) (maxL := maxL) (ret := ret) ho hl hin hse hcode hy hK (by rw [hT]; exact hcB) hoB hclB hg (hsize.trans hml.symm) (argsL := As) (rest := rest) (fun sig h => hn.trans (hlen sig h)) hstack hW (by rw [hb]; exact hdg)
    (fun vm₁ hW₁ => ⟨hf.1, hf.2, hPc (T.setVm vm₁) hT hW₁⟩) with ⟨v, vm₁, ⟨U', l2, c2, s2⟩, hW₁, X', ⟨g', mk, t, L, e1, e2, hq, h1, hL, h2, h3⟩, st⟩ | ⟨q, vm₁, ⟨U', l2, c2, s2⟩, hW₁, X', ⟨g', mk, t, L, E, ce, e1, e2, hq, hce, hcv, hcl, h1, hL, h2, h3⟩, st⟩
  · dsimp only [Pt.U, Pt.locs, Pt.cells, Pt.slots] at X' e1 e2 h1 h2 h3 st
    subst h1; subst h2; subst h3
    exact Or.inl ⟨v, (T.setVm vm₁).calling g' mk (Value.ref b :: As).toArray, t, U', L, hT, X', hL, e1, e2, hq, st⟩
  · dsimp only [Pt.U, Pt.locs, Pt.cells, Pt.slots] at X' e1 e2 h1 h2 h3 st hcl
    subst h1; subst h2; subst h3
    exact Or.inr ⟨q, (T.setVm vm₁).calling g' mk (Value.ref b :: As).toArray, t, U', L, E, ce, hT, X', hL, e1, e2, hq, hce, hcv, vx_cls hW₁ hcl, st⟩
theorem vx_runSX {hh : List (Nat × Nat × Nat × Nat)} (S : CallFix p m c cc nL s args Ts own) (hM : vx_Met l y ws rm Pc Qc XC mc ms free) (cw : vx_CSW R s args own index y bytes maxL ret hh ws rm mc ms n) (hp : PreS s H Pc As)
    (hg : g.method = m) (hn : As.length = n) (hsize : g.locals.size = nL) (hstack : g.stack = As.reverse ++ rest) (hW : 2 * g.monitorRoom + (rest.map fun v => v.category).sum ≤ 8) (hdg : decode cc g.pc = .ok (.invokestatic index, 3)) (hf : cells + mc ≤ R.cells ∧ slots + ms ≤ R.slots) :
    vx_Run p l e R s m args below meth c H locs cells slots mc ms g rest (Qc As.toArray) XC free := by
  obtain ⟨⟨hrc, hrs, hfr, hlo, hws, hcw⟩, hcode, hini, hy, hlen, hl, hstt⟩ := cw
  have hK : vx_Back l R p e below s args y 3 8 (PreOf R mc ms Pc) (PostOf Qc mc ms free) (vx_Post XC mc ms free) := vx_backW (hh := hh) (bytes := bytes) (maxL := maxL) (ret := ret) hM hp.1 hrc hrs hfr hlo hws hcw (fun a' U hW => word_at hW (Or.inl (by first | rfl | simp [Cond.onTables, Cond.keeps, Cond.steady])) hini)
  obtain ⟨hx, hb, hml, ho, -⟩ := S
  intro T hT X
  rcases vx_callSX X hx (hh := hh) (bytes := bytes) (maxL := maxL) (ret := ret) ho hl hstt hini hcode hy hK hg (hsize.trans hml.symm) (argsL := As) (rest := rest) (fun sig h => hn.trans (hlen sig h)) hstack hW (by rw [hb]; exact hdg)
    (fun vm₁ hW₁ => ⟨hf.1, hf.2, hp.2 (T.setVm vm₁) hT hW₁⟩) with ⟨v, vm₁, ⟨U', l2, c2, s2⟩, hW₁, X', ⟨g', mk, t, L, e1, e2, hq, h1, hL, h2, h3⟩, st⟩ | ⟨q, vm₁, ⟨U', l2, c2, s2⟩, hW₁, X', ⟨g', mk, t, L, E, ce, e1, e2, hq, hce, hcv, hcl, h1, hL, h2, h3⟩, st⟩
  · dsimp only [Pt.U, Pt.locs, Pt.cells, Pt.slots] at X' e1 e2 h1 h2 h3 st
    subst h1; subst h2; subst h3
    exact Or.inl ⟨v, (T.setVm vm₁).calling g' mk As.toArray, t, U', L, hT, X', hL, e1, e2, hq, st⟩
  · dsimp only [Pt.U, Pt.locs, Pt.cells, Pt.slots] at X' e1 e2 h1 h2 h3 st hcl
    subst h1; subst h2; subst h3
    exact Or.inr ⟨q, (T.setVm vm₁).calling g' mk As.toArray, t, U', L, E, ce, hT, X', hL, e1, e2, hq, hce, hcv, vx_cls hW₁ hcl, st⟩
end
end VXH
theorem vx_ofWH {l : Launch} {y : MethodName} {ws ws' : List Cond} {rm : Room} {Pc : Array Value → State → Prop} {Qc : Array Value → State → Outcome → State → Prop} {XC : String → State → State → Prop} {mc ms : Nat} {free : Addr → Prop} {cc : ByteArray} {maxL : Nat} {ret : Option FieldType} {hh : List (Nat × Nat × Nat × Nat)}
    (hy : plainName y.cls = true) (hw : ws = Cond.codeWith y cc maxL ret hh :: ws')
    (body : ∀ p e s m args below meth c s₁, BodyLoose p l y (headSpec ws rm) cc maxL ret e s m args below meth c s₁ → c.maxLocals = maxL → Pc args s →
      W p l e (headSpec ws rm).room s m args below meth c s.heap [] 0 0 (vx_MQ below Qc XC args s mc ms free) (entryFrame m args maxL)) : vx_Met l y ws rm Pc Qc XC mc ms free := by
  refine MetFree.of_bodyS (code := cc) (maxLocals := maxL) (ret := ret) hy ?_ ?_
  · intro args s m h hn
    obtain ⟨m9, meth, c, hn9, h1, h2, h3, h4, -, h5, h6, -⟩ := Cond.codeWith_spec (atoms_spec (ws := ws) h _ (by rw [hw]; exact List.mem_cons_self))
    cases hn.symm.trans hn9
    exact ⟨meth, c, h1, h2, h3, h4, h5, h6⟩
  · intro p e s m args below meth c s₁ B hml hP _
    have hh0 : s₁.heap = s.heap := by rw [B.state]; rfl
    obtain ⟨t, a1, o, b1, b2, b3⟩ := body p e s m args below meth c s₁ B hml hP s₁ hh0 (Stand.of_body B)
    exact ⟨t, o, a1, b1, b2, b3⟩
/-! ===== END ===== -/
end
section
def RCo : String := "MergeRows$Common"
def TCo : u_T := fun k => match k with
  | 0 => ("MergeRows$Common", "placesA", "[I", true)
  | 1 => ("MergeRows$Common", "placesB", "[I", true)
  | 2 => ("MergeRows$Common", "count", "I", false)
  | _ => ("MergeRows$Common", "lengths", "[I", true)
def tyCo : Nat → FieldType := fun k => match k with
  | 0 => .array .int
  | 1 => .array .int
  | 2 => .int
  | _ => .array .int
theorem nmCo : ∀ a, a < 4 → ∀ b, b < 4 → a ≠ b → (TCo a).2.1 ≠ (TCo b).2.1 := by decide +kernel
theorem tokCo : ∀ k, k < 4 → parseFieldDescriptor (TCo k).2.2.1 = some (tyCo k) := by decide +kernel
theorem inCo : ∀ w ∈ u_ws RCo TCo 4, w ∈ hB := by
  intro w hw
  obtain ⟨k, hk, rfl⟩ := List.mem_map.mp hw
  have hk := List.mem_range.mp hk
  match k, hk with
  | 0, _ => exact hB_in 99 (by decide +kernel) (by decide +kernel)
  | 1, _ => exact hB_in 101 (by decide +kernel) (by decide +kernel)
  | 2, _ => exact hB_in 103 (by decide +kernel) (by decide +kernel)
  | 3, _ => exact hB_in 105 (by decide +kernel) (by decide +kernel)
  | k + 4, h => exact absurd h (by omega)
def RHu : String := "MergeRows$Hunks"
def THu : u_T := fun k => match k with
  | 0 => ("MergeRows$Hunks", "cells", "[I", true)
  | 1 => ("MergeRows$Hunks", "count", "I", false)
  | _ => ("MergeRows$Hunks", "common", "LMergeRows$Common;", true)
def tyHu : Nat → FieldType := fun k => match k with
  | 0 => .array .int
  | 1 => .int
  | _ => .object "MergeRows$Common"
theorem nmHu : ∀ a, a < 3 → ∀ b, b < 3 → a ≠ b → (THu a).2.1 ≠ (THu b).2.1 := by decide +kernel
theorem tokHu : ∀ k, k < 3 → parseFieldDescriptor (THu k).2.2.1 = some (tyHu k) := by decide +kernel
theorem inHu : ∀ w ∈ u_ws RHu THu 3, w ∈ hB := by
  intro w hw
  obtain ⟨k, hk, rfl⟩ := List.mem_map.mp hw
  have hk := List.mem_range.mp hk
  match k, hk with
  | 0, _ => exact hB_in 121 (by decide +kernel) (by decide +kernel)
  | 1, _ => exact hB_in 123 (by decide +kernel) (by decide +kernel)
  | 2, _ => exact hB_in 125 (by decide +kernel) (by decide +kernel)
  | k + 3, h => exact absurd h (by omega)
def RMg : String := "MergeRows$Merging"
def TMg : u_T := fun k => match k with
  | 0 => ("MergeRows$Merging", "outcome", "LMergeRows$Row;", true)
  | 1 => ("MergeRows$Merging", "conflictCells", "[I", true)
  | 2 => ("MergeRows$Merging", "conflictCount", "I", false)
  | 3 => ("MergeRows$Merging", "baseAndLeft", "LMergeRows$Common;", true)
  | 4 => ("MergeRows$Merging", "baseAndRight", "LMergeRows$Common;", true)
  | 5 => ("MergeRows$Merging", "basePart", "LMergeRows$Part;", true)
  | 6 => ("MergeRows$Merging", "leftPart", "LMergeRows$Part;", true)
  | _ => ("MergeRows$Merging", "rightPart", "LMergeRows$Part;", true)
def tyMg : Nat → FieldType := fun k => match k with
  | 0 => .object "MergeRows$Row"
  | 1 => .array .int
  | 2 => .int
  | 3 => .object "MergeRows$Common"
  | 4 => .object "MergeRows$Common"
  | 5 => .object "MergeRows$Part"
  | 6 => .object "MergeRows$Part"
  | _ => .object "MergeRows$Part"
theorem nmMg : ∀ a, a < 8 → ∀ b, b < 8 → a ≠ b → (TMg a).2.1 ≠ (TMg b).2.1 := by decide +kernel
theorem tokMg : ∀ k, k < 8 → parseFieldDescriptor (TMg k).2.2.1 = some (tyMg k) := by decide +kernel
theorem inMg : ∀ w ∈ u_ws RMg TMg 8, w ∈ hB := by
  intro w hw
  obtain ⟨k, hk, rfl⟩ := List.mem_map.mp hw
  have hk := List.mem_range.mp hk
  match k, hk with
  | 0, _ => exact hB_in 215 (by decide +kernel) (by decide +kernel)
  | 1, _ => exact hB_in 217 (by decide +kernel) (by decide +kernel)
  | 2, _ => exact hB_in 219 (by decide +kernel) (by decide +kernel)
  | 3, _ => exact hB_in 221 (by decide +kernel) (by decide +kernel)
  | 4, _ => exact hB_in 223 (by decide +kernel) (by decide +kernel)
  | 5, _ => exact hB_in 225 (by decide +kernel) (by decide +kernel)
  | 6, _ => exact hB_in 227 (by decide +kernel) (by decide +kernel)
  | 7, _ => exact hB_in 229 (by decide +kernel) (by decide +kernel)
  | k + 8, h => exact absurd h (by omega)
def RPa : String := "MergeRows$Part"
def TPa : u_T := fun k => match k with
  | 0 => ("MergeRows$Part", "row", "LMergeRows$Row;", false)
  | 1 => ("MergeRows$Part", "from", "I", false)
  | _ => ("MergeRows$Part", "end", "I", false)
def tyPa : Nat → FieldType := fun k => match k with
  | 0 => .object "MergeRows$Row"
  | 1 => .int
  | _ => .int
theorem nmPa : ∀ a, a < 3 → ∀ b, b < 3 → a ≠ b → (TPa a).2.1 ≠ (TPa b).2.1 := by decide +kernel
theorem tokPa : ∀ k, k < 3 → parseFieldDescriptor (TPa k).2.2.1 = some (tyPa k) := by decide +kernel
theorem inPa : ∀ w ∈ u_ws RPa TPa 3, w ∈ hB := by
  intro w hw
  obtain ⟨k, hk, rfl⟩ := List.mem_map.mp hw
  have hk := List.mem_range.mp hk
  match k, hk with
  | 0, _ => exact hB_in 197 (by decide +kernel) (by decide +kernel)
  | 1, _ => exact hB_in 199 (by decide +kernel) (by decide +kernel)
  | 2, _ => exact hB_in 201 (by decide +kernel) (by decide +kernel)
  | k + 3, h => exact absurd h (by omega)
def RPg : String := "MergeRows$Patching"
def TPg : u_T := fun k => match k with
  | 0 => ("MergeRows$Patching", "outcome", "LMergeRows$Row;", true)
  | 1 => ("MergeRows$Patching", "rejected", "I", false)
  | _ => ("MergeRows$Patching", "hunks", "LMergeRows$Hunks;", true)
def tyPg : Nat → FieldType := fun k => match k with
  | 0 => .object "MergeRows$Row"
  | 1 => .int
  | _ => .object "MergeRows$Hunks"
theorem nmPg : ∀ a, a < 3 → ∀ b, b < 3 → a ≠ b → (TPg a).2.1 ≠ (TPg b).2.1 := by decide +kernel
theorem tokPg : ∀ k, k < 3 → parseFieldDescriptor (TPg k).2.2.1 = some (tyPg k) := by decide +kernel
theorem inPg : ∀ w ∈ u_ws RPg TPg 3, w ∈ hB := by
  intro w hw
  obtain ⟨k, hk, rfl⟩ := List.mem_map.mp hw
  have hk := List.mem_range.mp hk
  match k, hk with
  | 0, _ => exact hB_in 141 (by decide +kernel) (by decide +kernel)
  | 1, _ => exact hB_in 143 (by decide +kernel) (by decide +kernel)
  | 2, _ => exact hB_in 145 (by decide +kernel) (by decide +kernel)
  | k + 3, h => exact absurd h (by omega)
def RRo : String := "MergeRows$Row"
def TRo : u_T := fun k => match k with
  | 0 => ("MergeRows$Row", "lines", "[I", true)
  | _ => ("MergeRows$Row", "count", "I", false)
def tyRo : Nat → FieldType := fun k => match k with
  | 0 => .array .int
  | _ => .int
theorem nmRo : ∀ a, a < 2 → ∀ b, b < 2 → a ≠ b → (TRo a).2.1 ≠ (TRo b).2.1 := by decide +kernel
theorem tokRo : ∀ k, k < 2 → parseFieldDescriptor (TRo k).2.2.1 = some (tyRo k) := by decide +kernel
theorem inRo : ∀ w ∈ u_ws RRo TRo 2, w ∈ hB := by
  intro w hw
  obtain ⟨k, hk, rfl⟩ := List.mem_map.mp hw
  have hk := List.mem_range.mp hk
  match k, hk with
  | 0, _ => exact hB_in 71 (by decide +kernel) (by decide +kernel)
  | 1, _ => exact hB_in 73 (by decide +kernel) (by decide +kernel)
  | k + 2, h => exact absurd h (by omega)
def RVe : String := "MergeRows$Versions"
def TVe : u_T := fun k => match k with
  | 0 => ("MergeRows$Versions", "sizes", "[I", true)
  | 1 => ("MergeRows$Versions", "origins", "[I", true)
  | 2 => ("MergeRows$Versions", "count", "I", false)
  | 3 => ("MergeRows$Versions", "newest", "LMergeRows$Row;", true)
  | _ => ("MergeRows$Versions", "common", "LMergeRows$Common;", true)
def tyVe : Nat → FieldType := fun k => match k with
  | 0 => .array .int
  | 1 => .array .int
  | 2 => .int
  | 3 => .object "MergeRows$Row"
  | _ => .object "MergeRows$Common"
theorem nmVe : ∀ a, a < 5 → ∀ b, b < 5 → a ≠ b → (TVe a).2.1 ≠ (TVe b).2.1 := by decide +kernel
theorem tokVe : ∀ k, k < 5 → parseFieldDescriptor (TVe k).2.2.1 = some (tyVe k) := by decide +kernel
theorem inVe : ∀ w ∈ u_ws RVe TVe 5, w ∈ hB := by
  intro w hw
  obtain ⟨k, hk, rfl⟩ := List.mem_map.mp hw
  have hk := List.mem_range.mp hk
  match k, hk with
  | 0, _ => exact hB_in 164 (by decide +kernel) (by decide +kernel)
  | 1, _ => exact hB_in 166 (by decide +kernel) (by decide +kernel)
  | 2, _ => exact hB_in 168 (by decide +kernel) (by decide +kernel)
  | 3, _ => exact hB_in 170 (by decide +kernel) (by decide +kernel)
  | 4, _ => exact hB_in 172 (by decide +kernel) (by decide +kernel)
  | k + 5, h => exact absurd h (by omega)
def RMR : String := "MergeRows"
def TMR : u_T := fun k => match k with
  | 0 => ("MergeRows", "rows", "[LMergeRows$Row;", true)
  | 1 => ("MergeRows", "latestCommon", "LMergeRows$Common;", true)
  | 2 => ("MergeRows", "latestHunks", "LMergeRows$Hunks;", true)
  | 3 => ("MergeRows", "patching", "LMergeRows$Patching;", true)
  | 4 => ("MergeRows", "versions", "LMergeRows$Versions;", true)
  | 5 => ("MergeRows", "latestMerging", "LMergeRows$Merging;", false)
  | _ => ("MergeRows", "spareMerging", "LMergeRows$Merging;", false)
def tyMR : Nat → FieldType := fun k => match k with
  | 0 => .array (.object "MergeRows$Row")
  | 1 => .object "MergeRows$Common"
  | 2 => .object "MergeRows$Hunks"
  | 3 => .object "MergeRows$Patching"
  | 4 => .object "MergeRows$Versions"
  | 5 => .object "MergeRows$Merging"
  | _ => .object "MergeRows$Merging"
theorem nmMR : ∀ a, a < 7 → ∀ b, b < 7 → a ≠ b → (TMR a).2.1 ≠ (TMR b).2.1 := by decide +kernel
theorem tokMR : ∀ k, k < 7 → parseFieldDescriptor (TMR k).2.2.1 = some (tyMR k) := by decide +kernel
theorem inMR : ∀ w ∈ u_ws RMR TMR 7, w ∈ hB := by
  intro w hw
  obtain ⟨k, hk, rfl⟩ := List.mem_map.mp hw
  have hk := List.mem_range.mp hk
  match k, hk with
  | 0, _ => exact hB_in 239 (by decide +kernel) (by decide +kernel)
  | 1, _ => exact hB_in 241 (by decide +kernel) (by decide +kernel)
  | 2, _ => exact hB_in 243 (by decide +kernel) (by decide +kernel)
  | 3, _ => exact hB_in 245 (by decide +kernel) (by decide +kernel)
  | 4, _ => exact hB_in 247 (by decide +kernel) (by decide +kernel)
  | 5, _ => exact hB_in 249 (by decide +kernel) (by decide +kernel)
  | 6, _ => exact hB_in 251 (by decide +kernel) (by decide +kernel)
  | k + 7, h => exact absurd h (by omega)
def RMM : String := "MergeRowsModel"
def TMM : u_T := fun k => match k with
  | 0 => ("MergeRowsModel", "thrown", "I", false)
  | 1 => ("MergeRowsModel", "sizes", "[I", true)
  | 2 => ("MergeRowsModel", "lines", "[I", true)
  | 3 => ("MergeRowsModel", "xs", "I", false)
  | 4 => ("MergeRowsModel", "ys", "I", false)
  | 5 => ("MergeRowsModel", "x", "[I", true)
  | 6 => ("MergeRowsModel", "y", "[I", true)
  | 7 => ("MergeRowsModel", "best", "[I", true)
  | 8 => ("MergeRowsModel", "partner", "[I", true)
  | 9 => ("MergeRowsModel", "pairs", "I", false)
  | 10 => ("MergeRowsModel", "pairA", "[I", true)
  | 11 => ("MergeRowsModel", "pairB", "[I", true)
  | 12 => ("MergeRowsModel", "hunks", "I", false)
  | 13 => ("MergeRowsModel", "hunk", "[I", true)
  | 14 => ("MergeRowsModel", "parts", "I", false)
  | 15 => ("MergeRowsModel", "part", "[I", true)
  | 16 => ("MergeRowsModel", "made", "I", false)
  | 17 => ("MergeRowsModel", "tooLong", "Z", false)
  | 18 => ("MergeRowsModel", "fresh", "[I", true)
  | 19 => ("MergeRowsModel", "left", "[I", true)
  | 20 => ("MergeRowsModel", "right", "[I", true)
  | 21 => ("MergeRowsModel", "conflicts", "I", false)
  | 22 => ("MergeRowsModel", "conflict", "[I", true)
  | 23 => ("MergeRowsModel", "news", "I", false)
  | 24 => ("MergeRowsModel", "newConflict", "[I", true)
  | 25 => ("MergeRowsModel", "versions", "I", false)
  | 26 => ("MergeRowsModel", "versionSizes", "[I", true)
  | 27 => ("MergeRowsModel", "versionLines", "[I", true)
  | _ => ("MergeRowsModel", "origins", "[I", true)
def tyMM : Nat → FieldType := fun k => match k with
  | 0 => .int
  | 1 => .array .int
  | 2 => .array .int
  | 3 => .int
  | 4 => .int
  | 5 => .array .int
  | 6 => .array .int
  | 7 => .array .int
  | 8 => .array .int
  | 9 => .int
  | 10 => .array .int
  | 11 => .array .int
  | 12 => .int
  | 13 => .array .int
  | 14 => .int
  | 15 => .array .int
  | 16 => .int
  | 17 => .boolean
  | 18 => .array .int
  | 19 => .array .int
  | 20 => .array .int
  | 21 => .int
  | 22 => .array .int
  | 23 => .int
  | 24 => .array .int
  | 25 => .int
  | 26 => .array .int
  | 27 => .array .int
  | _ => .array .int
theorem nmMM : ∀ a, a < 29 → ∀ b, b < 29 → a ≠ b → (TMM a).2.1 ≠ (TMM b).2.1 := by decide +kernel
theorem tokMM : ∀ k, k < 29 → parseFieldDescriptor (TMM k).2.2.1 = some (tyMM k) := by decide +kernel
theorem inMM : ∀ w ∈ u_ws RMM TMM 29, w ∈ hB := by
  intro w hw
  obtain ⟨k, hk, rfl⟩ := List.mem_map.mp hw
  have hk := List.mem_range.mp hk
  match k, hk with
  | 0, _ => exact hB_in 622 (by decide +kernel) (by decide +kernel)
  | 1, _ => exact hB_in 624 (by decide +kernel) (by decide +kernel)
  | 2, _ => exact hB_in 626 (by decide +kernel) (by decide +kernel)
  | 3, _ => exact hB_in 628 (by decide +kernel) (by decide +kernel)
  | 4, _ => exact hB_in 630 (by decide +kernel) (by decide +kernel)
  | 5, _ => exact hB_in 632 (by decide +kernel) (by decide +kernel)
  | 6, _ => exact hB_in 634 (by decide +kernel) (by decide +kernel)
  | 7, _ => exact hB_in 636 (by decide +kernel) (by decide +kernel)
  | 8, _ => exact hB_in 638 (by decide +kernel) (by decide +kernel)
  | 9, _ => exact hB_in 640 (by decide +kernel) (by decide +kernel)
  | 10, _ => exact hB_in 642 (by decide +kernel) (by decide +kernel)
  | 11, _ => exact hB_in 644 (by decide +kernel) (by decide +kernel)
  | 12, _ => exact hB_in 646 (by decide +kernel) (by decide +kernel)
  | 13, _ => exact hB_in 648 (by decide +kernel) (by decide +kernel)
  | 14, _ => exact hB_in 650 (by decide +kernel) (by decide +kernel)
  | 15, _ => exact hB_in 652 (by decide +kernel) (by decide +kernel)
  | 16, _ => exact hB_in 654 (by decide +kernel) (by decide +kernel)
  | 17, _ => exact hB_in 656 (by decide +kernel) (by decide +kernel)
  | 18, _ => exact hB_in 658 (by decide +kernel) (by decide +kernel)
  | 19, _ => exact hB_in 660 (by decide +kernel) (by decide +kernel)
  | 20, _ => exact hB_in 662 (by decide +kernel) (by decide +kernel)
  | 21, _ => exact hB_in 664 (by decide +kernel) (by decide +kernel)
  | 22, _ => exact hB_in 666 (by decide +kernel) (by decide +kernel)
  | 23, _ => exact hB_in 668 (by decide +kernel) (by decide +kernel)
  | 24, _ => exact hB_in 670 (by decide +kernel) (by decide +kernel)
  | 25, _ => exact hB_in 672 (by decide +kernel) (by decide +kernel)
  | 26, _ => exact hB_in 674 (by decide +kernel) (by decide +kernel)
  | 27, _ => exact hB_in 676 (by decide +kernel) (by decide +kernel)
  | 28, _ => exact hB_in 678 (by decide +kernel) (by decide +kernel)
  | k + 29, h => exact absurd h (by omega)
def RLa : String := "MergeRowsLaw"
abbrev hC : List vw_C := [(RCo, TCo, 4), (RHu, THu, 3), (RMg, TMg, 8), (RPa, TPa, 3), (RPg, TPg, 3), (RRo, TRo, 2), (RVe, TVe, 5), (RMR, TMR, 7), (RMM, TMM, 29)]
end
section
/-- what a caller needs of a method: an instance method, a static one, a constructor -/
def hcV (y : MethodName) (bytes : ByteArray) (maxL : Nat) (ret : Option FieldType) (n : Nat) : Prop := Cond.code y bytes maxL ret ∈ hB ∧ Cond.initialized y.cls ∈ hB ∧ (y.cls ≠ "java/lang/invoke/MethodHandle" ∧ y.cls ≠ "java/lang/invoke/VarHandle" ∧ (parseMethodDescriptor y.desc).map (fun d => d.parameters.length) = some n) ∧ Cond.instanceMethod y ∈ hB ∧ Cond.selects y.cls y y ∈ hB
def hcS (y : MethodName) (bytes : ByteArray) (maxL : Nat) (ret : Option FieldType) (n : Nat) : Prop := Cond.code y bytes maxL ret ∈ hB ∧ Cond.initialized y.cls ∈ hB ∧ (y.cls ≠ "java/lang/invoke/MethodHandle" ∧ y.cls ≠ "java/lang/invoke/VarHandle" ∧ (parseMethodDescriptor y.desc).map (fun d => d.parameters.length) = some n) ∧ Cond.static y ∈ hB
def hcI (y : MethodName) (bytes : ByteArray) (maxL : Nat) (n : Nat) : Prop := Cond.code y bytes maxL none ∈ hB ∧ Cond.initialized y.cls ∈ hB ∧ (y.cls ≠ "java/lang/invoke/MethodHandle" ∧ y.cls ≠ "java/lang/invoke/VarHandle" ∧ (parseMethodDescriptor y.desc).map (fun d => d.parameters.length) = some n) ∧ y.name = "<init>" ∧ Cond.instanceMethod y ∈ hB
abbrev cMR_init : ByteArray := prog_1_method_1_code
def yMR_init : MethodName := ⟨RMR, "<init>", "()V"⟩
set_option maxRecDepth 20000 in
theorem kMR_init : hcI yMR_init cMR_init 4 0 := ⟨hB_in 47 rfl (by decide +kernel), hB_in 27 rfl (by decide +kernel), ⟨by decide +kernel, by decide +kernel, by decide +kernel⟩, rfl, hB_in 46 rfl (by decide +kernel)⟩
abbrev cMR_put : ByteArray := prog_1_method_2_code
def yMR_put : MethodName := ⟨RMR, "put", "(II)I"⟩
set_option maxRecDepth 20000 in
theorem kMR_put : hcV yMR_put cMR_put 4 (some .int) 2 := ⟨hB_in 262 rfl (by decide +kernel), hB_in 27 rfl (by decide +kernel), ⟨by decide +kernel, by decide +kernel, by decide +kernel⟩, hB_in 260 rfl (by decide +kernel), hB_in 261 rfl (by decide +kernel)⟩
abbrev cMR_clear : ByteArray := prog_1_method_3_code
def yMR_clear : MethodName := ⟨RMR, "clear", "(I)V"⟩
set_option maxRecDepth 20000 in
theorem kMR_clear : hcV yMR_clear cMR_clear 2 none 1 := ⟨hB_in 361 rfl (by decide +kernel), hB_in 27 rfl (by decide +kernel), ⟨by decide +kernel, by decide +kernel, by decide +kernel⟩, hB_in 359 rfl (by decide +kernel), hB_in 360 rfl (by decide +kernel)⟩
abbrev cMR_size : ByteArray := prog_1_method_4_code
def yMR_size : MethodName := ⟨RMR, "size", "(I)I"⟩
set_option maxRecDepth 20000 in
theorem kMR_size : hcV yMR_size cMR_size 2 (some .int) 1 := ⟨hB_in 368 rfl (by decide +kernel), hB_in 27 rfl (by decide +kernel), ⟨by decide +kernel, by decide +kernel, by decide +kernel⟩, hB_in 366 rfl (by decide +kernel), hB_in 367 rfl (by decide +kernel)⟩
abbrev cMR_get : ByteArray := prog_1_method_5_code
def yMR_get : MethodName := ⟨RMR, "get", "(II)I"⟩
set_option maxRecDepth 20000 in
theorem kMR_get : hcV yMR_get cMR_get 4 (some .int) 2 := ⟨hB_in 376 rfl (by decide +kernel), hB_in 27 rfl (by decide +kernel), ⟨by decide +kernel, by decide +kernel, by decide +kernel⟩, hB_in 374 rfl (by decide +kernel), hB_in 375 rfl (by decide +kernel)⟩
abbrev cMR_common : ByteArray := prog_1_method_6_code
def yMR_common : MethodName := ⟨RMR, "common", "(II)I"⟩
set_option maxRecDepth 20000 in
theorem kMR_common : hcV yMR_common cMR_common 5 (some .int) 2 := ⟨hB_in 399 rfl (by decide +kernel), hB_in 27 rfl (by decide +kernel), ⟨by decide +kernel, by decide +kernel, by decide +kernel⟩, hB_in 397 rfl (by decide +kernel), hB_in 398 rfl (by decide +kernel)⟩
abbrev cMR_pair : ByteArray := prog_1_method_7_code
def yMR_pair : MethodName := ⟨RMR, "pair", "(II)I"⟩
set_option maxRecDepth 20000 in
theorem kMR_pair : hcV yMR_pair cMR_pair 3 (some .int) 2 := ⟨hB_in 433 rfl (by decide +kernel), hB_in 27 rfl (by decide +kernel), ⟨by decide +kernel, by decide +kernel, by decide +kernel⟩, hB_in 431 rfl (by decide +kernel), hB_in 432 rfl (by decide +kernel)⟩
abbrev cMR_hunks : ByteArray := prog_1_method_8_code
def yMR_hunks : MethodName := ⟨RMR, "hunks", "(II)I"⟩
set_option maxRecDepth 20000 in
theorem kMR_hunks : hcV yMR_hunks cMR_hunks 5 (some .int) 2 := ⟨hB_in 441 rfl (by decide +kernel), hB_in 27 rfl (by decide +kernel), ⟨by decide +kernel, by decide +kernel, by decide +kernel⟩, hB_in 439 rfl (by decide +kernel), hB_in 440 rfl (by decide +kernel)⟩
abbrev cMR_hunk : ByteArray := prog_1_method_9_code
def yMR_hunk : MethodName := ⟨RMR, "hunk", "(II)I"⟩
set_option maxRecDepth 20000 in
theorem kMR_hunk : hcV yMR_hunk cMR_hunk 3 (some .int) 2 := ⟨hB_in 457 rfl (by decide +kernel), hB_in 27 rfl (by decide +kernel), ⟨by decide +kernel, by decide +kernel, by decide +kernel⟩, hB_in 455 rfl (by decide +kernel), hB_in 456 rfl (by decide +kernel)⟩
abbrev cMR_merge : ByteArray := prog_1_method_10_code
def yMR_merge : MethodName := ⟨RMR, "merge", "(IIII)I"⟩
set_option maxRecDepth 20000 in
theorem kMR_merge : hcV yMR_merge cMR_merge 10 (some .int) 4 := ⟨hB_in 465 rfl (by decide +kernel), hB_in 27 rfl (by decide +kernel), ⟨by decide +kernel, by decide +kernel, by decide +kernel⟩, hB_in 463 rfl (by decide +kernel), hB_in 464 rfl (by decide +kernel)⟩
abbrev cMR_conflict : ByteArray := prog_1_method_11_code
def yMR_conflict : MethodName := ⟨RMR, "conflict", "(II)I"⟩
set_option maxRecDepth 20000 in
theorem kMR_conflict : hcV yMR_conflict cMR_conflict 3 (some .int) 2 := ⟨hB_in 529 rfl (by decide +kernel), hB_in 27 rfl (by decide +kernel), ⟨by decide +kernel, by decide +kernel, by decide +kernel⟩, hB_in 527 rfl (by decide +kernel), hB_in 528 rfl (by decide +kernel)⟩
abbrev cMR_patch : ByteArray := prog_1_method_12_code
def yMR_patch : MethodName := ⟨RMR, "patch", "(IIII)I"⟩
set_option maxRecDepth 20000 in
theorem kMR_patch : hcV yMR_patch cMR_patch 9 (some .int) 4 := ⟨hB_in 537 rfl (by decide +kernel), hB_in 27 rfl (by decide +kernel), ⟨by decide +kernel, by decide +kernel, by decide +kernel⟩, hB_in 535 rfl (by decide +kernel), hB_in 536 rfl (by decide +kernel)⟩
abbrev cMR_commit : ByteArray := prog_1_method_13_code
def yMR_commit : MethodName := ⟨RMR, "commit", "(I)I"⟩
set_option maxRecDepth 20000 in
theorem kMR_commit : hcV yMR_commit cMR_commit 3 (some .int) 1 := ⟨hB_in 567 rfl (by decide +kernel), hB_in 27 rfl (by decide +kernel), ⟨by decide +kernel, by decide +kernel, by decide +kernel⟩, hB_in 565 rfl (by decide +kernel), hB_in 566 rfl (by decide +kernel)⟩
abbrev cMR_origin : ByteArray := prog_1_method_14_code
def yMR_origin : MethodName := ⟨RMR, "origin", "(II)I"⟩
set_option maxRecDepth 20000 in
theorem kMR_origin : hcV yMR_origin cMR_origin 3 (some .int) 2 := ⟨hB_in 585 rfl (by decide +kernel), hB_in 27 rfl (by decide +kernel), ⟨by decide +kernel, by decide +kernel, by decide +kernel⟩, hB_in 583 rfl (by decide +kernel), hB_in 584 rfl (by decide +kernel)⟩
abbrev cMR_rowAt : ByteArray := prog_1_method_15_code
def yMR_rowAt : MethodName := ⟨RMR, "rowAt", "(I)LMergeRows$Row;"⟩
set_option maxRecDepth 20000 in
theorem kMR_rowAt : hcV yMR_rowAt cMR_rowAt 2 (some (.object "MergeRows$Row")) 1 := ⟨hB_in 266 rfl (by decide +kernel), hB_in 27 rfl (by decide +kernel), ⟨by decide +kernel, by decide +kernel, by decide +kernel⟩, hB_in 265 rfl (by decide +kernel), hB_in 0 rfl (by decide +kernel)⟩
abbrev cMR_fillWithOutcome : ByteArray := prog_1_method_16_code
def yMR_fillWithOutcome : MethodName := ⟨RMR, "fillWithOutcome", "(LMergeRows$Row;LMergeRows$Row;)V"⟩
set_option maxRecDepth 20000 in
theorem kMR_fillWithOutcome : hcS yMR_fillWithOutcome cMR_fillWithOutcome 2 none 2 := ⟨hB_in 516 rfl (by decide +kernel), hB_in 27 rfl (by decide +kernel), ⟨by decide +kernel, by decide +kernel, by decide +kernel⟩, hB_in 515 rfl (by decide +kernel)⟩
abbrev cMM_init : ByteArray := prog_10_method_1_code
def yMM_init : MethodName := ⟨RMM, "<init>", "()V"⟩
set_option maxRecDepth 20000 in
theorem kMM_init : hcI yMM_init cMM_init 1 0 := ⟨hB_in 591 rfl (by decide +kernel), hB_in 35 rfl (by decide +kernel), ⟨by decide +kernel, by decide +kernel, by decide +kernel⟩, rfl, hB_in 590 rfl (by decide +kernel)⟩
abbrev cMM_thrown : ByteArray := prog_10_method_2_code
def yMM_thrown : MethodName := ⟨RMM, "thrown", "()I"⟩
set_option maxRecDepth 20000 in
theorem kMM_thrown : hcV yMM_thrown cMM_thrown 1 (some .int) 0 := ⟨hB_in 684 rfl (by decide +kernel), hB_in 35 rfl (by decide +kernel), ⟨by decide +kernel, by decide +kernel, by decide +kernel⟩, hB_in 682 rfl (by decide +kernel), hB_in 683 rfl (by decide +kernel)⟩
abbrev cMM_refuse : ByteArray := prog_10_method_3_code
def yMM_refuse : MethodName := ⟨RMM, "refuse", "(ZZ)Z"⟩
set_option maxRecDepth 20000 in
theorem kMM_refuse : hcV yMM_refuse cMM_refuse 3 (some .boolean) 2 := ⟨hB_in 695 rfl (by decide +kernel), hB_in 35 rfl (by decide +kernel), ⟨by decide +kernel, by decide +kernel, by decide +kernel⟩, hB_in 694 rfl (by decide +kernel), hB_in 13 rfl (by decide +kernel)⟩
abbrev cMM_isRow : ByteArray := prog_10_method_4_code
def yMM_isRow : MethodName := ⟨RMM, "isRow", "(I)Z"⟩
set_option maxRecDepth 20000 in
theorem kMM_isRow : hcS yMM_isRow cMM_isRow 1 (some .boolean) 1 := ⟨hB_in 691 rfl (by decide +kernel), hB_in 35 rfl (by decide +kernel), ⟨by decide +kernel, by decide +kernel, by decide +kernel⟩, hB_in 690 rfl (by decide +kernel)⟩
abbrev cMM_put : ByteArray := prog_10_method_5_code
def yMM_put : MethodName := ⟨RMM, "put", "(II)I"⟩
set_option maxRecDepth 20000 in
theorem kMM_put : hcV yMM_put cMM_put 4 (some .int) 2 := ⟨hB_in 688 rfl (by decide +kernel), hB_in 35 rfl (by decide +kernel), ⟨by decide +kernel, by decide +kernel, by decide +kernel⟩, hB_in 686 rfl (by decide +kernel), hB_in 687 rfl (by decide +kernel)⟩
abbrev cMM_clear : ByteArray := prog_10_method_6_code
def yMM_clear : MethodName := ⟨RMM, "clear", "(I)V"⟩
set_option maxRecDepth 20000 in
theorem kMM_clear : hcV yMM_clear cMM_clear 2 none 1 := ⟨hB_in 699 rfl (by decide +kernel), hB_in 35 rfl (by decide +kernel), ⟨by decide +kernel, by decide +kernel, by decide +kernel⟩, hB_in 697 rfl (by decide +kernel), hB_in 698 rfl (by decide +kernel)⟩
abbrev cMM_size : ByteArray := prog_10_method_7_code
def yMM_size : MethodName := ⟨RMM, "size", "(I)I"⟩
set_option maxRecDepth 20000 in
theorem kMM_size : hcV yMM_size cMM_size 2 (some .int) 1 := ⟨hB_in 703 rfl (by decide +kernel), hB_in 35 rfl (by decide +kernel), ⟨by decide +kernel, by decide +kernel, by decide +kernel⟩, hB_in 701 rfl (by decide +kernel), hB_in 702 rfl (by decide +kernel)⟩
abbrev cMM_get : ByteArray := prog_10_method_8_code
def yMM_get : MethodName := ⟨RMM, "get", "(II)I"⟩
set_option maxRecDepth 20000 in
theorem kMM_get : hcV yMM_get cMM_get 4 (some .int) 2 := ⟨hB_in 707 rfl (by decide +kernel), hB_in 35 rfl (by decide +kernel), ⟨by decide +kernel, by decide +kernel, by decide +kernel⟩, hB_in 705 rfl (by decide +kernel), hB_in 706 rfl (by decide +kernel)⟩
abbrev cMM_first : ByteArray := prog_10_method_9_code
def yMM_first : MethodName := ⟨RMM, "first", "([III)V"⟩
set_option maxRecDepth 20000 in
theorem kMM_first : hcV yMM_first cMM_first 5 none 3 := ⟨hB_in 719 rfl (by decide +kernel), hB_in 35 rfl (by decide +kernel), ⟨by decide +kernel, by decide +kernel, by decide +kernel⟩, hB_in 718 rfl (by decide +kernel), hB_in 15 rfl (by decide +kernel)⟩
abbrev cMM_second : ByteArray := prog_10_method_10_code
def yMM_second : MethodName := ⟨RMM, "second", "([III)V"⟩
set_option maxRecDepth 20000 in
theorem kMM_second : hcV yMM_second cMM_second 5 none 3 := ⟨hB_in 723 rfl (by decide +kernel), hB_in 35 rfl (by decide +kernel), ⟨by decide +kernel, by decide +kernel, by decide +kernel⟩, hB_in 722 rfl (by decide +kernel), hB_in 16 rfl (by decide +kernel)⟩
abbrev cMM_rows : ByteArray := prog_10_method_11_code
def yMM_rows : MethodName := ⟨RMM, "rows", "(II)V"⟩
set_option maxRecDepth 20000 in
theorem kMM_rows : hcV yMM_rows cMM_rows 3 none 2 := ⟨hB_in 715 rfl (by decide +kernel), hB_in 35 rfl (by decide +kernel), ⟨by decide +kernel, by decide +kernel, by decide +kernel⟩, hB_in 714 rfl (by decide +kernel), hB_in 14 rfl (by decide +kernel)⟩
abbrev cMM_compare : ByteArray := prog_10_method_12_code
def yMM_compare : MethodName := ⟨RMM, "compare", "()V"⟩
set_option maxRecDepth 20000 in
theorem kMM_compare : hcV yMM_compare cMM_compare 7 none 0 := ⟨hB_in 727 rfl (by decide +kernel), hB_in 35 rfl (by decide +kernel), ⟨by decide +kernel, by decide +kernel, by decide +kernel⟩, hB_in 726 rfl (by decide +kernel), hB_in 17 rfl (by decide +kernel)⟩
abbrev cMM_common : ByteArray := prog_10_method_13_code
def yMM_common : MethodName := ⟨RMM, "common", "(II)I"⟩
set_option maxRecDepth 20000 in
theorem kMM_common : hcV yMM_common cMM_common 4 (some .int) 2 := ⟨hB_in 711 rfl (by decide +kernel), hB_in 35 rfl (by decide +kernel), ⟨by decide +kernel, by decide +kernel, by decide +kernel⟩, hB_in 709 rfl (by decide +kernel), hB_in 710 rfl (by decide +kernel)⟩
abbrev cMM_pair : ByteArray := prog_10_method_14_code
def yMM_pair : MethodName := ⟨RMM, "pair", "(II)I"⟩
set_option maxRecDepth 20000 in
theorem kMM_pair : hcV yMM_pair cMM_pair 3 (some .int) 2 := ⟨hB_in 731 rfl (by decide +kernel), hB_in 35 rfl (by decide +kernel), ⟨by decide +kernel, by decide +kernel, by decide +kernel⟩, hB_in 729 rfl (by decide +kernel), hB_in 730 rfl (by decide +kernel)⟩
abbrev cMM_addPart : ByteArray := prog_10_method_15_code
def yMM_addPart : MethodName := ⟨RMM, "addPart", "(IIII)V"⟩
set_option maxRecDepth 20000 in
theorem kMM_addPart : hcV yMM_addPart cMM_addPart 5 none 4 := ⟨hB_in 743 rfl (by decide +kernel), hB_in 35 rfl (by decide +kernel), ⟨by decide +kernel, by decide +kernel, by decide +kernel⟩, hB_in 742 rfl (by decide +kernel), hB_in 19 rfl (by decide +kernel)⟩
abbrev cMM_cut : ByteArray := prog_10_method_16_code
def yMM_cut : MethodName := ⟨RMM, "cut", "()V"⟩
set_option maxRecDepth 20000 in
theorem kMM_cut : hcV yMM_cut cMM_cut 4 none 0 := ⟨hB_in 739 rfl (by decide +kernel), hB_in 35 rfl (by decide +kernel), ⟨by decide +kernel, by decide +kernel, by decide +kernel⟩, hB_in 738 rfl (by decide +kernel), hB_in 18 rfl (by decide +kernel)⟩
abbrev cMM_hunks : ByteArray := prog_10_method_17_code
def yMM_hunks : MethodName := ⟨RMM, "hunks", "(II)I"⟩
set_option maxRecDepth 20000 in
theorem kMM_hunks : hcV yMM_hunks cMM_hunks 4 (some .int) 2 := ⟨hB_in 735 rfl (by decide +kernel), hB_in 35 rfl (by decide +kernel), ⟨by decide +kernel, by decide +kernel, by decide +kernel⟩, hB_in 733 rfl (by decide +kernel), hB_in 734 rfl (by decide +kernel)⟩
abbrev cMM_hunk : ByteArray := prog_10_method_18_code
def yMM_hunk : MethodName := ⟨RMM, "hunk", "(II)I"⟩
set_option maxRecDepth 20000 in
theorem kMM_hunk : hcV yMM_hunk cMM_hunk 3 (some .int) 2 := ⟨hB_in 747 rfl (by decide +kernel), hB_in 35 rfl (by decide +kernel), ⟨by decide +kernel, by decide +kernel, by decide +kernel⟩, hB_in 745 rfl (by decide +kernel), hB_in 746 rfl (by decide +kernel)⟩
abbrev cMM_write : ByteArray := prog_10_method_19_code
def yMM_write : MethodName := ⟨RMM, "write", "(I)V"⟩
set_option maxRecDepth 20000 in
theorem kMM_write : hcV yMM_write cMM_write 2 none 1 := ⟨hB_in 767 rfl (by decide +kernel), hB_in 35 rfl (by decide +kernel), ⟨by decide +kernel, by decide +kernel, by decide +kernel⟩, hB_in 766 rfl (by decide +kernel), hB_in 23 rfl (by decide +kernel)⟩
abbrev cMM_writePart : ByteArray := prog_10_method_20_code
def yMM_writePart : MethodName := ⟨RMM, "writePart", "(III)V"⟩
set_option maxRecDepth 20000 in
theorem kMM_writePart : hcV yMM_writePart cMM_writePart 5 none 3 := ⟨hB_in 763 rfl (by decide +kernel), hB_in 35 rfl (by decide +kernel), ⟨by decide +kernel, by decide +kernel, by decide +kernel⟩, hB_in 762 rfl (by decide +kernel), hB_in 22 rfl (by decide +kernel)⟩
abbrev cMM_alike : ByteArray := prog_10_method_21_code
def yMM_alike : MethodName := ⟨RMM, "alike", "(IIIIII)Z"⟩
set_option maxRecDepth 20000 in
theorem kMM_alike : hcV yMM_alike cMM_alike 9 (some .boolean) 6 := ⟨hB_in 759 rfl (by decide +kernel), hB_in 35 rfl (by decide +kernel), ⟨by decide +kernel, by decide +kernel, by decide +kernel⟩, hB_in 758 rfl (by decide +kernel), hB_in 21 rfl (by decide +kernel)⟩
abbrev cMM_joinParts : ByteArray := prog_10_method_22_code
def yMM_joinParts : MethodName := ⟨RMM, "joinParts", "(IIIIIIIII)V"⟩
set_option maxRecDepth 20000 in
theorem kMM_joinParts : hcV yMM_joinParts cMM_joinParts 11 none 9 := ⟨hB_in 755 rfl (by decide +kernel), hB_in 35 rfl (by decide +kernel), ⟨by decide +kernel, by decide +kernel, by decide +kernel⟩, hB_in 754 rfl (by decide +kernel), hB_in 20 rfl (by decide +kernel)⟩
abbrev cMM_become : ByteArray := prog_10_method_23_code
def yMM_become : MethodName := ⟨RMM, "become", "(I)V"⟩
set_option maxRecDepth 20000 in
theorem kMM_become : hcV yMM_become cMM_become 3 none 1 := ⟨hB_in 771 rfl (by decide +kernel), hB_in 35 rfl (by decide +kernel), ⟨by decide +kernel, by decide +kernel, by decide +kernel⟩, hB_in 770 rfl (by decide +kernel), hB_in 24 rfl (by decide +kernel)⟩
abbrev cMM_merge : ByteArray := prog_10_method_24_code
def yMM_merge : MethodName := ⟨RMM, "merge", "(IIII)I"⟩
set_option maxRecDepth 20000 in
theorem kMM_merge : hcV yMM_merge cMM_merge 9 (some .int) 4 := ⟨hB_in 751 rfl (by decide +kernel), hB_in 35 rfl (by decide +kernel), ⟨by decide +kernel, by decide +kernel, by decide +kernel⟩, hB_in 749 rfl (by decide +kernel), hB_in 750 rfl (by decide +kernel)⟩
abbrev cMM_conflict : ByteArray := prog_10_method_25_code
def yMM_conflict : MethodName := ⟨RMM, "conflict", "(II)I"⟩
set_option maxRecDepth 20000 in
theorem kMM_conflict : hcV yMM_conflict cMM_conflict 3 (some .int) 2 := ⟨hB_in 775 rfl (by decide +kernel), hB_in 35 rfl (by decide +kernel), ⟨by decide +kernel, by decide +kernel, by decide +kernel⟩, hB_in 773 rfl (by decide +kernel), hB_in 774 rfl (by decide +kernel)⟩
abbrev cMM_fits : ByteArray := prog_10_method_26_code
def yMM_fits : MethodName := ⟨RMM, "fits", "(III)Z"⟩
set_option maxRecDepth 20000 in
theorem kMM_fits : hcV yMM_fits cMM_fits 8 (some .boolean) 3 := ⟨hB_in 786 rfl (by decide +kernel), hB_in 35 rfl (by decide +kernel), ⟨by decide +kernel, by decide +kernel, by decide +kernel⟩, hB_in 785 rfl (by decide +kernel), hB_in 25 rfl (by decide +kernel)⟩
abbrev cMM_apart : ByteArray := prog_10_method_27_code
def yMM_apart : MethodName := ⟨RMM, "apart", "(II)I"⟩
set_option maxRecDepth 20000 in
theorem kMM_apart : hcS yMM_apart cMM_apart 2 (some .int) 2 := ⟨hB_in 782 rfl (by decide +kernel), hB_in 35 rfl (by decide +kernel), ⟨by decide +kernel, by decide +kernel, by decide +kernel⟩, hB_in 781 rfl (by decide +kernel)⟩
abbrev cMM_patch : ByteArray := prog_10_method_28_code
def yMM_patch : MethodName := ⟨RMM, "patch", "(IIII)I"⟩
set_option maxRecDepth 20000 in
theorem kMM_patch : hcV yMM_patch cMM_patch 13 (some .int) 4 := ⟨hB_in 779 rfl (by decide +kernel), hB_in 35 rfl (by decide +kernel), ⟨by decide +kernel, by decide +kernel, by decide +kernel⟩, hB_in 777 rfl (by decide +kernel), hB_in 778 rfl (by decide +kernel)⟩
abbrev cMM_commit : ByteArray := prog_10_method_29_code
def yMM_commit : MethodName := ⟨RMM, "commit", "(I)I"⟩
set_option maxRecDepth 20000 in
theorem kMM_commit : hcV yMM_commit cMM_commit 5 (some .int) 1 := ⟨hB_in 790 rfl (by decide +kernel), hB_in 35 rfl (by decide +kernel), ⟨by decide +kernel, by decide +kernel, by decide +kernel⟩, hB_in 788 rfl (by decide +kernel), hB_in 789 rfl (by decide +kernel)⟩
abbrev cMM_origin : ByteArray := prog_10_method_30_code
def yMM_origin : MethodName := ⟨RMM, "origin", "(II)I"⟩
set_option maxRecDepth 20000 in
theorem kMM_origin : hcV yMM_origin cMM_origin 4 (some .int) 2 := ⟨hB_in 794 rfl (by decide +kernel), hB_in 35 rfl (by decide +kernel), ⟨by decide +kernel, by decide +kernel, by decide +kernel⟩, hB_in 792 rfl (by decide +kernel), hB_in 793 rfl (by decide +kernel)⟩
abbrev cCo_init : ByteArray := prog_2_method_1_code
def yCo_init : MethodName := ⟨RCo, "<init>", "([I)V"⟩
set_option maxRecDepth 20000 in
theorem kCo_init : hcI yCo_init cCo_init 2 1 := ⟨hB_in 81 rfl (by decide +kernel), hB_in 29 rfl (by decide +kernel), ⟨by decide +kernel, by decide +kernel, by decide +kernel⟩, rfl, hB_in 80 rfl (by decide +kernel)⟩
abbrev cCo_find : ByteArray := prog_2_method_2_code
def yCo_find : MethodName := ⟨RCo, "find", "(LMergeRows$Row;LMergeRows$Row;)V"⟩
set_option maxRecDepth 20000 in
theorem kCo_find : hcV yCo_find cCo_find 6 none 2 := ⟨hB_in 403 rfl (by decide +kernel), hB_in 29 rfl (by decide +kernel), ⟨by decide +kernel, by decide +kernel, by decide +kernel⟩, hB_in 401 rfl (by decide +kernel), hB_in 402 rfl (by decide +kernel)⟩
abbrev cCo_measure : ByteArray := prog_2_method_3_code
def yCo_measure : MethodName := ⟨RCo, "measure", "(LMergeRows$Row;LMergeRows$Row;)V"⟩
set_option maxRecDepth 20000 in
theorem kCo_measure : hcV yCo_measure cCo_measure 6 none 2 := ⟨hB_in 407 rfl (by decide +kernel), hB_in 29 rfl (by decide +kernel), ⟨by decide +kernel, by decide +kernel, by decide +kernel⟩, hB_in 406 rfl (by decide +kernel), hB_in 2 rfl (by decide +kernel)⟩
abbrev cCo_clearEnds : ByteArray := prog_2_method_4_code
def yCo_clearEnds : MethodName := ⟨RCo, "clearEnds", "(II)V"⟩
set_option maxRecDepth 20000 in
theorem kCo_clearEnds : hcV yCo_clearEnds cCo_clearEnds 4 none 2 := ⟨hB_in 411 rfl (by decide +kernel), hB_in 29 rfl (by decide +kernel), ⟨by decide +kernel, by decide +kernel, by decide +kernel⟩, hB_in 410 rfl (by decide +kernel), hB_in 3 rfl (by decide +kernel)⟩
abbrev cCo_losesNoPair : ByteArray := prog_2_method_5_code
def yCo_losesNoPair : MethodName := ⟨RCo, "losesNoPair", "(III)Z"⟩
set_option maxRecDepth 20000 in
theorem kCo_losesNoPair : hcV yCo_losesNoPair cCo_losesNoPair 5 (some .boolean) 3 := ⟨hB_in 422 rfl (by decide +kernel), hB_in 29 rfl (by decide +kernel), ⟨by decide +kernel, by decide +kernel, by decide +kernel⟩, hB_in 421 rfl (by decide +kernel), hB_in 4 rfl (by decide +kernel)⟩
abbrev cCo_addPair : ByteArray := prog_2_method_6_code
def yCo_addPair : MethodName := ⟨RCo, "addPair", "(II)V"⟩
set_option maxRecDepth 20000 in
theorem kCo_addPair : hcV yCo_addPair cCo_addPair 3 none 2 := ⟨hB_in 426 rfl (by decide +kernel), hB_in 29 rfl (by decide +kernel), ⟨by decide +kernel, by decide +kernel, by decide +kernel⟩, hB_in 425 rfl (by decide +kernel), hB_in 5 rfl (by decide +kernel)⟩
abbrev cHu_init : ByteArray := prog_3_method_1_code
def yHu_init : MethodName := ⟨RHu, "<init>", "(LMergeRows$Common;)V"⟩
set_option maxRecDepth 20000 in
theorem kHu_init : hcI yHu_init cHu_init 2 1 := ⟨hB_in 112 rfl (by decide +kernel), hB_in 30 rfl (by decide +kernel), ⟨by decide +kernel, by decide +kernel, by decide +kernel⟩, rfl, hB_in 111 rfl (by decide +kernel)⟩
abbrev cHu_find : ByteArray := prog_3_method_2_code
def yHu_find : MethodName := ⟨RHu, "find", "(LMergeRows$Row;LMergeRows$Row;)V"⟩
set_option maxRecDepth 20000 in
theorem kHu_find : hcV yHu_find cHu_find 6 none 2 := ⟨hB_in 445 rfl (by decide +kernel), hB_in 30 rfl (by decide +kernel), ⟨by decide +kernel, by decide +kernel, by decide +kernel⟩, hB_in 443 rfl (by decide +kernel), hB_in 444 rfl (by decide +kernel)⟩
abbrev cHu_addUnlessEmpty : ByteArray := prog_3_method_3_code
def yHu_addUnlessEmpty : MethodName := ⟨RHu, "addUnlessEmpty", "(IIII)V"⟩
set_option maxRecDepth 20000 in
theorem kHu_addUnlessEmpty : hcV yHu_addUnlessEmpty cHu_addUnlessEmpty 6 none 4 := ⟨hB_in 450 rfl (by decide +kernel), hB_in 30 rfl (by decide +kernel), ⟨by decide +kernel, by decide +kernel, by decide +kernel⟩, hB_in 449 rfl (by decide +kernel), hB_in 6 rfl (by decide +kernel)⟩
abbrev cMg_init : ByteArray := prog_4_method_1_code
def yMg_init : MethodName := ⟨RMg, "<init>", "(LMergeRows$Common;LMergeRows$Common;)V"⟩
set_option maxRecDepth 20000 in
theorem kMg_init : hcI yMg_init cMg_init 3 2 := ⟨hB_in 179 rfl (by decide +kernel), hB_in 33 rfl (by decide +kernel), ⟨by decide +kernel, by decide +kernel, by decide +kernel⟩, rfl, hB_in 178 rfl (by decide +kernel)⟩
abbrev cMg_run : ByteArray := prog_4_method_2_code
def yMg_run : MethodName := ⟨RMg, "run", "(LMergeRows$Row;LMergeRows$Row;LMergeRows$Row;)V"⟩
set_option maxRecDepth 20000 in
theorem kMg_run : hcV yMg_run cMg_run 4 none 3 := ⟨hB_in 469 rfl (by decide +kernel), hB_in 33 rfl (by decide +kernel), ⟨by decide +kernel, by decide +kernel, by decide +kernel⟩, hB_in 467 rfl (by decide +kernel), hB_in 468 rfl (by decide +kernel)⟩
abbrev cMg_mergeUpToAnchors : ByteArray := prog_4_method_3_code
def yMg_mergeUpToAnchors : MethodName := ⟨RMg, "mergeUpToAnchors", "(LMergeRows$Row;)V"⟩
set_option maxRecDepth 20000 in
theorem kMg_mergeUpToAnchors : hcV yMg_mergeUpToAnchors cMg_mergeUpToAnchors 5 none 1 := ⟨hB_in 478 rfl (by decide +kernel), hB_in 33 rfl (by decide +kernel), ⟨by decide +kernel, by decide +kernel, by decide +kernel⟩, hB_in 477 rfl (by decide +kernel), hB_in 7 rfl (by decide +kernel)⟩
abbrev cMg_stepPartsOverAnchor : ByteArray := prog_4_method_4_code
def yMg_stepPartsOverAnchor : MethodName := ⟨RMg, "stepPartsOverAnchor", "()V"⟩
set_option maxRecDepth 20000 in
theorem kMg_stepPartsOverAnchor : hcV yMg_stepPartsOverAnchor cMg_stepPartsOverAnchor 1 none 0 := ⟨hB_in 509 rfl (by decide +kernel), hB_in 33 rfl (by decide +kernel), ⟨by decide +kernel, by decide +kernel, by decide +kernel⟩, hB_in 508 rfl (by decide +kernel), hB_in 11 rfl (by decide +kernel)⟩
abbrev cMg_mergeParts : ByteArray := prog_4_method_5_code
def yMg_mergeParts : MethodName := ⟨RMg, "mergeParts", "(III)V"⟩
set_option maxRecDepth 20000 in
theorem kMg_mergeParts : hcV yMg_mergeParts cMg_mergeParts 4 none 3 := ⟨hB_in 482 rfl (by decide +kernel), hB_in 33 rfl (by decide +kernel), ⟨by decide +kernel, by decide +kernel, by decide +kernel⟩, hB_in 481 rfl (by decide +kernel), hB_in 8 rfl (by decide +kernel)⟩
abbrev cMg_take : ByteArray := prog_4_method_6_code
def yMg_take : MethodName := ⟨RMg, "take", "(LMergeRows$Part;)V"⟩
set_option maxRecDepth 20000 in
theorem kMg_take : hcV yMg_take cMg_take 2 none 1 := ⟨hB_in 494 rfl (by decide +kernel), hB_in 33 rfl (by decide +kernel), ⟨by decide +kernel, by decide +kernel, by decide +kernel⟩, hB_in 493 rfl (by decide +kernel), hB_in 9 rfl (by decide +kernel)⟩
abbrev cMg_addConflict : ByteArray := prog_4_method_7_code
def yMg_addConflict : MethodName := ⟨RMg, "addConflict", "()V"⟩
set_option maxRecDepth 20000 in
theorem kMg_addConflict : hcV yMg_addConflict cMg_addConflict 2 none 0 := ⟨hB_in 503 rfl (by decide +kernel), hB_in 33 rfl (by decide +kernel), ⟨by decide +kernel, by decide +kernel, by decide +kernel⟩, hB_in 502 rfl (by decide +kernel), hB_in 10 rfl (by decide +kernel)⟩
abbrev cPa_init : ByteArray := prog_5_method_1_code
def yPa_init : MethodName := ⟨RPa, "<init>", "()V"⟩
set_option maxRecDepth 20000 in
theorem kPa_init : hcI yPa_init cPa_init 1 0 := ⟨hB_in 187 rfl (by decide +kernel), hB_in 34 rfl (by decide +kernel), ⟨by decide +kernel, by decide +kernel, by decide +kernel⟩, rfl, hB_in 186 rfl (by decide +kernel)⟩
abbrev cPa_startOn : ByteArray := prog_5_method_2_code
def yPa_startOn : MethodName := ⟨RPa, "startOn", "(LMergeRows$Row;)V"⟩
set_option maxRecDepth 20000 in
theorem kPa_startOn : hcV yPa_startOn cPa_startOn 2 none 1 := ⟨hB_in 474 rfl (by decide +kernel), hB_in 34 rfl (by decide +kernel), ⟨by decide +kernel, by decide +kernel, by decide +kernel⟩, hB_in 472 rfl (by decide +kernel), hB_in 473 rfl (by decide +kernel)⟩
abbrev cPa_stepOverAnchor : ByteArray := prog_5_method_3_code
def yPa_stepOverAnchor : MethodName := ⟨RPa, "stepOverAnchor", "()V"⟩
set_option maxRecDepth 20000 in
theorem kPa_stepOverAnchor : hcV yPa_stepOverAnchor cPa_stepOverAnchor 1 none 0 := ⟨hB_in 513 rfl (by decide +kernel), hB_in 34 rfl (by decide +kernel), ⟨by decide +kernel, by decide +kernel, by decide +kernel⟩, hB_in 511 rfl (by decide +kernel), hB_in 512 rfl (by decide +kernel)⟩
abbrev cPa_length : ByteArray := prog_5_method_4_code
def yPa_length : MethodName := ⟨RPa, "length", "()I"⟩
set_option maxRecDepth 20000 in
theorem kPa_length : hcV yPa_length cPa_length 1 (some .int) 0 := ⟨hB_in 490 rfl (by decide +kernel), hB_in 34 rfl (by decide +kernel), ⟨by decide +kernel, by decide +kernel, by decide +kernel⟩, hB_in 488 rfl (by decide +kernel), hB_in 489 rfl (by decide +kernel)⟩
abbrev cPa_isLike : ByteArray := prog_5_method_5_code
def yPa_isLike : MethodName := ⟨RPa, "isLike", "(LMergeRows$Part;)Z"⟩
set_option maxRecDepth 20000 in
theorem kPa_isLike : hcV yPa_isLike cPa_isLike 3 (some .boolean) 1 := ⟨hB_in 486 rfl (by decide +kernel), hB_in 34 rfl (by decide +kernel), ⟨by decide +kernel, by decide +kernel, by decide +kernel⟩, hB_in 484 rfl (by decide +kernel), hB_in 485 rfl (by decide +kernel)⟩
abbrev cPg_init : ByteArray := prog_6_method_1_code
def yPg_init : MethodName := ⟨RPg, "<init>", "(LMergeRows$Hunks;)V"⟩
set_option maxRecDepth 20000 in
theorem kPg_init : hcI yPg_init cPg_init 2 1 := ⟨hB_in 132 rfl (by decide +kernel), hB_in 31 rfl (by decide +kernel), ⟨by decide +kernel, by decide +kernel, by decide +kernel⟩, rfl, hB_in 131 rfl (by decide +kernel)⟩
abbrev cPg_run : ByteArray := prog_6_method_2_code
def yPg_run : MethodName := ⟨RPg, "run", "(LMergeRows$Row;LMergeRows$Row;LMergeRows$Row;)V"⟩
set_option maxRecDepth 20000 in
theorem kPg_run : hcV yPg_run cPg_run 12 none 3 := ⟨hB_in 541 rfl (by decide +kernel), hB_in 31 rfl (by decide +kernel), ⟨by decide +kernel, by decide +kernel, by decide +kernel⟩, hB_in 539 rfl (by decide +kernel), hB_in 540 rfl (by decide +kernel)⟩
abbrev cPg_nearestFit : ByteArray := prog_6_method_3_code
def yPg_nearestFit : MethodName := ⟨RPg, "nearestFit", "(LMergeRows$Row;IILMergeRows$Row;II)I"⟩
set_option maxRecDepth 20000 in
theorem kPg_nearestFit : hcS yPg_nearestFit cPg_nearestFit 9 (some .int) 6 := ⟨hB_in 545 rfl (by decide +kernel), hB_in 31 rfl (by decide +kernel), ⟨by decide +kernel, by decide +kernel, by decide +kernel⟩, hB_in 544 rfl (by decide +kernel)⟩
abbrev cPg_fits : ByteArray := prog_6_method_4_code
def yPg_fits : MethodName := ⟨RPg, "fits", "(LMergeRows$Row;IILMergeRows$Row;I)Z"⟩
set_option maxRecDepth 20000 in
theorem kPg_fits : hcS yPg_fits cPg_fits 8 (some .boolean) 5 := ⟨hB_in 551 rfl (by decide +kernel), hB_in 31 rfl (by decide +kernel), ⟨by decide +kernel, by decide +kernel, by decide +kernel⟩, hB_in 550 rfl (by decide +kernel)⟩
abbrev cRo_init : ByteArray := prog_7_method_1_code
def yRo_init : MethodName := ⟨RRo, "<init>", "(I)V"⟩
set_option maxRecDepth 20000 in
theorem kRo_init : hcI yRo_init cRo_init 2 1 := ⟨hB_in 56 rfl (by decide +kernel), hB_in 28 rfl (by decide +kernel), ⟨by decide +kernel, by decide +kernel, by decide +kernel⟩, rfl, hB_in 55 rfl (by decide +kernel)⟩
abbrev cRo_add : ByteArray := prog_7_method_2_code
def yRo_add : MethodName := ⟨RRo, "add", "(I)V"⟩
set_option maxRecDepth 20000 in
theorem kRo_add : hcV yRo_add cRo_add 2 none 1 := ⟨hB_in 354 rfl (by decide +kernel), hB_in 28 rfl (by decide +kernel), ⟨by decide +kernel, by decide +kernel, by decide +kernel⟩, hB_in 352 rfl (by decide +kernel), hB_in 353 rfl (by decide +kernel)⟩
abbrev cRo_addPart : ByteArray := prog_7_method_3_code
def yRo_addPart : MethodName := ⟨RRo, "addPart", "(LMergeRows$Row;II)V"⟩
set_option maxRecDepth 20000 in
theorem kRo_addPart : hcV yRo_addPart cRo_addPart 5 none 3 := ⟨hB_in 498 rfl (by decide +kernel), hB_in 28 rfl (by decide +kernel), ⟨by decide +kernel, by decide +kernel, by decide +kernel⟩, hB_in 496 rfl (by decide +kernel), hB_in 497 rfl (by decide +kernel)⟩
abbrev cRo_become : ByteArray := prog_7_method_4_code
def yRo_become : MethodName := ⟨RRo, "become", "(LMergeRows$Row;)V"⟩
set_option maxRecDepth 20000 in
theorem kRo_become : hcV yRo_become cRo_become 2 none 1 := ⟨hB_in 521 rfl (by decide +kernel), hB_in 28 rfl (by decide +kernel), ⟨by decide +kernel, by decide +kernel, by decide +kernel⟩, hB_in 519 rfl (by decide +kernel), hB_in 520 rfl (by decide +kernel)⟩
abbrev cRo_hasAt : ByteArray := prog_7_method_5_code
def yRo_hasAt : MethodName := ⟨RRo, "hasAt", "(II)Z"⟩
set_option maxRecDepth 20000 in
theorem kRo_hasAt : hcV yRo_hasAt cRo_hasAt 3 (some .boolean) 2 := ⟨hB_in 559 rfl (by decide +kernel), hB_in 28 rfl (by decide +kernel), ⟨by decide +kernel, by decide +kernel, by decide +kernel⟩, hB_in 557 rfl (by decide +kernel), hB_in 558 rfl (by decide +kernel)⟩
abbrev cRo_firstPlaceOf : ByteArray := prog_7_method_6_code
def yRo_firstPlaceOf : MethodName := ⟨RRo, "firstPlaceOf", "(II)I"⟩
set_option maxRecDepth 20000 in
theorem kRo_firstPlaceOf : hcV yRo_firstPlaceOf cRo_firstPlaceOf 4 (some .int) 2 := ⟨hB_in 418 rfl (by decide +kernel), hB_in 28 rfl (by decide +kernel), ⟨by decide +kernel, by decide +kernel, by decide +kernel⟩, hB_in 416 rfl (by decide +kernel), hB_in 417 rfl (by decide +kernel)⟩
abbrev cVe_init : ByteArray := prog_8_method_1_code
def yVe_init : MethodName := ⟨RVe, "<init>", "(LMergeRows$Common;)V"⟩
set_option maxRecDepth 20000 in
theorem kVe_init : hcI yVe_init cVe_init 2 1 := ⟨hB_in 152 rfl (by decide +kernel), hB_in 32 rfl (by decide +kernel), ⟨by decide +kernel, by decide +kernel, by decide +kernel⟩, rfl, hB_in 151 rfl (by decide +kernel)⟩
abbrev cVe_add : ByteArray := prog_8_method_2_code
def yVe_add : MethodName := ⟨RVe, "add", "(LMergeRows$Row;)V"⟩
set_option maxRecDepth 20000 in
theorem kVe_add : hcV yVe_add cVe_add 2 none 1 := ⟨hB_in 572 rfl (by decide +kernel), hB_in 32 rfl (by decide +kernel), ⟨by decide +kernel, by decide +kernel, by decide +kernel⟩, hB_in 570 rfl (by decide +kernel), hB_in 571 rfl (by decide +kernel)⟩
abbrev cVe_fillOrigins : ByteArray := prog_8_method_3_code
def yVe_fillOrigins : MethodName := ⟨RVe, "fillOrigins", "(LMergeRows$Row;)V"⟩
set_option maxRecDepth 20000 in
theorem kVe_fillOrigins : hcV yVe_fillOrigins cVe_fillOrigins 4 none 1 := ⟨hB_in 576 rfl (by decide +kernel), hB_in 32 rfl (by decide +kernel), ⟨by decide +kernel, by decide +kernel, by decide +kernel⟩, hB_in 575 rfl (by decide +kernel), hB_in 12 rfl (by decide +kernel)⟩
abbrev cLa_put : ByteArray := method_3_code
def yLa_put : MethodName := ⟨RLa, "put", "(LMergeRows;II[J)I"⟩
abbrev cLa_clear : ByteArray := method_4_code
def yLa_clear : MethodName := ⟨RLa, "clear", "(LMergeRows;I)I"⟩
abbrev cLa_size : ByteArray := method_5_code
def yLa_size : MethodName := ⟨RLa, "size", "(LMergeRows;I[J)I"⟩
abbrev cLa_get : ByteArray := method_6_code
def yLa_get : MethodName := ⟨RLa, "get", "(LMergeRows;II[J)I"⟩
abbrev cLa_common : ByteArray := method_7_code
def yLa_common : MethodName := ⟨RLa, "common", "(LMergeRows;II[J)I"⟩
abbrev cLa_pair : ByteArray := method_8_code
def yLa_pair : MethodName := ⟨RLa, "pair", "(LMergeRows;II[J)I"⟩
abbrev cLa_hunks : ByteArray := method_9_code
def yLa_hunks : MethodName := ⟨RLa, "hunks", "(LMergeRows;II[J)I"⟩
abbrev cLa_hunk : ByteArray := method_10_code
def yLa_hunk : MethodName := ⟨RLa, "hunk", "(LMergeRows;II[J)I"⟩
abbrev cLa_merge : ByteArray := method_11_code
def yLa_merge : MethodName := ⟨RLa, "merge", "(LMergeRows;IIII[J)I"⟩
abbrev cLa_conflict : ByteArray := method_12_code
def yLa_conflict : MethodName := ⟨RLa, "conflict", "(LMergeRows;II[J)I"⟩
abbrev cLa_patch : ByteArray := method_13_code
def yLa_patch : MethodName := ⟨RLa, "patch", "(LMergeRows;IIII[J)I"⟩
abbrev cLa_commit : ByteArray := method_14_code
def yLa_commit : MethodName := ⟨RLa, "commit", "(LMergeRows;I[J)I"⟩
abbrev cLa_origin : ByteArray := method_15_code
def yLa_origin : MethodName := ⟨RLa, "origin", "(LMergeRows;II[J)I"⟩
abbrev cLa_law : ByteArray := code
def yLa_law : MethodName := ⟨RLa, "law", "([I)Z"⟩
set_option maxRecDepth 20000 in
theorem lm_MR_3 : (Jvm.Cond.methodLink "MergeRows" (3 : Nat) ({ cls := "java/lang/Object", name := "<init>", desc := "()V" } : Jvm.MethodName)) ∈ hB := hB_in 48 rfl (by decide +kernel)
set_option maxRecDepth 20000 in
theorem lc_MR_9 : (Jvm.Cond.classLink "MergeRows" (9 : Nat) "MergeRows$Row") ∈ hB := hB_in 51 rfl (by decide +kernel)
set_option maxRecDepth 20000 in
theorem lf_MR_11 : (Jvm.Cond.fieldLink "MergeRows" (11 : Nat) "MergeRows" "rows" "[LMergeRows$Row;") ∈ hB := hB_in 232 rfl (by decide +kernel)
set_option maxRecDepth 20000 in
theorem lm_MR_15 : (Jvm.Cond.methodLink "MergeRows" (15 : Nat) ({ cls := "MergeRows$Row", name := "<init>", desc := "(I)V" } : Jvm.MethodName)) ∈ hB := hB_in 54 rfl (by decide +kernel)
set_option maxRecDepth 20000 in
theorem lc_MR_18 : (Jvm.Cond.classLink "MergeRows" (18 : Nat) "MergeRows$Common") ∈ hB := hB_in 77 rfl (by decide +kernel)
set_option maxRecDepth 20000 in
theorem lm_MR_20 : (Jvm.Cond.methodLink "MergeRows" (20 : Nat) ({ cls := "MergeRows$Common", name := "<init>", desc := "([I)V" } : Jvm.MethodName)) ∈ hB := hB_in 79 rfl (by decide +kernel)
set_option maxRecDepth 20000 in
theorem lf_MR_23 : (Jvm.Cond.fieldLink "MergeRows" (23 : Nat) "MergeRows" "latestCommon" "LMergeRows$Common;") ∈ hB := hB_in 233 rfl (by decide +kernel)
set_option maxRecDepth 20000 in
theorem lc_MR_27 : (Jvm.Cond.classLink "MergeRows" (27 : Nat) "MergeRows$Hunks") ∈ hB := hB_in 108 rfl (by decide +kernel)
set_option maxRecDepth 20000 in
theorem lm_MR_29 : (Jvm.Cond.methodLink "MergeRows" (29 : Nat) ({ cls := "MergeRows$Hunks", name := "<init>", desc := "(LMergeRows$Common;)V" } : Jvm.MethodName)) ∈ hB := hB_in 110 rfl (by decide +kernel)
set_option maxRecDepth 20000 in
theorem lf_MR_32 : (Jvm.Cond.fieldLink "MergeRows" (32 : Nat) "MergeRows" "latestHunks" "LMergeRows$Hunks;") ∈ hB := hB_in 234 rfl (by decide +kernel)
set_option maxRecDepth 20000 in
theorem lc_MR_36 : (Jvm.Cond.classLink "MergeRows" (36 : Nat) "MergeRows$Patching") ∈ hB := hB_in 128 rfl (by decide +kernel)
set_option maxRecDepth 20000 in
theorem lm_MR_38 : (Jvm.Cond.methodLink "MergeRows" (38 : Nat) ({ cls := "MergeRows$Patching", name := "<init>", desc := "(LMergeRows$Hunks;)V" } : Jvm.MethodName)) ∈ hB := hB_in 130 rfl (by decide +kernel)
set_option maxRecDepth 20000 in
theorem lf_MR_41 : (Jvm.Cond.fieldLink "MergeRows" (41 : Nat) "MergeRows" "patching" "LMergeRows$Patching;") ∈ hB := hB_in 235 rfl (by decide +kernel)
set_option maxRecDepth 20000 in
theorem lc_MR_45 : (Jvm.Cond.classLink "MergeRows" (45 : Nat) "MergeRows$Versions") ∈ hB := hB_in 148 rfl (by decide +kernel)
set_option maxRecDepth 20000 in
theorem lm_MR_47 : (Jvm.Cond.methodLink "MergeRows" (47 : Nat) ({ cls := "MergeRows$Versions", name := "<init>", desc := "(LMergeRows$Common;)V" } : Jvm.MethodName)) ∈ hB := hB_in 150 rfl (by decide +kernel)
set_option maxRecDepth 20000 in
theorem lf_MR_48 : (Jvm.Cond.fieldLink "MergeRows" (48 : Nat) "MergeRows" "versions" "LMergeRows$Versions;") ∈ hB := hB_in 236 rfl (by decide +kernel)
set_option maxRecDepth 20000 in
theorem lc_MR_52 : (Jvm.Cond.classLink "MergeRows" (52 : Nat) "MergeRows$Merging") ∈ hB := hB_in 175 rfl (by decide +kernel)
set_option maxRecDepth 20000 in
theorem lm_MR_54 : (Jvm.Cond.methodLink "MergeRows" (54 : Nat) ({ cls := "MergeRows$Merging", name := "<init>", desc := "(LMergeRows$Common;LMergeRows$Common;)V" } : Jvm.MethodName)) ∈ hB := hB_in 177 rfl (by decide +kernel)
set_option maxRecDepth 20000 in
theorem lf_MR_57 : (Jvm.Cond.fieldLink "MergeRows" (57 : Nat) "MergeRows" "latestMerging" "LMergeRows$Merging;") ∈ hB := hB_in 237 rfl (by decide +kernel)
set_option maxRecDepth 20000 in
theorem lf_MR_61 : (Jvm.Cond.fieldLink "MergeRows" (61 : Nat) "MergeRows" "spareMerging" "LMergeRows$Merging;") ∈ hB := hB_in 238 rfl (by decide +kernel)
set_option maxRecDepth 20000 in
theorem lm_MR_64 : (Jvm.Cond.methodLink "MergeRows" (64 : Nat) ({ cls := "MergeRows", name := "rowAt", desc := "(I)LMergeRows$Row;" } : Jvm.MethodName)) ∈ hB := hB_in 263 rfl (by decide +kernel)
set_option maxRecDepth 20000 in
theorem lf_MR_68 : (Jvm.Cond.fieldLink "MergeRows" (68 : Nat) "MergeRows$Row" "count" "I") ∈ hB := hB_in 65 rfl (by decide +kernel)
set_option maxRecDepth 20000 in
theorem lm_MR_79 : (Jvm.Cond.methodLink "MergeRows" (79 : Nat) ({ cls := "MergeRows$Row", name := "add", desc := "(I)V" } : Jvm.MethodName)) ∈ hB := hB_in 351 rfl (by decide +kernel)
set_option maxRecDepth 20000 in
theorem lf_MR_87 : (Jvm.Cond.fieldLink "MergeRows" (87 : Nat) "MergeRows$Row" "lines" "[I") ∈ hB := hB_in 63 rfl (by decide +kernel)
set_option maxRecDepth 20000 in
theorem lm_MR_91 : (Jvm.Cond.methodLink "MergeRows" (91 : Nat) ({ cls := "MergeRows$Common", name := "find", desc := "(LMergeRows$Row;LMergeRows$Row;)V" } : Jvm.MethodName)) ∈ hB := hB_in 400 rfl (by decide +kernel)
set_option maxRecDepth 20000 in
theorem lf_MR_95 : (Jvm.Cond.fieldLink "MergeRows" (95 : Nat) "MergeRows$Common" "count" "I") ∈ hB := hB_in 97 rfl (by decide +kernel)
set_option maxRecDepth 20000 in
theorem lf_MR_98 : (Jvm.Cond.fieldLink "MergeRows" (98 : Nat) "MergeRows$Common" "placesA" "[I") ∈ hB := hB_in 87 rfl (by decide +kernel)
set_option maxRecDepth 20000 in
theorem lf_MR_101 : (Jvm.Cond.fieldLink "MergeRows" (101 : Nat) "MergeRows$Common" "placesB" "[I") ∈ hB := hB_in 92 rfl (by decide +kernel)
set_option maxRecDepth 20000 in
theorem lm_MR_104 : (Jvm.Cond.methodLink "MergeRows" (104 : Nat) ({ cls := "MergeRows$Hunks", name := "find", desc := "(LMergeRows$Row;LMergeRows$Row;)V" } : Jvm.MethodName)) ∈ hB := hB_in 442 rfl (by decide +kernel)
set_option maxRecDepth 20000 in
theorem lf_MR_105 : (Jvm.Cond.fieldLink "MergeRows" (105 : Nat) "MergeRows$Hunks" "count" "I") ∈ hB := hB_in 119 rfl (by decide +kernel)
set_option maxRecDepth 20000 in
theorem lf_MR_108 : (Jvm.Cond.fieldLink "MergeRows" (108 : Nat) "MergeRows$Hunks" "cells" "[I") ∈ hB := hB_in 116 rfl (by decide +kernel)
set_option maxRecDepth 20000 in
theorem lm_MR_111 : (Jvm.Cond.methodLink "MergeRows" (111 : Nat) ({ cls := "MergeRows$Merging", name := "run", desc := "(LMergeRows$Row;LMergeRows$Row;LMergeRows$Row;)V" } : Jvm.MethodName)) ∈ hB := hB_in 466 rfl (by decide +kernel)
set_option maxRecDepth 20000 in
theorem lf_MR_115 : (Jvm.Cond.fieldLink "MergeRows" (115 : Nat) "MergeRows$Merging" "outcome" "LMergeRows$Row;") ∈ hB := hB_in 205 rfl (by decide +kernel)
set_option maxRecDepth 20000 in
theorem lm_MR_119 : (Jvm.Cond.methodLink "MergeRows" (119 : Nat) ({ cls := "MergeRows", name := "fillWithOutcome", desc := "(LMergeRows$Row;LMergeRows$Row;)V" } : Jvm.MethodName)) ∈ hB := hB_in 514 rfl (by decide +kernel)
set_option maxRecDepth 20000 in
theorem lf_MR_122 : (Jvm.Cond.fieldLink "MergeRows" (122 : Nat) "MergeRows$Merging" "conflictCount" "I") ∈ hB := hB_in 209 rfl (by decide +kernel)
set_option maxRecDepth 20000 in
theorem lf_MR_127 : (Jvm.Cond.fieldLink "MergeRows" (127 : Nat) "MergeRows$Merging" "conflictCells" "[I") ∈ hB := hB_in 207 rfl (by decide +kernel)
set_option maxRecDepth 20000 in
theorem lm_MR_130 : (Jvm.Cond.methodLink "MergeRows" (130 : Nat) ({ cls := "MergeRows$Patching", name := "run", desc := "(LMergeRows$Row;LMergeRows$Row;LMergeRows$Row;)V" } : Jvm.MethodName)) ∈ hB := hB_in 538 rfl (by decide +kernel)
set_option maxRecDepth 20000 in
theorem lf_MR_131 : (Jvm.Cond.fieldLink "MergeRows" (131 : Nat) "MergeRows$Patching" "outcome" "LMergeRows$Row;") ∈ hB := hB_in 137 rfl (by decide +kernel)
set_option maxRecDepth 20000 in
theorem lf_MR_132 : (Jvm.Cond.fieldLink "MergeRows" (132 : Nat) "MergeRows$Patching" "rejected" "I") ∈ hB := hB_in 139 rfl (by decide +kernel)
set_option maxRecDepth 20000 in
theorem lf_MR_135 : (Jvm.Cond.fieldLink "MergeRows" (135 : Nat) "MergeRows$Versions" "count" "I") ∈ hB := hB_in 161 rfl (by decide +kernel)
set_option maxRecDepth 20000 in
theorem lm_MR_138 : (Jvm.Cond.methodLink "MergeRows" (138 : Nat) ({ cls := "MergeRows$Versions", name := "add", desc := "(LMergeRows$Row;)V" } : Jvm.MethodName)) ∈ hB := hB_in 569 rfl (by decide +kernel)
set_option maxRecDepth 20000 in
theorem lf_MR_146 : (Jvm.Cond.fieldLink "MergeRows" (146 : Nat) "MergeRows$Versions" "sizes" "[I") ∈ hB := hB_in 157 rfl (by decide +kernel)
set_option maxRecDepth 20000 in
theorem lf_MR_149 : (Jvm.Cond.fieldLink "MergeRows" (149 : Nat) "MergeRows$Versions" "origins" "[I") ∈ hB := hB_in 159 rfl (by decide +kernel)
set_option maxRecDepth 20000 in
theorem lm_MR_156 : (Jvm.Cond.methodLink "MergeRows" (156 : Nat) ({ cls := "MergeRows$Row", name := "become", desc := "(LMergeRows$Row;)V" } : Jvm.MethodName)) ∈ hB := hB_in 518 rfl (by decide +kernel)
set_option maxRecDepth 20000 in
theorem lm_MM_1 : (Jvm.Cond.methodLink "MergeRowsModel" (1 : Nat) ({ cls := "java/lang/Object", name := "<init>", desc := "()V" } : Jvm.MethodName)) ∈ hB := hB_in 592 rfl (by decide +kernel)
set_option maxRecDepth 20000 in
theorem lf_MM_7 : (Jvm.Cond.fieldLink "MergeRowsModel" (7 : Nat) "MergeRowsModel" "sizes" "[I") ∈ hB := hB_in 594 rfl (by decide +kernel)
set_option maxRecDepth 20000 in
theorem lf_MM_13 : (Jvm.Cond.fieldLink "MergeRowsModel" (13 : Nat) "MergeRowsModel" "lines" "[I") ∈ hB := hB_in 595 rfl (by decide +kernel)
set_option maxRecDepth 20000 in
theorem lf_MM_16 : (Jvm.Cond.fieldLink "MergeRowsModel" (16 : Nat) "MergeRowsModel" "x" "[I") ∈ hB := hB_in 598 rfl (by decide +kernel)
set_option maxRecDepth 20000 in
theorem lf_MM_19 : (Jvm.Cond.fieldLink "MergeRowsModel" (19 : Nat) "MergeRowsModel" "y" "[I") ∈ hB := hB_in 599 rfl (by decide +kernel)
set_option maxRecDepth 20000 in
theorem lf_MM_22 : (Jvm.Cond.fieldLink "MergeRowsModel" (22 : Nat) "MergeRowsModel" "best" "[I") ∈ hB := hB_in 600 rfl (by decide +kernel)
set_option maxRecDepth 20000 in
theorem lf_MM_25 : (Jvm.Cond.fieldLink "MergeRowsModel" (25 : Nat) "MergeRowsModel" "partner" "[I") ∈ hB := hB_in 601 rfl (by decide +kernel)
set_option maxRecDepth 20000 in
theorem lf_MM_28 : (Jvm.Cond.fieldLink "MergeRowsModel" (28 : Nat) "MergeRowsModel" "pairA" "[I") ∈ hB := hB_in 603 rfl (by decide +kernel)
set_option maxRecDepth 20000 in
theorem lf_MM_31 : (Jvm.Cond.fieldLink "MergeRowsModel" (31 : Nat) "MergeRowsModel" "pairB" "[I") ∈ hB := hB_in 604 rfl (by decide +kernel)
set_option maxRecDepth 20000 in
theorem lf_MM_34 : (Jvm.Cond.fieldLink "MergeRowsModel" (34 : Nat) "MergeRowsModel" "hunk" "[I") ∈ hB := hB_in 606 rfl (by decide +kernel)
set_option maxRecDepth 20000 in
theorem lf_MM_37 : (Jvm.Cond.fieldLink "MergeRowsModel" (37 : Nat) "MergeRowsModel" "part" "[I") ∈ hB := hB_in 608 rfl (by decide +kernel)
set_option maxRecDepth 20000 in
theorem lf_MM_40 : (Jvm.Cond.fieldLink "MergeRowsModel" (40 : Nat) "MergeRowsModel" "fresh" "[I") ∈ hB := hB_in 611 rfl (by decide +kernel)
set_option maxRecDepth 20000 in
theorem lf_MM_43 : (Jvm.Cond.fieldLink "MergeRowsModel" (43 : Nat) "MergeRowsModel" "left" "[I") ∈ hB := hB_in 612 rfl (by decide +kernel)
set_option maxRecDepth 20000 in
theorem lf_MM_46 : (Jvm.Cond.fieldLink "MergeRowsModel" (46 : Nat) "MergeRowsModel" "right" "[I") ∈ hB := hB_in 613 rfl (by decide +kernel)
set_option maxRecDepth 20000 in
theorem lf_MM_49 : (Jvm.Cond.fieldLink "MergeRowsModel" (49 : Nat) "MergeRowsModel" "conflict" "[I") ∈ hB := hB_in 615 rfl (by decide +kernel)
set_option maxRecDepth 20000 in
theorem lf_MM_52 : (Jvm.Cond.fieldLink "MergeRowsModel" (52 : Nat) "MergeRowsModel" "newConflict" "[I") ∈ hB := hB_in 617 rfl (by decide +kernel)
set_option maxRecDepth 20000 in
theorem lf_MM_55 : (Jvm.Cond.fieldLink "MergeRowsModel" (55 : Nat) "MergeRowsModel" "versionSizes" "[I") ∈ hB := hB_in 619 rfl (by decide +kernel)
set_option maxRecDepth 20000 in
theorem lf_MM_58 : (Jvm.Cond.fieldLink "MergeRowsModel" (58 : Nat) "MergeRowsModel" "versionLines" "[I") ∈ hB := hB_in 620 rfl (by decide +kernel)
set_option maxRecDepth 20000 in
theorem lf_MM_61 : (Jvm.Cond.fieldLink "MergeRowsModel" (61 : Nat) "MergeRowsModel" "origins" "[I") ∈ hB := hB_in 621 rfl (by decide +kernel)
set_option maxRecDepth 20000 in
theorem lf_MM_64 : (Jvm.Cond.fieldLink "MergeRowsModel" (64 : Nat) "MergeRowsModel" "thrown" "I") ∈ hB := hB_in 593 rfl (by decide +kernel)
set_option maxRecDepth 20000 in
theorem lm_MM_68 : (Jvm.Cond.methodLink "MergeRowsModel" (68 : Nat) ({ cls := "MergeRowsModel", name := "isRow", desc := "(I)Z" } : Jvm.MethodName)) ∈ hB := hB_in 689 rfl (by decide +kernel)
set_option maxRecDepth 20000 in
theorem lm_MM_72 : (Jvm.Cond.methodLink "MergeRowsModel" (72 : Nat) ({ cls := "MergeRowsModel", name := "refuse", desc := "(ZZ)Z" } : Jvm.MethodName)) ∈ hB := hB_in 692 rfl (by decide +kernel)
set_option maxRecDepth 20000 in
theorem lf_MM_76 : (Jvm.Cond.fieldLink "MergeRowsModel" (76 : Nat) "MergeRowsModel" "xs" "I") ∈ hB := hB_in 596 rfl (by decide +kernel)
set_option maxRecDepth 20000 in
theorem lf_MM_79 : (Jvm.Cond.fieldLink "MergeRowsModel" (79 : Nat) "MergeRowsModel" "ys" "I") ∈ hB := hB_in 597 rfl (by decide +kernel)
set_option maxRecDepth 20000 in
theorem lm_MM_82 : (Jvm.Cond.methodLink "MergeRowsModel" (82 : Nat) ({ cls := "MergeRowsModel", name := "first", desc := "([III)V" } : Jvm.MethodName)) ∈ hB := hB_in 716 rfl (by decide +kernel)
set_option maxRecDepth 20000 in
theorem lm_MM_86 : (Jvm.Cond.methodLink "MergeRowsModel" (86 : Nat) ({ cls := "MergeRowsModel", name := "second", desc := "([III)V" } : Jvm.MethodName)) ∈ hB := hB_in 720 rfl (by decide +kernel)
set_option maxRecDepth 20000 in
theorem lm_MM_89 : (Jvm.Cond.methodLink "MergeRowsModel" (89 : Nat) ({ cls := "MergeRowsModel", name := "rows", desc := "(II)V" } : Jvm.MethodName)) ∈ hB := hB_in 712 rfl (by decide +kernel)
set_option maxRecDepth 20000 in
theorem lm_MM_93 : (Jvm.Cond.methodLink "MergeRowsModel" (93 : Nat) ({ cls := "MergeRowsModel", name := "compare", desc := "()V" } : Jvm.MethodName)) ∈ hB := hB_in 724 rfl (by decide +kernel)
set_option maxRecDepth 20000 in
theorem lf_MM_96 : (Jvm.Cond.fieldLink "MergeRowsModel" (96 : Nat) "MergeRowsModel" "pairs" "I") ∈ hB := hB_in 602 rfl (by decide +kernel)
set_option maxRecDepth 20000 in
theorem lf_MM_99 : (Jvm.Cond.fieldLink "MergeRowsModel" (99 : Nat) "MergeRowsModel" "parts" "I") ∈ hB := hB_in 607 rfl (by decide +kernel)
set_option maxRecDepth 20000 in
theorem lm_MM_102 : (Jvm.Cond.methodLink "MergeRowsModel" (102 : Nat) ({ cls := "MergeRowsModel", name := "addPart", desc := "(IIII)V" } : Jvm.MethodName)) ∈ hB := hB_in 740 rfl (by decide +kernel)
set_option maxRecDepth 20000 in
theorem lm_MM_106 : (Jvm.Cond.methodLink "MergeRowsModel" (106 : Nat) ({ cls := "MergeRowsModel", name := "cut", desc := "()V" } : Jvm.MethodName)) ∈ hB := hB_in 736 rfl (by decide +kernel)
set_option maxRecDepth 20000 in
theorem lf_MM_109 : (Jvm.Cond.fieldLink "MergeRowsModel" (109 : Nat) "MergeRowsModel" "hunks" "I") ∈ hB := hB_in 605 rfl (by decide +kernel)
set_option maxRecDepth 20000 in
theorem lf_MM_112 : (Jvm.Cond.fieldLink "MergeRowsModel" (112 : Nat) "MergeRowsModel" "made" "I") ∈ hB := hB_in 609 rfl (by decide +kernel)
set_option maxRecDepth 20000 in
theorem lf_MM_115 : (Jvm.Cond.fieldLink "MergeRowsModel" (115 : Nat) "MergeRowsModel" "tooLong" "Z") ∈ hB := hB_in 610 rfl (by decide +kernel)
set_option maxRecDepth 20000 in
theorem lm_MM_119 : (Jvm.Cond.methodLink "MergeRowsModel" (119 : Nat) ({ cls := "MergeRowsModel", name := "write", desc := "(I)V" } : Jvm.MethodName)) ∈ hB := hB_in 764 rfl (by decide +kernel)
set_option maxRecDepth 20000 in
theorem lm_MM_123 : (Jvm.Cond.methodLink "MergeRowsModel" (123 : Nat) ({ cls := "MergeRowsModel", name := "alike", desc := "(IIIIII)Z" } : Jvm.MethodName)) ∈ hB := hB_in 756 rfl (by decide +kernel)
set_option maxRecDepth 20000 in
theorem lm_MM_127 : (Jvm.Cond.methodLink "MergeRowsModel" (127 : Nat) ({ cls := "MergeRowsModel", name := "writePart", desc := "(III)V" } : Jvm.MethodName)) ∈ hB := hB_in 760 rfl (by decide +kernel)
set_option maxRecDepth 20000 in
theorem lf_MM_131 : (Jvm.Cond.fieldLink "MergeRowsModel" (131 : Nat) "MergeRowsModel" "news" "I") ∈ hB := hB_in 616 rfl (by decide +kernel)
set_option maxRecDepth 20000 in
theorem lm_MM_134 : (Jvm.Cond.methodLink "MergeRowsModel" (134 : Nat) ({ cls := "MergeRowsModel", name := "joinParts", desc := "(IIIIIIIII)V" } : Jvm.MethodName)) ∈ hB := hB_in 752 rfl (by decide +kernel)
set_option maxRecDepth 20000 in
theorem lm_MM_138 : (Jvm.Cond.methodLink "MergeRowsModel" (138 : Nat) ({ cls := "MergeRowsModel", name := "become", desc := "(I)V" } : Jvm.MethodName)) ∈ hB := hB_in 768 rfl (by decide +kernel)
set_option maxRecDepth 20000 in
theorem lf_MM_141 : (Jvm.Cond.fieldLink "MergeRowsModel" (141 : Nat) "MergeRowsModel" "conflicts" "I") ∈ hB := hB_in 614 rfl (by decide +kernel)
set_option maxRecDepth 20000 in
theorem lm_MM_144 : (Jvm.Cond.methodLink "MergeRowsModel" (144 : Nat) ({ cls := "MergeRowsModel", name := "apart", desc := "(II)I" } : Jvm.MethodName)) ∈ hB := hB_in 780 rfl (by decide +kernel)
set_option maxRecDepth 20000 in
theorem lm_MM_148 : (Jvm.Cond.methodLink "MergeRowsModel" (148 : Nat) ({ cls := "MergeRowsModel", name := "fits", desc := "(III)Z" } : Jvm.MethodName)) ∈ hB := hB_in 783 rfl (by decide +kernel)
set_option maxRecDepth 20000 in
theorem lf_MM_152 : (Jvm.Cond.fieldLink "MergeRowsModel" (152 : Nat) "MergeRowsModel" "versions" "I") ∈ hB := hB_in 618 rfl (by decide +kernel)
set_option maxRecDepth 20000 in
theorem lm_Co_3 : (Jvm.Cond.methodLink "MergeRows$Common" (3 : Nat) ({ cls := "java/lang/Object", name := "<init>", desc := "()V" } : Jvm.MethodName)) ∈ hB := hB_in 82 rfl (by decide +kernel)
set_option maxRecDepth 20000 in
theorem lf_Co_9 : (Jvm.Cond.fieldLink "MergeRows$Common" (9 : Nat) "MergeRows$Common" "placesA" "[I") ∈ hB := hB_in 83 rfl (by decide +kernel)
set_option maxRecDepth 20000 in
theorem lf_Co_15 : (Jvm.Cond.fieldLink "MergeRows$Common" (15 : Nat) "MergeRows$Common" "placesB" "[I") ∈ hB := hB_in 88 rfl (by decide +kernel)
set_option maxRecDepth 20000 in
theorem lf_Co_18 : (Jvm.Cond.fieldLink "MergeRows$Common" (18 : Nat) "MergeRows$Common" "count" "I") ∈ hB := hB_in 93 rfl (by decide +kernel)
set_option maxRecDepth 20000 in
theorem lf_Co_22 : (Jvm.Cond.fieldLink "MergeRows$Common" (22 : Nat) "MergeRows$Common" "lengths" "[I") ∈ hB := hB_in 98 rfl (by decide +kernel)
set_option maxRecDepth 20000 in
theorem lm_Co_25 : (Jvm.Cond.methodLink "MergeRows$Common" (25 : Nat) ({ cls := "MergeRows$Common", name := "measure", desc := "(LMergeRows$Row;LMergeRows$Row;)V" } : Jvm.MethodName)) ∈ hB := hB_in 404 rfl (by decide +kernel)
set_option maxRecDepth 20000 in
theorem lf_Co_29 : (Jvm.Cond.fieldLink "MergeRows$Common" (29 : Nat) "MergeRows$Row" "count" "I") ∈ hB := hB_in 67 rfl (by decide +kernel)
set_option maxRecDepth 20000 in
theorem lf_Co_32 : (Jvm.Cond.fieldLink "MergeRows$Common" (32 : Nat) "MergeRows$Row" "lines" "[I") ∈ hB := hB_in 59 rfl (by decide +kernel)
set_option maxRecDepth 20000 in
theorem lm_Co_35 : (Jvm.Cond.methodLink "MergeRows$Common" (35 : Nat) ({ cls := "MergeRows$Row", name := "firstPlaceOf", desc := "(II)I" } : Jvm.MethodName)) ∈ hB := hB_in 415 rfl (by decide +kernel)
set_option maxRecDepth 20000 in
theorem lm_Co_39 : (Jvm.Cond.methodLink "MergeRows$Common" (39 : Nat) ({ cls := "MergeRows$Common", name := "losesNoPair", desc := "(III)Z" } : Jvm.MethodName)) ∈ hB := hB_in 419 rfl (by decide +kernel)
set_option maxRecDepth 20000 in
theorem lm_Co_43 : (Jvm.Cond.methodLink "MergeRows$Common" (43 : Nat) ({ cls := "MergeRows$Common", name := "addPair", desc := "(II)V" } : Jvm.MethodName)) ∈ hB := hB_in 423 rfl (by decide +kernel)
set_option maxRecDepth 20000 in
theorem lm_Co_47 : (Jvm.Cond.methodLink "MergeRows$Common" (47 : Nat) ({ cls := "MergeRows$Common", name := "clearEnds", desc := "(II)V" } : Jvm.MethodName)) ∈ hB := hB_in 408 rfl (by decide +kernel)
set_option maxRecDepth 20000 in
theorem lm_Co_50 : (Jvm.Cond.methodLink "MergeRows$Common" (50 : Nat) ({ cls := "java/lang/Math", name := "max", desc := "(II)I" } : Jvm.MethodName)) ∈ hB := hB_in 412 rfl (by decide +kernel)
set_option maxRecDepth 20000 in
theorem lm_Hu_3 : (Jvm.Cond.methodLink "MergeRows$Hunks" (3 : Nat) ({ cls := "java/lang/Object", name := "<init>", desc := "()V" } : Jvm.MethodName)) ∈ hB := hB_in 113 rfl (by decide +kernel)
set_option maxRecDepth 20000 in
theorem lf_Hu_11 : (Jvm.Cond.fieldLink "MergeRows$Hunks" (11 : Nat) "MergeRows$Hunks" "cells" "[I") ∈ hB := hB_in 114 rfl (by decide +kernel)
set_option maxRecDepth 20000 in
theorem lf_Hu_15 : (Jvm.Cond.fieldLink "MergeRows$Hunks" (15 : Nat) "MergeRows$Hunks" "count" "I") ∈ hB := hB_in 117 rfl (by decide +kernel)
set_option maxRecDepth 20000 in
theorem lf_Hu_19 : (Jvm.Cond.fieldLink "MergeRows$Hunks" (19 : Nat) "MergeRows$Hunks" "common" "LMergeRows$Common;") ∈ hB := hB_in 120 rfl (by decide +kernel)
set_option maxRecDepth 20000 in
theorem lm_Hu_23 : (Jvm.Cond.methodLink "MergeRows$Hunks" (23 : Nat) ({ cls := "MergeRows$Common", name := "find", desc := "(LMergeRows$Row;LMergeRows$Row;)V" } : Jvm.MethodName)) ∈ hB := hB_in 446 rfl (by decide +kernel)
set_option maxRecDepth 20000 in
theorem lf_Hu_29 : (Jvm.Cond.fieldLink "MergeRows$Hunks" (29 : Nat) "MergeRows$Common" "count" "I") ∈ hB := hB_in 94 rfl (by decide +kernel)
set_option maxRecDepth 20000 in
theorem lf_Hu_30 : (Jvm.Cond.fieldLink "MergeRows$Hunks" (30 : Nat) "MergeRows$Common" "placesA" "[I") ∈ hB := hB_in 84 rfl (by decide +kernel)
set_option maxRecDepth 20000 in
theorem lf_Hu_33 : (Jvm.Cond.fieldLink "MergeRows$Hunks" (33 : Nat) "MergeRows$Common" "placesB" "[I") ∈ hB := hB_in 89 rfl (by decide +kernel)
set_option maxRecDepth 20000 in
theorem lm_Hu_36 : (Jvm.Cond.methodLink "MergeRows$Hunks" (36 : Nat) ({ cls := "MergeRows$Hunks", name := "addUnlessEmpty", desc := "(IIII)V" } : Jvm.MethodName)) ∈ hB := hB_in 447 rfl (by decide +kernel)
set_option maxRecDepth 20000 in
theorem lf_Hu_40 : (Jvm.Cond.fieldLink "MergeRows$Hunks" (40 : Nat) "MergeRows$Row" "count" "I") ∈ hB := hB_in 70 rfl (by decide +kernel)
set_option maxRecDepth 20000 in
theorem lm_Mg_3 : (Jvm.Cond.methodLink "MergeRows$Merging" (3 : Nat) ({ cls := "java/lang/Object", name := "<init>", desc := "()V" } : Jvm.MethodName)) ∈ hB := hB_in 180 rfl (by decide +kernel)
set_option maxRecDepth 20000 in
theorem lc_Mg_9 : (Jvm.Cond.classLink "MergeRows$Merging" (9 : Nat) "MergeRows$Row") ∈ hB := hB_in 181 rfl (by decide +kernel)
set_option maxRecDepth 20000 in
theorem lm_Mg_11 : (Jvm.Cond.methodLink "MergeRows$Merging" (11 : Nat) ({ cls := "MergeRows$Row", name := "<init>", desc := "(I)V" } : Jvm.MethodName)) ∈ hB := hB_in 182 rfl (by decide +kernel)
set_option maxRecDepth 20000 in
theorem lf_Mg_14 : (Jvm.Cond.fieldLink "MergeRows$Merging" (14 : Nat) "MergeRows$Merging" "outcome" "LMergeRows$Row;") ∈ hB := hB_in 204 rfl (by decide +kernel)
set_option maxRecDepth 20000 in
theorem lf_Mg_20 : (Jvm.Cond.fieldLink "MergeRows$Merging" (20 : Nat) "MergeRows$Merging" "conflictCells" "[I") ∈ hB := hB_in 206 rfl (by decide +kernel)
set_option maxRecDepth 20000 in
theorem lf_Mg_24 : (Jvm.Cond.fieldLink "MergeRows$Merging" (24 : Nat) "MergeRows$Merging" "conflictCount" "I") ∈ hB := hB_in 208 rfl (by decide +kernel)
set_option maxRecDepth 20000 in
theorem lf_Mg_28 : (Jvm.Cond.fieldLink "MergeRows$Merging" (28 : Nat) "MergeRows$Merging" "baseAndLeft" "LMergeRows$Common;") ∈ hB := hB_in 210 rfl (by decide +kernel)
set_option maxRecDepth 20000 in
theorem lf_Mg_32 : (Jvm.Cond.fieldLink "MergeRows$Merging" (32 : Nat) "MergeRows$Merging" "baseAndRight" "LMergeRows$Common;") ∈ hB := hB_in 211 rfl (by decide +kernel)
set_option maxRecDepth 20000 in
theorem lc_Mg_35 : (Jvm.Cond.classLink "MergeRows$Merging" (35 : Nat) "MergeRows$Part") ∈ hB := hB_in 183 rfl (by decide +kernel)
set_option maxRecDepth 20000 in
theorem lm_Mg_37 : (Jvm.Cond.methodLink "MergeRows$Merging" (37 : Nat) ({ cls := "MergeRows$Part", name := "<init>", desc := "()V" } : Jvm.MethodName)) ∈ hB := hB_in 185 rfl (by decide +kernel)
set_option maxRecDepth 20000 in
theorem lf_Mg_38 : (Jvm.Cond.fieldLink "MergeRows$Merging" (38 : Nat) "MergeRows$Merging" "basePart" "LMergeRows$Part;") ∈ hB := hB_in 212 rfl (by decide +kernel)
set_option maxRecDepth 20000 in
theorem lf_Mg_42 : (Jvm.Cond.fieldLink "MergeRows$Merging" (42 : Nat) "MergeRows$Merging" "leftPart" "LMergeRows$Part;") ∈ hB := hB_in 213 rfl (by decide +kernel)
set_option maxRecDepth 20000 in
theorem lf_Mg_45 : (Jvm.Cond.fieldLink "MergeRows$Merging" (45 : Nat) "MergeRows$Merging" "rightPart" "LMergeRows$Part;") ∈ hB := hB_in 214 rfl (by decide +kernel)
set_option maxRecDepth 20000 in
theorem lm_Mg_48 : (Jvm.Cond.methodLink "MergeRows$Merging" (48 : Nat) ({ cls := "MergeRows$Common", name := "find", desc := "(LMergeRows$Row;LMergeRows$Row;)V" } : Jvm.MethodName)) ∈ hB := hB_in 470 rfl (by decide +kernel)
set_option maxRecDepth 20000 in
theorem lf_Mg_54 : (Jvm.Cond.fieldLink "MergeRows$Merging" (54 : Nat) "MergeRows$Row" "count" "I") ∈ hB := hB_in 68 rfl (by decide +kernel)
set_option maxRecDepth 20000 in
theorem lm_Mg_57 : (Jvm.Cond.methodLink "MergeRows$Merging" (57 : Nat) ({ cls := "MergeRows$Part", name := "startOn", desc := "(LMergeRows$Row;)V" } : Jvm.MethodName)) ∈ hB := hB_in 471 rfl (by decide +kernel)
set_option maxRecDepth 20000 in
theorem lm_Mg_61 : (Jvm.Cond.methodLink "MergeRows$Merging" (61 : Nat) ({ cls := "MergeRows$Merging", name := "mergeUpToAnchors", desc := "(LMergeRows$Row;)V" } : Jvm.MethodName)) ∈ hB := hB_in 475 rfl (by decide +kernel)
set_option maxRecDepth 20000 in
theorem lm_Mg_64 : (Jvm.Cond.methodLink "MergeRows$Merging" (64 : Nat) ({ cls := "MergeRows$Merging", name := "mergeParts", desc := "(III)V" } : Jvm.MethodName)) ∈ hB := hB_in 479 rfl (by decide +kernel)
set_option maxRecDepth 20000 in
theorem lf_Mg_68 : (Jvm.Cond.fieldLink "MergeRows$Merging" (68 : Nat) "MergeRows$Common" "count" "I") ∈ hB := hB_in 95 rfl (by decide +kernel)
set_option maxRecDepth 20000 in
theorem lf_Mg_69 : (Jvm.Cond.fieldLink "MergeRows$Merging" (69 : Nat) "MergeRows$Common" "placesA" "[I") ∈ hB := hB_in 85 rfl (by decide +kernel)
set_option maxRecDepth 20000 in
theorem lf_Mg_72 : (Jvm.Cond.fieldLink "MergeRows$Merging" (72 : Nat) "MergeRows$Common" "placesB" "[I") ∈ hB := hB_in 91 rfl (by decide +kernel)
set_option maxRecDepth 20000 in
theorem lf_Mg_75 : (Jvm.Cond.fieldLink "MergeRows$Merging" (75 : Nat) "MergeRows$Row" "lines" "[I") ∈ hB := hB_in 60 rfl (by decide +kernel)
set_option maxRecDepth 20000 in
theorem lm_Mg_78 : (Jvm.Cond.methodLink "MergeRows$Merging" (78 : Nat) ({ cls := "MergeRows$Row", name := "add", desc := "(I)V" } : Jvm.MethodName)) ∈ hB := hB_in 505 rfl (by decide +kernel)
set_option maxRecDepth 20000 in
theorem lm_Mg_81 : (Jvm.Cond.methodLink "MergeRows$Merging" (81 : Nat) ({ cls := "MergeRows$Merging", name := "stepPartsOverAnchor", desc := "()V" } : Jvm.MethodName)) ∈ hB := hB_in 506 rfl (by decide +kernel)
set_option maxRecDepth 20000 in
theorem lm_Mg_84 : (Jvm.Cond.methodLink "MergeRows$Merging" (84 : Nat) ({ cls := "MergeRows$Part", name := "stepOverAnchor", desc := "()V" } : Jvm.MethodName)) ∈ hB := hB_in 510 rfl (by decide +kernel)
set_option maxRecDepth 20000 in
theorem lf_Mg_87 : (Jvm.Cond.fieldLink "MergeRows$Merging" (87 : Nat) "MergeRows$Part" "end" "I") ∈ hB := hB_in 196 rfl (by decide +kernel)
set_option maxRecDepth 20000 in
theorem lm_Mg_90 : (Jvm.Cond.methodLink "MergeRows$Merging" (90 : Nat) ({ cls := "MergeRows$Part", name := "isLike", desc := "(LMergeRows$Part;)Z" } : Jvm.MethodName)) ∈ hB := hB_in 483 rfl (by decide +kernel)
set_option maxRecDepth 20000 in
theorem lm_Mg_94 : (Jvm.Cond.methodLink "MergeRows$Merging" (94 : Nat) ({ cls := "MergeRows$Merging", name := "take", desc := "(LMergeRows$Part;)V" } : Jvm.MethodName)) ∈ hB := hB_in 491 rfl (by decide +kernel)
set_option maxRecDepth 20000 in
theorem lm_Mg_98 : (Jvm.Cond.methodLink "MergeRows$Merging" (98 : Nat) ({ cls := "MergeRows$Merging", name := "addConflict", desc := "()V" } : Jvm.MethodName)) ∈ hB := hB_in 500 rfl (by decide +kernel)
set_option maxRecDepth 20000 in
theorem lf_Mg_101 : (Jvm.Cond.fieldLink "MergeRows$Merging" (101 : Nat) "MergeRows$Part" "row" "LMergeRows$Row;") ∈ hB := hB_in 192 rfl (by decide +kernel)
set_option maxRecDepth 20000 in
theorem lf_Mg_104 : (Jvm.Cond.fieldLink "MergeRows$Merging" (104 : Nat) "MergeRows$Part" "from" "I") ∈ hB := hB_in 194 rfl (by decide +kernel)
set_option maxRecDepth 20000 in
theorem lm_Mg_107 : (Jvm.Cond.methodLink "MergeRows$Merging" (107 : Nat) ({ cls := "MergeRows$Row", name := "addPart", desc := "(LMergeRows$Row;II)V" } : Jvm.MethodName)) ∈ hB := hB_in 495 rfl (by decide +kernel)
set_option maxRecDepth 20000 in
theorem lm_Mg_111 : (Jvm.Cond.methodLink "MergeRows$Merging" (111 : Nat) ({ cls := "MergeRows$Part", name := "length", desc := "()I" } : Jvm.MethodName)) ∈ hB := hB_in 504 rfl (by decide +kernel)
set_option maxRecDepth 20000 in
theorem lm_Pa_1 : (Jvm.Cond.methodLink "MergeRows$Part" (1 : Nat) ({ cls := "java/lang/Object", name := "<init>", desc := "()V" } : Jvm.MethodName)) ∈ hB := hB_in 188 rfl (by decide +kernel)
set_option maxRecDepth 20000 in
theorem lc_Pa_7 : (Jvm.Cond.classLink "MergeRows$Part" (7 : Nat) "MergeRows$Row") ∈ hB := hB_in 189 rfl (by decide +kernel)
set_option maxRecDepth 20000 in
theorem lm_Pa_9 : (Jvm.Cond.methodLink "MergeRows$Part" (9 : Nat) ({ cls := "MergeRows$Row", name := "<init>", desc := "(I)V" } : Jvm.MethodName)) ∈ hB := hB_in 190 rfl (by decide +kernel)
set_option maxRecDepth 20000 in
theorem lf_Pa_12 : (Jvm.Cond.fieldLink "MergeRows$Part" (12 : Nat) "MergeRows$Part" "row" "LMergeRows$Row;") ∈ hB := hB_in 191 rfl (by decide +kernel)
set_option maxRecDepth 20000 in
theorem lf_Pa_18 : (Jvm.Cond.fieldLink "MergeRows$Part" (18 : Nat) "MergeRows$Part" "from" "I") ∈ hB := hB_in 193 rfl (by decide +kernel)
set_option maxRecDepth 20000 in
theorem lf_Pa_22 : (Jvm.Cond.fieldLink "MergeRows$Part" (22 : Nat) "MergeRows$Part" "end" "I") ∈ hB := hB_in 195 rfl (by decide +kernel)
set_option maxRecDepth 20000 in
theorem lm_Pa_25 : (Jvm.Cond.methodLink "MergeRows$Part" (25 : Nat) ({ cls := "MergeRows$Part", name := "length", desc := "()I" } : Jvm.MethodName)) ∈ hB := hB_in 487 rfl (by decide +kernel)
set_option maxRecDepth 20000 in
theorem lf_Pa_29 : (Jvm.Cond.fieldLink "MergeRows$Part" (29 : Nat) "MergeRows$Row" "lines" "[I") ∈ hB := hB_in 62 rfl (by decide +kernel)
set_option maxRecDepth 20000 in
theorem lm_Pg_3 : (Jvm.Cond.methodLink "MergeRows$Patching" (3 : Nat) ({ cls := "java/lang/Object", name := "<init>", desc := "()V" } : Jvm.MethodName)) ∈ hB := hB_in 133 rfl (by decide +kernel)
set_option maxRecDepth 20000 in
theorem lc_Pg_9 : (Jvm.Cond.classLink "MergeRows$Patching" (9 : Nat) "MergeRows$Row") ∈ hB := hB_in 134 rfl (by decide +kernel)
set_option maxRecDepth 20000 in
theorem lm_Pg_11 : (Jvm.Cond.methodLink "MergeRows$Patching" (11 : Nat) ({ cls := "MergeRows$Row", name := "<init>", desc := "(I)V" } : Jvm.MethodName)) ∈ hB := hB_in 135 rfl (by decide +kernel)
set_option maxRecDepth 20000 in
theorem lf_Pg_14 : (Jvm.Cond.fieldLink "MergeRows$Patching" (14 : Nat) "MergeRows$Patching" "outcome" "LMergeRows$Row;") ∈ hB := hB_in 136 rfl (by decide +kernel)
set_option maxRecDepth 20000 in
theorem lf_Pg_20 : (Jvm.Cond.fieldLink "MergeRows$Patching" (20 : Nat) "MergeRows$Patching" "rejected" "I") ∈ hB := hB_in 138 rfl (by decide +kernel)
set_option maxRecDepth 20000 in
theorem lf_Pg_24 : (Jvm.Cond.fieldLink "MergeRows$Patching" (24 : Nat) "MergeRows$Patching" "hunks" "LMergeRows$Hunks;") ∈ hB := hB_in 140 rfl (by decide +kernel)
set_option maxRecDepth 20000 in
theorem lm_Pg_28 : (Jvm.Cond.methodLink "MergeRows$Patching" (28 : Nat) ({ cls := "MergeRows$Hunks", name := "find", desc := "(LMergeRows$Row;LMergeRows$Row;)V" } : Jvm.MethodName)) ∈ hB := hB_in 542 rfl (by decide +kernel)
set_option maxRecDepth 20000 in
theorem lf_Pg_34 : (Jvm.Cond.fieldLink "MergeRows$Patching" (34 : Nat) "MergeRows$Row" "count" "I") ∈ hB := hB_in 66 rfl (by decide +kernel)
set_option maxRecDepth 20000 in
theorem lf_Pg_37 : (Jvm.Cond.fieldLink "MergeRows$Patching" (37 : Nat) "MergeRows$Hunks" "count" "I") ∈ hB := hB_in 118 rfl (by decide +kernel)
set_option maxRecDepth 20000 in
theorem lf_Pg_38 : (Jvm.Cond.fieldLink "MergeRows$Patching" (38 : Nat) "MergeRows$Hunks" "cells" "[I") ∈ hB := hB_in 115 rfl (by decide +kernel)
set_option maxRecDepth 20000 in
theorem lm_Pg_42 : (Jvm.Cond.methodLink "MergeRows$Patching" (42 : Nat) ({ cls := "MergeRows$Patching", name := "nearestFit", desc := "(LMergeRows$Row;IILMergeRows$Row;II)I" } : Jvm.MethodName)) ∈ hB := hB_in 543 rfl (by decide +kernel)
set_option maxRecDepth 20000 in
theorem lm_Pg_46 : (Jvm.Cond.methodLink "MergeRows$Patching" (46 : Nat) ({ cls := "MergeRows$Row", name := "addPart", desc := "(LMergeRows$Row;II)V" } : Jvm.MethodName)) ∈ hB := hB_in 560 rfl (by decide +kernel)
set_option maxRecDepth 20000 in
theorem lm_Pg_50 : (Jvm.Cond.methodLink "MergeRows$Patching" (50 : Nat) ({ cls := "java/lang/Math", name := "abs", desc := "(I)I" } : Jvm.MethodName)) ∈ hB := hB_in 546 rfl (by decide +kernel)
set_option maxRecDepth 20000 in
theorem lm_Pg_56 : (Jvm.Cond.methodLink "MergeRows$Patching" (56 : Nat) ({ cls := "MergeRows$Patching", name := "fits", desc := "(LMergeRows$Row;IILMergeRows$Row;I)Z" } : Jvm.MethodName)) ∈ hB := hB_in 549 rfl (by decide +kernel)
set_option maxRecDepth 20000 in
theorem lm_Pg_60 : (Jvm.Cond.methodLink "MergeRows$Patching" (60 : Nat) ({ cls := "java/lang/Math", name := "max", desc := "(II)I" } : Jvm.MethodName)) ∈ hB := hB_in 552 rfl (by decide +kernel)
set_option maxRecDepth 20000 in
theorem lm_Pg_64 : (Jvm.Cond.methodLink "MergeRows$Patching" (64 : Nat) ({ cls := "java/lang/Math", name := "min", desc := "(II)I" } : Jvm.MethodName)) ∈ hB := hB_in 553 rfl (by decide +kernel)
set_option maxRecDepth 20000 in
theorem lf_Pg_67 : (Jvm.Cond.fieldLink "MergeRows$Patching" (67 : Nat) "MergeRows$Row" "lines" "[I") ∈ hB := hB_in 61 rfl (by decide +kernel)
set_option maxRecDepth 20000 in
theorem lm_Pg_70 : (Jvm.Cond.methodLink "MergeRows$Patching" (70 : Nat) ({ cls := "MergeRows$Row", name := "hasAt", desc := "(II)Z" } : Jvm.MethodName)) ∈ hB := hB_in 556 rfl (by decide +kernel)
set_option maxRecDepth 20000 in
theorem lm_Ro_3 : (Jvm.Cond.methodLink "MergeRows$Row" (3 : Nat) ({ cls := "java/lang/Object", name := "<init>", desc := "()V" } : Jvm.MethodName)) ∈ hB := hB_in 57 rfl (by decide +kernel)
set_option maxRecDepth 20000 in
theorem lf_Ro_9 : (Jvm.Cond.fieldLink "MergeRows$Row" (9 : Nat) "MergeRows$Row" "lines" "[I") ∈ hB := hB_in 58 rfl (by decide +kernel)
set_option maxRecDepth 20000 in
theorem lf_Ro_15 : (Jvm.Cond.fieldLink "MergeRows$Row" (15 : Nat) "MergeRows$Row" "count" "I") ∈ hB := hB_in 64 rfl (by decide +kernel)
set_option maxRecDepth 20000 in
theorem lm_Ro_19 : (Jvm.Cond.methodLink "MergeRows$Row" (19 : Nat) ({ cls := "MergeRows$Row", name := "add", desc := "(I)V" } : Jvm.MethodName)) ∈ hB := hB_in 499 rfl (by decide +kernel)
set_option maxRecDepth 20000 in
theorem lm_Ro_23 : (Jvm.Cond.methodLink "MergeRows$Row" (23 : Nat) ({ cls := "MergeRows$Row", name := "addPart", desc := "(LMergeRows$Row;II)V" } : Jvm.MethodName)) ∈ hB := hB_in 522 rfl (by decide +kernel)
set_option maxRecDepth 20000 in
theorem lm_Ve_3 : (Jvm.Cond.methodLink "MergeRows$Versions" (3 : Nat) ({ cls := "java/lang/Object", name := "<init>", desc := "()V" } : Jvm.MethodName)) ∈ hB := hB_in 153 rfl (by decide +kernel)
set_option maxRecDepth 20000 in
theorem lf_Ve_9 : (Jvm.Cond.fieldLink "MergeRows$Versions" (9 : Nat) "MergeRows$Versions" "sizes" "[I") ∈ hB := hB_in 156 rfl (by decide +kernel)
set_option maxRecDepth 20000 in
theorem lf_Ve_15 : (Jvm.Cond.fieldLink "MergeRows$Versions" (15 : Nat) "MergeRows$Versions" "origins" "[I") ∈ hB := hB_in 158 rfl (by decide +kernel)
set_option maxRecDepth 20000 in
theorem lf_Ve_18 : (Jvm.Cond.fieldLink "MergeRows$Versions" (18 : Nat) "MergeRows$Versions" "count" "I") ∈ hB := hB_in 160 rfl (by decide +kernel)
set_option maxRecDepth 20000 in
theorem lc_Ve_22 : (Jvm.Cond.classLink "MergeRows$Versions" (22 : Nat) "MergeRows$Row") ∈ hB := hB_in 154 rfl (by decide +kernel)
set_option maxRecDepth 20000 in
theorem lm_Ve_24 : (Jvm.Cond.methodLink "MergeRows$Versions" (24 : Nat) ({ cls := "MergeRows$Row", name := "<init>", desc := "(I)V" } : Jvm.MethodName)) ∈ hB := hB_in 155 rfl (by decide +kernel)
set_option maxRecDepth 20000 in
theorem lf_Ve_27 : (Jvm.Cond.fieldLink "MergeRows$Versions" (27 : Nat) "MergeRows$Versions" "newest" "LMergeRows$Row;") ∈ hB := hB_in 162 rfl (by decide +kernel)
set_option maxRecDepth 20000 in
theorem lf_Ve_31 : (Jvm.Cond.fieldLink "MergeRows$Versions" (31 : Nat) "MergeRows$Versions" "common" "LMergeRows$Common;") ∈ hB := hB_in 163 rfl (by decide +kernel)
set_option maxRecDepth 20000 in
theorem lm_Ve_35 : (Jvm.Cond.methodLink "MergeRows$Versions" (35 : Nat) ({ cls := "MergeRows$Versions", name := "fillOrigins", desc := "(LMergeRows$Row;)V" } : Jvm.MethodName)) ∈ hB := hB_in 573 rfl (by decide +kernel)
set_option maxRecDepth 20000 in
theorem lf_Ve_39 : (Jvm.Cond.fieldLink "MergeRows$Versions" (39 : Nat) "MergeRows$Row" "count" "I") ∈ hB := hB_in 69 rfl (by decide +kernel)
set_option maxRecDepth 20000 in
theorem lm_Ve_40 : (Jvm.Cond.methodLink "MergeRows$Versions" (40 : Nat) ({ cls := "MergeRows$Row", name := "become", desc := "(LMergeRows$Row;)V" } : Jvm.MethodName)) ∈ hB := hB_in 578 rfl (by decide +kernel)
set_option maxRecDepth 20000 in
theorem lm_Ve_43 : (Jvm.Cond.methodLink "MergeRows$Versions" (43 : Nat) ({ cls := "MergeRows$Common", name := "find", desc := "(LMergeRows$Row;LMergeRows$Row;)V" } : Jvm.MethodName)) ∈ hB := hB_in 577 rfl (by decide +kernel)
set_option maxRecDepth 20000 in
theorem lf_Ve_49 : (Jvm.Cond.fieldLink "MergeRows$Versions" (49 : Nat) "MergeRows$Common" "count" "I") ∈ hB := hB_in 96 rfl (by decide +kernel)
set_option maxRecDepth 20000 in
theorem lf_Ve_50 : (Jvm.Cond.fieldLink "MergeRows$Versions" (50 : Nat) "MergeRows$Common" "placesB" "[I") ∈ hB := hB_in 90 rfl (by decide +kernel)
set_option maxRecDepth 20000 in
theorem lf_Ve_53 : (Jvm.Cond.fieldLink "MergeRows$Versions" (53 : Nat) "MergeRows$Common" "placesA" "[I") ∈ hB := hB_in 86 rfl (by decide +kernel)
set_option maxRecDepth 20000 in
theorem lm_La_7 : (Jvm.Cond.methodLink "MergeRowsLaw" (7 : Nat) ({ cls := "MergeRows", name := "put", desc := "(II)I" } : Jvm.MethodName)) ∈ hB := hB_in 259 rfl (by decide +kernel)
set_option maxRecDepth 20000 in
theorem lm_La_17 : (Jvm.Cond.methodLink "MergeRowsLaw" (17 : Nat) ({ cls := "MergeRows", name := "clear", desc := "(I)V" } : Jvm.MethodName)) ∈ hB := hB_in 358 rfl (by decide +kernel)
set_option maxRecDepth 20000 in
theorem lm_La_21 : (Jvm.Cond.methodLink "MergeRowsLaw" (21 : Nat) ({ cls := "MergeRows", name := "size", desc := "(I)I" } : Jvm.MethodName)) ∈ hB := hB_in 365 rfl (by decide +kernel)
set_option maxRecDepth 20000 in
theorem lm_La_25 : (Jvm.Cond.methodLink "MergeRowsLaw" (25 : Nat) ({ cls := "MergeRows", name := "get", desc := "(II)I" } : Jvm.MethodName)) ∈ hB := hB_in 373 rfl (by decide +kernel)
set_option maxRecDepth 20000 in
theorem lm_La_30 : (Jvm.Cond.methodLink "MergeRowsLaw" (30 : Nat) ({ cls := "MergeRows", name := "common", desc := "(II)I" } : Jvm.MethodName)) ∈ hB := hB_in 396 rfl (by decide +kernel)
set_option maxRecDepth 20000 in
theorem lm_La_33 : (Jvm.Cond.methodLink "MergeRowsLaw" (33 : Nat) ({ cls := "MergeRows", name := "pair", desc := "(II)I" } : Jvm.MethodName)) ∈ hB := hB_in 430 rfl (by decide +kernel)
set_option maxRecDepth 20000 in
theorem lm_La_36 : (Jvm.Cond.methodLink "MergeRowsLaw" (36 : Nat) ({ cls := "MergeRows", name := "hunks", desc := "(II)I" } : Jvm.MethodName)) ∈ hB := hB_in 438 rfl (by decide +kernel)
set_option maxRecDepth 20000 in
theorem lm_La_39 : (Jvm.Cond.methodLink "MergeRowsLaw" (39 : Nat) ({ cls := "MergeRows", name := "hunk", desc := "(II)I" } : Jvm.MethodName)) ∈ hB := hB_in 454 rfl (by decide +kernel)
set_option maxRecDepth 20000 in
theorem lm_La_42 : (Jvm.Cond.methodLink "MergeRowsLaw" (42 : Nat) ({ cls := "MergeRows", name := "merge", desc := "(IIII)I" } : Jvm.MethodName)) ∈ hB := hB_in 462 rfl (by decide +kernel)
set_option maxRecDepth 20000 in
theorem lm_La_46 : (Jvm.Cond.methodLink "MergeRowsLaw" (46 : Nat) ({ cls := "MergeRows", name := "conflict", desc := "(II)I" } : Jvm.MethodName)) ∈ hB := hB_in 526 rfl (by decide +kernel)
set_option maxRecDepth 20000 in
theorem lm_La_49 : (Jvm.Cond.methodLink "MergeRowsLaw" (49 : Nat) ({ cls := "MergeRows", name := "patch", desc := "(IIII)I" } : Jvm.MethodName)) ∈ hB := hB_in 534 rfl (by decide +kernel)
set_option maxRecDepth 20000 in
theorem lm_La_52 : (Jvm.Cond.methodLink "MergeRowsLaw" (52 : Nat) ({ cls := "MergeRows", name := "commit", desc := "(I)I" } : Jvm.MethodName)) ∈ hB := hB_in 564 rfl (by decide +kernel)
set_option maxRecDepth 20000 in
theorem lm_La_55 : (Jvm.Cond.methodLink "MergeRowsLaw" (55 : Nat) ({ cls := "MergeRows", name := "origin", desc := "(II)I" } : Jvm.MethodName)) ∈ hB := hB_in 582 rfl (by decide +kernel)
set_option maxRecDepth 20000 in
theorem lm_La_62 : (Jvm.Cond.methodLink "MergeRowsLaw" (62 : Nat) ({ cls := "MergeRowsLaw", name := "put", desc := "(LMergeRows;II[J)I" } : Jvm.MethodName)) ∈ hB := hB_in 254 rfl (by decide +kernel)
set_option maxRecDepth 20000 in
theorem lm_La_67 : (Jvm.Cond.methodLink "MergeRowsLaw" (67 : Nat) ({ cls := "MergeRowsModel", name := "put", desc := "(II)I" } : Jvm.MethodName)) ∈ hB := hB_in 685 rfl (by decide +kernel)
set_option maxRecDepth 20000 in
theorem lm_La_68 : (Jvm.Cond.methodLink "MergeRowsLaw" (68 : Nat) ({ cls := "MergeRowsModel", name := "thrown", desc := "()I" } : Jvm.MethodName)) ∈ hB := hB_in 681 rfl (by decide +kernel)
set_option maxRecDepth 20000 in
theorem lm_La_72 : (Jvm.Cond.methodLink "MergeRowsLaw" (72 : Nat) ({ cls := "MergeRowsLaw", name := "clear", desc := "(LMergeRows;I)I" } : Jvm.MethodName)) ∈ hB := hB_in 355 rfl (by decide +kernel)
set_option maxRecDepth 20000 in
theorem lm_La_75 : (Jvm.Cond.methodLink "MergeRowsLaw" (75 : Nat) ({ cls := "MergeRowsModel", name := "clear", desc := "(I)V" } : Jvm.MethodName)) ∈ hB := hB_in 696 rfl (by decide +kernel)
set_option maxRecDepth 20000 in
theorem lm_La_76 : (Jvm.Cond.methodLink "MergeRowsLaw" (76 : Nat) ({ cls := "MergeRowsLaw", name := "size", desc := "(LMergeRows;I[J)I" } : Jvm.MethodName)) ∈ hB := hB_in 362 rfl (by decide +kernel)
set_option maxRecDepth 20000 in
theorem lm_La_79 : (Jvm.Cond.methodLink "MergeRowsLaw" (79 : Nat) ({ cls := "MergeRowsModel", name := "size", desc := "(I)I" } : Jvm.MethodName)) ∈ hB := hB_in 700 rfl (by decide +kernel)
set_option maxRecDepth 20000 in
theorem lm_La_80 : (Jvm.Cond.methodLink "MergeRowsLaw" (80 : Nat) ({ cls := "MergeRowsLaw", name := "get", desc := "(LMergeRows;II[J)I" } : Jvm.MethodName)) ∈ hB := hB_in 369 rfl (by decide +kernel)
set_option maxRecDepth 20000 in
theorem lm_La_82 : (Jvm.Cond.methodLink "MergeRowsLaw" (82 : Nat) ({ cls := "MergeRowsModel", name := "get", desc := "(II)I" } : Jvm.MethodName)) ∈ hB := hB_in 704 rfl (by decide +kernel)
set_option maxRecDepth 20000 in
theorem lm_La_83 : (Jvm.Cond.methodLink "MergeRowsLaw" (83 : Nat) ({ cls := "MergeRowsLaw", name := "common", desc := "(LMergeRows;II[J)I" } : Jvm.MethodName)) ∈ hB := hB_in 393 rfl (by decide +kernel)
set_option maxRecDepth 20000 in
theorem lm_La_85 : (Jvm.Cond.methodLink "MergeRowsLaw" (85 : Nat) ({ cls := "MergeRowsModel", name := "common", desc := "(II)I" } : Jvm.MethodName)) ∈ hB := hB_in 708 rfl (by decide +kernel)
set_option maxRecDepth 20000 in
theorem lm_La_86 : (Jvm.Cond.methodLink "MergeRowsLaw" (86 : Nat) ({ cls := "MergeRowsLaw", name := "pair", desc := "(LMergeRows;II[J)I" } : Jvm.MethodName)) ∈ hB := hB_in 427 rfl (by decide +kernel)
set_option maxRecDepth 20000 in
theorem lm_La_88 : (Jvm.Cond.methodLink "MergeRowsLaw" (88 : Nat) ({ cls := "MergeRowsModel", name := "pair", desc := "(II)I" } : Jvm.MethodName)) ∈ hB := hB_in 728 rfl (by decide +kernel)
set_option maxRecDepth 20000 in
theorem lm_La_89 : (Jvm.Cond.methodLink "MergeRowsLaw" (89 : Nat) ({ cls := "MergeRowsLaw", name := "hunks", desc := "(LMergeRows;II[J)I" } : Jvm.MethodName)) ∈ hB := hB_in 435 rfl (by decide +kernel)
set_option maxRecDepth 20000 in
theorem lm_La_91 : (Jvm.Cond.methodLink "MergeRowsLaw" (91 : Nat) ({ cls := "MergeRowsModel", name := "hunks", desc := "(II)I" } : Jvm.MethodName)) ∈ hB := hB_in 732 rfl (by decide +kernel)
set_option maxRecDepth 20000 in
theorem lm_La_92 : (Jvm.Cond.methodLink "MergeRowsLaw" (92 : Nat) ({ cls := "MergeRowsLaw", name := "hunk", desc := "(LMergeRows;II[J)I" } : Jvm.MethodName)) ∈ hB := hB_in 451 rfl (by decide +kernel)
set_option maxRecDepth 20000 in
theorem lm_La_94 : (Jvm.Cond.methodLink "MergeRowsLaw" (94 : Nat) ({ cls := "MergeRowsModel", name := "hunk", desc := "(II)I" } : Jvm.MethodName)) ∈ hB := hB_in 744 rfl (by decide +kernel)
set_option maxRecDepth 20000 in
theorem lm_La_95 : (Jvm.Cond.methodLink "MergeRowsLaw" (95 : Nat) ({ cls := "MergeRowsLaw", name := "merge", desc := "(LMergeRows;IIII[J)I" } : Jvm.MethodName)) ∈ hB := hB_in 459 rfl (by decide +kernel)
set_option maxRecDepth 20000 in
theorem lm_La_98 : (Jvm.Cond.methodLink "MergeRowsLaw" (98 : Nat) ({ cls := "MergeRowsModel", name := "merge", desc := "(IIII)I" } : Jvm.MethodName)) ∈ hB := hB_in 748 rfl (by decide +kernel)
set_option maxRecDepth 20000 in
theorem lm_La_99 : (Jvm.Cond.methodLink "MergeRowsLaw" (99 : Nat) ({ cls := "MergeRowsLaw", name := "conflict", desc := "(LMergeRows;II[J)I" } : Jvm.MethodName)) ∈ hB := hB_in 523 rfl (by decide +kernel)
set_option maxRecDepth 20000 in
theorem lm_La_101 : (Jvm.Cond.methodLink "MergeRowsLaw" (101 : Nat) ({ cls := "MergeRowsModel", name := "conflict", desc := "(II)I" } : Jvm.MethodName)) ∈ hB := hB_in 772 rfl (by decide +kernel)
set_option maxRecDepth 20000 in
theorem lm_La_102 : (Jvm.Cond.methodLink "MergeRowsLaw" (102 : Nat) ({ cls := "MergeRowsLaw", name := "patch", desc := "(LMergeRows;IIII[J)I" } : Jvm.MethodName)) ∈ hB := hB_in 531 rfl (by decide +kernel)
set_option maxRecDepth 20000 in
theorem lm_La_104 : (Jvm.Cond.methodLink "MergeRowsLaw" (104 : Nat) ({ cls := "MergeRowsModel", name := "patch", desc := "(IIII)I" } : Jvm.MethodName)) ∈ hB := hB_in 776 rfl (by decide +kernel)
set_option maxRecDepth 20000 in
theorem lm_La_105 : (Jvm.Cond.methodLink "MergeRowsLaw" (105 : Nat) ({ cls := "MergeRowsLaw", name := "commit", desc := "(LMergeRows;I[J)I" } : Jvm.MethodName)) ∈ hB := hB_in 561 rfl (by decide +kernel)
set_option maxRecDepth 20000 in
theorem lm_La_107 : (Jvm.Cond.methodLink "MergeRowsLaw" (107 : Nat) ({ cls := "MergeRowsModel", name := "commit", desc := "(I)I" } : Jvm.MethodName)) ∈ hB := hB_in 787 rfl (by decide +kernel)
set_option maxRecDepth 20000 in
theorem lm_La_108 : (Jvm.Cond.methodLink "MergeRowsLaw" (108 : Nat) ({ cls := "MergeRowsLaw", name := "origin", desc := "(LMergeRows;II[J)I" } : Jvm.MethodName)) ∈ hB := hB_in 579 rfl (by decide +kernel)
set_option maxRecDepth 20000 in
theorem lm_La_110 : (Jvm.Cond.methodLink "MergeRowsLaw" (110 : Nat) ({ cls := "MergeRowsModel", name := "origin", desc := "(II)I" } : Jvm.MethodName)) ∈ hB := hB_in 791 rfl (by decide +kernel)
end
section
theorem dCo_init_0 : decode cCo_init 0 = .ok (.aload_n 0, 1) := by decide +kernel
theorem dCo_init_1 : decode cCo_init 1 = .ok (.invokespecial 3, 3) := by decide +kernel
theorem dCo_init_4 : decode cCo_init 4 = .ok (.aload_n 0, 1) := by decide +kernel
theorem dCo_init_5 : decode cCo_init 5 = .ok (.bipush 60, 2) := by decide +kernel
theorem dCo_init_7 : decode cCo_init 7 = .ok (.newarray .int, 2) := by decide +kernel
theorem dCo_init_9 : decode cCo_init 9 = .ok (.putfield 9, 3) := by decide +kernel
theorem dCo_init_12 : decode cCo_init 12 = .ok (.aload_n 0, 1) := by decide +kernel
theorem dCo_init_13 : decode cCo_init 13 = .ok (.bipush 60, 2) := by decide +kernel
theorem dCo_init_15 : decode cCo_init 15 = .ok (.newarray .int, 2) := by decide +kernel
theorem dCo_init_17 : decode cCo_init 17 = .ok (.putfield 15, 3) := by decide +kernel
theorem dCo_init_20 : decode cCo_init 20 = .ok (.aload_n 0, 1) := by decide +kernel
theorem dCo_init_21 : decode cCo_init 21 = .ok (.iconst 0, 1) := by decide +kernel
theorem dCo_init_22 : decode cCo_init 22 = .ok (.putfield 18, 3) := by decide +kernel
theorem dCo_init_25 : decode cCo_init 25 = .ok (.aload_n 0, 1) := by decide +kernel
theorem dCo_init_26 : decode cCo_init 26 = .ok (.aload_n 1, 1) := by decide +kernel
theorem dCo_init_27 : decode cCo_init 27 = .ok (.putfield 22, 3) := by decide +kernel
theorem dCo_init_30 : decode cCo_init 30 = .ok (.return_, 1) := by decide +kernel
theorem dCo_find_0 : decode cCo_find 0 = .ok (.aload_n 0, 1) := by decide +kernel
theorem dCo_find_1 : decode cCo_find 1 = .ok (.aload_n 1, 1) := by decide +kernel
theorem dCo_find_2 : decode cCo_find 2 = .ok (.aload_n 2, 1) := by decide +kernel
theorem dCo_find_3 : decode cCo_find 3 = .ok (.invokevirtual 25, 3) := by decide +kernel
theorem dCo_find_6 : decode cCo_find 6 = .ok (.aload_n 0, 1) := by decide +kernel
theorem dCo_find_7 : decode cCo_find 7 = .ok (.iconst 0, 1) := by decide +kernel
theorem dCo_find_8 : decode cCo_find 8 = .ok (.putfield 18, 3) := by decide +kernel
theorem dCo_find_11 : decode cCo_find 11 = .ok (.iconst 0, 1) := by decide +kernel
theorem dCo_find_12 : decode cCo_find 12 = .ok (.istore_n 3, 1) := by decide +kernel
theorem dCo_find_13 : decode cCo_find 13 = .ok (.iconst 0, 1) := by decide +kernel
theorem dCo_find_14 : decode cCo_find 14 = .ok (.istore 4, 2) := by decide +kernel
theorem dCo_find_16 : decode cCo_find 16 = .ok (.iload 4, 2) := by decide +kernel
theorem dCo_find_18 : decode cCo_find 18 = .ok (.aload_n 1, 1) := by decide +kernel
theorem dCo_find_19 : decode cCo_find 19 = .ok (.getfield 29, 3) := by decide +kernel
theorem dCo_find_22 : decode cCo_find 22 = .ok (.if_icmp .ge 54, 3) := by decide +kernel
theorem dCo_find_25 : decode cCo_find 25 = .ok (.aload_n 2, 1) := by decide +kernel
theorem dCo_find_26 : decode cCo_find 26 = .ok (.aload_n 1, 1) := by decide +kernel
theorem dCo_find_27 : decode cCo_find 27 = .ok (.getfield 32, 3) := by decide +kernel
theorem dCo_find_30 : decode cCo_find 30 = .ok (.iload 4, 2) := by decide +kernel
theorem dCo_find_32 : decode cCo_find 32 = .ok (.iaload, 1) := by decide +kernel
theorem dCo_find_33 : decode cCo_find 33 = .ok (.iload_n 3, 1) := by decide +kernel
theorem dCo_find_34 : decode cCo_find 34 = .ok (.invokevirtual 35, 3) := by decide +kernel
theorem dCo_find_37 : decode cCo_find 37 = .ok (.istore 5, 2) := by decide +kernel
theorem dCo_find_39 : decode cCo_find 39 = .ok (.iload 5, 2) := by decide +kernel
theorem dCo_find_41 : decode cCo_find 41 = .ok (.iconst (-1), 1) := by decide +kernel
theorem dCo_find_42 : decode cCo_find 42 = .ok (.if_icmp .eq 28, 3) := by decide +kernel
theorem dCo_find_45 : decode cCo_find 45 = .ok (.aload_n 0, 1) := by decide +kernel
theorem dCo_find_46 : decode cCo_find 46 = .ok (.iload 4, 2) := by decide +kernel
theorem dCo_find_48 : decode cCo_find 48 = .ok (.iload_n 3, 1) := by decide +kernel
theorem dCo_find_49 : decode cCo_find 49 = .ok (.iload 5, 2) := by decide +kernel
theorem dCo_find_51 : decode cCo_find 51 = .ok (.invokevirtual 39, 3) := by decide +kernel
theorem dCo_find_54 : decode cCo_find 54 = .ok (.ifCond .eq 16, 3) := by decide +kernel
theorem dCo_find_57 : decode cCo_find 57 = .ok (.aload_n 0, 1) := by decide +kernel
theorem dCo_find_58 : decode cCo_find 58 = .ok (.iload 4, 2) := by decide +kernel
theorem dCo_find_60 : decode cCo_find 60 = .ok (.iload 5, 2) := by decide +kernel
theorem dCo_find_62 : decode cCo_find 62 = .ok (.invokevirtual 43, 3) := by decide +kernel
theorem dCo_find_65 : decode cCo_find 65 = .ok (.iload 5, 2) := by decide +kernel
theorem dCo_find_67 : decode cCo_find 67 = .ok (.iconst 1, 1) := by decide +kernel
theorem dCo_find_68 : decode cCo_find 68 = .ok (.iadd, 1) := by decide +kernel
theorem dCo_find_69 : decode cCo_find 69 = .ok (.istore_n 3, 1) := by decide +kernel
theorem dCo_find_70 : decode cCo_find 70 = .ok (.iinc 4 1, 3) := by decide +kernel
theorem dCo_find_73 : decode cCo_find 73 = .ok (.goto (-57), 3) := by decide +kernel
theorem dCo_find_76 : decode cCo_find 76 = .ok (.return_, 1) := by decide +kernel
theorem dCo_measure_0 : decode cCo_measure 0 = .ok (.aload_n 0, 1) := by decide +kernel
theorem dCo_measure_1 : decode cCo_measure 1 = .ok (.aload_n 1, 1) := by decide +kernel
theorem dCo_measure_2 : decode cCo_measure 2 = .ok (.getfield 29, 3) := by decide +kernel
theorem dCo_measure_5 : decode cCo_measure 5 = .ok (.aload_n 2, 1) := by decide +kernel
theorem dCo_measure_6 : decode cCo_measure 6 = .ok (.getfield 29, 3) := by decide +kernel
theorem dCo_measure_9 : decode cCo_measure 9 = .ok (.invokevirtual 47, 3) := by decide +kernel
theorem dCo_measure_12 : decode cCo_measure 12 = .ok (.aload_n 1, 1) := by decide +kernel
theorem dCo_measure_13 : decode cCo_measure 13 = .ok (.getfield 29, 3) := by decide +kernel
theorem dCo_measure_16 : decode cCo_measure 16 = .ok (.iconst 1, 1) := by decide +kernel
theorem dCo_measure_17 : decode cCo_measure 17 = .ok (.isub, 1) := by decide +kernel
theorem dCo_measure_18 : decode cCo_measure 18 = .ok (.istore_n 3, 1) := by decide +kernel
theorem dCo_measure_19 : decode cCo_measure 19 = .ok (.iload_n 3, 1) := by decide +kernel
theorem dCo_measure_20 : decode cCo_measure 20 = .ok (.ifCond .lt 99, 3) := by decide +kernel
theorem dCo_measure_23 : decode cCo_measure 23 = .ok (.aload_n 2, 1) := by decide +kernel
theorem dCo_measure_24 : decode cCo_measure 24 = .ok (.getfield 29, 3) := by decide +kernel
theorem dCo_measure_27 : decode cCo_measure 27 = .ok (.iconst 1, 1) := by decide +kernel
theorem dCo_measure_28 : decode cCo_measure 28 = .ok (.isub, 1) := by decide +kernel
theorem dCo_measure_29 : decode cCo_measure 29 = .ok (.istore 4, 2) := by decide +kernel
theorem dCo_measure_31 : decode cCo_measure 31 = .ok (.iload 4, 2) := by decide +kernel
theorem dCo_measure_33 : decode cCo_measure 33 = .ok (.ifCond .lt 80, 3) := by decide +kernel
theorem dCo_measure_36 : decode cCo_measure 36 = .ok (.iload_n 3, 1) := by decide +kernel
theorem dCo_measure_37 : decode cCo_measure 37 = .ok (.bipush 61, 2) := by decide +kernel
theorem dCo_measure_39 : decode cCo_measure 39 = .ok (.imul, 1) := by decide +kernel
theorem dCo_measure_40 : decode cCo_measure 40 = .ok (.iload 4, 2) := by decide +kernel
theorem dCo_measure_42 : decode cCo_measure 42 = .ok (.iadd, 1) := by decide +kernel
theorem dCo_measure_43 : decode cCo_measure 43 = .ok (.istore 5, 2) := by decide +kernel
theorem dCo_measure_45 : decode cCo_measure 45 = .ok (.aload_n 0, 1) := by decide +kernel
theorem dCo_measure_46 : decode cCo_measure 46 = .ok (.getfield 22, 3) := by decide +kernel
theorem dCo_measure_49 : decode cCo_measure 49 = .ok (.iload 5, 2) := by decide +kernel
theorem dCo_measure_51 : decode cCo_measure 51 = .ok (.aload_n 1, 1) := by decide +kernel
theorem dCo_measure_52 : decode cCo_measure 52 = .ok (.getfield 32, 3) := by decide +kernel
theorem dCo_measure_55 : decode cCo_measure 55 = .ok (.iload_n 3, 1) := by decide +kernel
theorem dCo_measure_56 : decode cCo_measure 56 = .ok (.iaload, 1) := by decide +kernel
theorem dCo_measure_57 : decode cCo_measure 57 = .ok (.aload_n 2, 1) := by decide +kernel
theorem dCo_measure_58 : decode cCo_measure 58 = .ok (.getfield 32, 3) := by decide +kernel
theorem dCo_measure_61 : decode cCo_measure 61 = .ok (.iload 4, 2) := by decide +kernel
theorem dCo_measure_63 : decode cCo_measure 63 = .ok (.iaload, 1) := by decide +kernel
theorem dCo_measure_64 : decode cCo_measure 64 = .ok (.if_icmp .ne 20, 3) := by decide +kernel
theorem dCo_measure_67 : decode cCo_measure 67 = .ok (.iconst 1, 1) := by decide +kernel
theorem dCo_measure_68 : decode cCo_measure 68 = .ok (.aload_n 0, 1) := by decide +kernel
theorem dCo_measure_69 : decode cCo_measure 69 = .ok (.getfield 22, 3) := by decide +kernel
theorem dCo_measure_72 : decode cCo_measure 72 = .ok (.iload 5, 2) := by decide +kernel
theorem dCo_measure_74 : decode cCo_measure 74 = .ok (.bipush 61, 2) := by decide +kernel
theorem dCo_measure_76 : decode cCo_measure 76 = .ok (.iadd, 1) := by decide +kernel
theorem dCo_measure_77 : decode cCo_measure 77 = .ok (.iconst 1, 1) := by decide +kernel
theorem dCo_measure_78 : decode cCo_measure 78 = .ok (.iadd, 1) := by decide +kernel
theorem dCo_measure_79 : decode cCo_measure 79 = .ok (.iaload, 1) := by decide +kernel
theorem dCo_measure_80 : decode cCo_measure 80 = .ok (.iadd, 1) := by decide +kernel
theorem dCo_measure_81 : decode cCo_measure 81 = .ok (.goto 25, 3) := by decide +kernel
theorem dCo_measure_84 : decode cCo_measure 84 = .ok (.aload_n 0, 1) := by decide +kernel
theorem dCo_measure_85 : decode cCo_measure 85 = .ok (.getfield 22, 3) := by decide +kernel
theorem dCo_measure_88 : decode cCo_measure 88 = .ok (.iload 5, 2) := by decide +kernel
theorem dCo_measure_90 : decode cCo_measure 90 = .ok (.bipush 61, 2) := by decide +kernel
theorem dCo_measure_92 : decode cCo_measure 92 = .ok (.iadd, 1) := by decide +kernel
theorem dCo_measure_93 : decode cCo_measure 93 = .ok (.iaload, 1) := by decide +kernel
theorem dCo_measure_94 : decode cCo_measure 94 = .ok (.aload_n 0, 1) := by decide +kernel
theorem dCo_measure_95 : decode cCo_measure 95 = .ok (.getfield 22, 3) := by decide +kernel
theorem dCo_measure_98 : decode cCo_measure 98 = .ok (.iload 5, 2) := by decide +kernel
theorem dCo_measure_100 : decode cCo_measure 100 = .ok (.iconst 1, 1) := by decide +kernel
theorem dCo_measure_101 : decode cCo_measure 101 = .ok (.iadd, 1) := by decide +kernel
theorem dCo_measure_102 : decode cCo_measure 102 = .ok (.iaload, 1) := by decide +kernel
theorem dCo_measure_103 : decode cCo_measure 103 = .ok (.invokestatic 50, 3) := by decide +kernel
theorem dCo_measure_106 : decode cCo_measure 106 = .ok (.iastore, 1) := by decide +kernel
theorem dCo_measure_107 : decode cCo_measure 107 = .ok (.iinc 4 (-1), 3) := by decide +kernel
theorem dCo_measure_110 : decode cCo_measure 110 = .ok (.goto (-79), 3) := by decide +kernel
theorem dCo_measure_113 : decode cCo_measure 113 = .ok (.iinc 3 (-1), 3) := by decide +kernel
theorem dCo_measure_116 : decode cCo_measure 116 = .ok (.goto (-97), 3) := by decide +kernel
theorem dCo_measure_119 : decode cCo_measure 119 = .ok (.return_, 1) := by decide +kernel
theorem dCo_clearEnds_0 : decode cCo_clearEnds 0 = .ok (.iconst 0, 1) := by decide +kernel
theorem dCo_clearEnds_1 : decode cCo_clearEnds 1 = .ok (.istore_n 3, 1) := by decide +kernel
theorem dCo_clearEnds_2 : decode cCo_clearEnds 2 = .ok (.iload_n 3, 1) := by decide +kernel
theorem dCo_clearEnds_3 : decode cCo_clearEnds 3 = .ok (.iload_n 1, 1) := by decide +kernel
theorem dCo_clearEnds_4 : decode cCo_clearEnds 4 = .ok (.if_icmp .gt 21, 3) := by decide +kernel
theorem dCo_clearEnds_7 : decode cCo_clearEnds 7 = .ok (.aload_n 0, 1) := by decide +kernel
theorem dCo_clearEnds_8 : decode cCo_clearEnds 8 = .ok (.getfield 22, 3) := by decide +kernel
theorem dCo_clearEnds_11 : decode cCo_clearEnds 11 = .ok (.iload_n 3, 1) := by decide +kernel
theorem dCo_clearEnds_12 : decode cCo_clearEnds 12 = .ok (.bipush 61, 2) := by decide +kernel
theorem dCo_clearEnds_14 : decode cCo_clearEnds 14 = .ok (.imul, 1) := by decide +kernel
theorem dCo_clearEnds_15 : decode cCo_clearEnds 15 = .ok (.iload_n 2, 1) := by decide +kernel
theorem dCo_clearEnds_16 : decode cCo_clearEnds 16 = .ok (.iadd, 1) := by decide +kernel
theorem dCo_clearEnds_17 : decode cCo_clearEnds 17 = .ok (.iconst 0, 1) := by decide +kernel
theorem dCo_clearEnds_18 : decode cCo_clearEnds 18 = .ok (.iastore, 1) := by decide +kernel
theorem dCo_clearEnds_19 : decode cCo_clearEnds 19 = .ok (.iinc 3 1, 3) := by decide +kernel
theorem dCo_clearEnds_22 : decode cCo_clearEnds 22 = .ok (.goto (-20), 3) := by decide +kernel
theorem dCo_clearEnds_25 : decode cCo_clearEnds 25 = .ok (.iconst 0, 1) := by decide +kernel
theorem dCo_clearEnds_26 : decode cCo_clearEnds 26 = .ok (.istore_n 3, 1) := by decide +kernel
theorem dCo_clearEnds_27 : decode cCo_clearEnds 27 = .ok (.iload_n 3, 1) := by decide +kernel
theorem dCo_clearEnds_28 : decode cCo_clearEnds 28 = .ok (.iload_n 2, 1) := by decide +kernel
theorem dCo_clearEnds_29 : decode cCo_clearEnds 29 = .ok (.if_icmp .gt 21, 3) := by decide +kernel
theorem dCo_clearEnds_32 : decode cCo_clearEnds 32 = .ok (.aload_n 0, 1) := by decide +kernel
theorem dCo_clearEnds_33 : decode cCo_clearEnds 33 = .ok (.getfield 22, 3) := by decide +kernel
theorem dCo_clearEnds_36 : decode cCo_clearEnds 36 = .ok (.iload_n 1, 1) := by decide +kernel
theorem dCo_clearEnds_37 : decode cCo_clearEnds 37 = .ok (.bipush 61, 2) := by decide +kernel
theorem dCo_clearEnds_39 : decode cCo_clearEnds 39 = .ok (.imul, 1) := by decide +kernel
theorem dCo_clearEnds_40 : decode cCo_clearEnds 40 = .ok (.iload_n 3, 1) := by decide +kernel
theorem dCo_clearEnds_41 : decode cCo_clearEnds 41 = .ok (.iadd, 1) := by decide +kernel
theorem dCo_clearEnds_42 : decode cCo_clearEnds 42 = .ok (.iconst 0, 1) := by decide +kernel
theorem dCo_clearEnds_43 : decode cCo_clearEnds 43 = .ok (.iastore, 1) := by decide +kernel
theorem dCo_clearEnds_44 : decode cCo_clearEnds 44 = .ok (.iinc 3 1, 3) := by decide +kernel
theorem dCo_clearEnds_47 : decode cCo_clearEnds 47 = .ok (.goto (-20), 3) := by decide +kernel
theorem dCo_clearEnds_50 : decode cCo_clearEnds 50 = .ok (.return_, 1) := by decide +kernel
theorem dCo_losesNoPair_0 : decode cCo_losesNoPair 0 = .ok (.aload_n 0, 1) := by decide +kernel
theorem dCo_losesNoPair_1 : decode cCo_losesNoPair 1 = .ok (.getfield 22, 3) := by decide +kernel
theorem dCo_losesNoPair_4 : decode cCo_losesNoPair 4 = .ok (.iload_n 1, 1) := by decide +kernel
theorem dCo_losesNoPair_5 : decode cCo_losesNoPair 5 = .ok (.bipush 61, 2) := by decide +kernel
theorem dCo_losesNoPair_7 : decode cCo_losesNoPair 7 = .ok (.imul, 1) := by decide +kernel
theorem dCo_losesNoPair_8 : decode cCo_losesNoPair 8 = .ok (.iload_n 2, 1) := by decide +kernel
theorem dCo_losesNoPair_9 : decode cCo_losesNoPair 9 = .ok (.iadd, 1) := by decide +kernel
theorem dCo_losesNoPair_10 : decode cCo_losesNoPair 10 = .ok (.iaload, 1) := by decide +kernel
theorem dCo_losesNoPair_11 : decode cCo_losesNoPair 11 = .ok (.istore 4, 2) := by decide +kernel
theorem dCo_losesNoPair_13 : decode cCo_losesNoPair 13 = .ok (.iconst 1, 1) := by decide +kernel
theorem dCo_losesNoPair_14 : decode cCo_losesNoPair 14 = .ok (.aload_n 0, 1) := by decide +kernel
theorem dCo_losesNoPair_15 : decode cCo_losesNoPair 15 = .ok (.getfield 22, 3) := by decide +kernel
theorem dCo_losesNoPair_18 : decode cCo_losesNoPair 18 = .ok (.iload_n 1, 1) := by decide +kernel
theorem dCo_losesNoPair_19 : decode cCo_losesNoPair 19 = .ok (.iconst 1, 1) := by decide +kernel
theorem dCo_losesNoPair_20 : decode cCo_losesNoPair 20 = .ok (.iadd, 1) := by decide +kernel
theorem dCo_losesNoPair_21 : decode cCo_losesNoPair 21 = .ok (.bipush 61, 2) := by decide +kernel
theorem dCo_losesNoPair_23 : decode cCo_losesNoPair 23 = .ok (.imul, 1) := by decide +kernel
theorem dCo_losesNoPair_24 : decode cCo_losesNoPair 24 = .ok (.iload_n 3, 1) := by decide +kernel
theorem dCo_losesNoPair_25 : decode cCo_losesNoPair 25 = .ok (.iadd, 1) := by decide +kernel
theorem dCo_losesNoPair_26 : decode cCo_losesNoPair 26 = .ok (.iconst 1, 1) := by decide +kernel
theorem dCo_losesNoPair_27 : decode cCo_losesNoPair 27 = .ok (.iadd, 1) := by decide +kernel
theorem dCo_losesNoPair_28 : decode cCo_losesNoPair 28 = .ok (.iaload, 1) := by decide +kernel
theorem dCo_losesNoPair_29 : decode cCo_losesNoPair 29 = .ok (.iadd, 1) := by decide +kernel
theorem dCo_losesNoPair_30 : decode cCo_losesNoPair 30 = .ok (.iload 4, 2) := by decide +kernel
theorem dCo_losesNoPair_32 : decode cCo_losesNoPair 32 = .ok (.if_icmp .ne 7, 3) := by decide +kernel
theorem dCo_losesNoPair_35 : decode cCo_losesNoPair 35 = .ok (.iconst 1, 1) := by decide +kernel
theorem dCo_losesNoPair_36 : decode cCo_losesNoPair 36 = .ok (.goto 4, 3) := by decide +kernel
theorem dCo_losesNoPair_39 : decode cCo_losesNoPair 39 = .ok (.iconst 0, 1) := by decide +kernel
theorem dCo_losesNoPair_40 : decode cCo_losesNoPair 40 = .ok (.ireturn, 1) := by decide +kernel
theorem dCo_addPair_0 : decode cCo_addPair 0 = .ok (.aload_n 0, 1) := by decide +kernel
theorem dCo_addPair_1 : decode cCo_addPair 1 = .ok (.getfield 18, 3) := by decide +kernel
theorem dCo_addPair_4 : decode cCo_addPair 4 = .ok (.bipush 60, 2) := by decide +kernel
theorem dCo_addPair_6 : decode cCo_addPair 6 = .ok (.if_icmp .ge 33, 3) := by decide +kernel
theorem dCo_addPair_9 : decode cCo_addPair 9 = .ok (.aload_n 0, 1) := by decide +kernel
theorem dCo_addPair_10 : decode cCo_addPair 10 = .ok (.getfield 9, 3) := by decide +kernel
theorem dCo_addPair_13 : decode cCo_addPair 13 = .ok (.aload_n 0, 1) := by decide +kernel
theorem dCo_addPair_14 : decode cCo_addPair 14 = .ok (.getfield 18, 3) := by decide +kernel
theorem dCo_addPair_17 : decode cCo_addPair 17 = .ok (.iload_n 1, 1) := by decide +kernel
theorem dCo_addPair_18 : decode cCo_addPair 18 = .ok (.iastore, 1) := by decide +kernel
theorem dCo_addPair_19 : decode cCo_addPair 19 = .ok (.aload_n 0, 1) := by decide +kernel
theorem dCo_addPair_20 : decode cCo_addPair 20 = .ok (.getfield 15, 3) := by decide +kernel
theorem dCo_addPair_23 : decode cCo_addPair 23 = .ok (.aload_n 0, 1) := by decide +kernel
theorem dCo_addPair_24 : decode cCo_addPair 24 = .ok (.getfield 18, 3) := by decide +kernel
theorem dCo_addPair_27 : decode cCo_addPair 27 = .ok (.iload_n 2, 1) := by decide +kernel
theorem dCo_addPair_28 : decode cCo_addPair 28 = .ok (.iastore, 1) := by decide +kernel
theorem dCo_addPair_29 : decode cCo_addPair 29 = .ok (.aload_n 0, 1) := by decide +kernel
theorem dCo_addPair_30 : decode cCo_addPair 30 = .ok (.dup, 1) := by decide +kernel
theorem dCo_addPair_31 : decode cCo_addPair 31 = .ok (.getfield 18, 3) := by decide +kernel
theorem dCo_addPair_34 : decode cCo_addPair 34 = .ok (.iconst 1, 1) := by decide +kernel
theorem dCo_addPair_35 : decode cCo_addPair 35 = .ok (.iadd, 1) := by decide +kernel
theorem dCo_addPair_36 : decode cCo_addPair 36 = .ok (.putfield 18, 3) := by decide +kernel
theorem dCo_addPair_39 : decode cCo_addPair 39 = .ok (.return_, 1) := by decide +kernel
theorem dHu_init_0 : decode cHu_init 0 = .ok (.aload_n 0, 1) := by decide +kernel
theorem dHu_init_1 : decode cHu_init 1 = .ok (.invokespecial 3, 3) := by decide +kernel
theorem dHu_init_4 : decode cHu_init 4 = .ok (.aload_n 0, 1) := by decide +kernel
theorem dHu_init_5 : decode cHu_init 5 = .ok (.sipush 244, 3) := by decide +kernel
theorem dHu_init_8 : decode cHu_init 8 = .ok (.newarray .int, 2) := by decide +kernel
theorem dHu_init_10 : decode cHu_init 10 = .ok (.putfield 11, 3) := by decide +kernel
theorem dHu_init_13 : decode cHu_init 13 = .ok (.aload_n 0, 1) := by decide +kernel
theorem dHu_init_14 : decode cHu_init 14 = .ok (.iconst 0, 1) := by decide +kernel
theorem dHu_init_15 : decode cHu_init 15 = .ok (.putfield 15, 3) := by decide +kernel
theorem dHu_init_18 : decode cHu_init 18 = .ok (.aload_n 0, 1) := by decide +kernel
theorem dHu_init_19 : decode cHu_init 19 = .ok (.aload_n 1, 1) := by decide +kernel
theorem dHu_init_20 : decode cHu_init 20 = .ok (.putfield 19, 3) := by decide +kernel
theorem dHu_init_23 : decode cHu_init 23 = .ok (.return_, 1) := by decide +kernel
theorem dHu_find_0 : decode cHu_find 0 = .ok (.aload_n 0, 1) := by decide +kernel
theorem dHu_find_1 : decode cHu_find 1 = .ok (.getfield 19, 3) := by decide +kernel
theorem dHu_find_4 : decode cHu_find 4 = .ok (.aload_n 1, 1) := by decide +kernel
theorem dHu_find_5 : decode cHu_find 5 = .ok (.aload_n 2, 1) := by decide +kernel
theorem dHu_find_6 : decode cHu_find 6 = .ok (.invokevirtual 23, 3) := by decide +kernel
theorem dHu_find_9 : decode cHu_find 9 = .ok (.aload_n 0, 1) := by decide +kernel
theorem dHu_find_10 : decode cHu_find 10 = .ok (.iconst 0, 1) := by decide +kernel
theorem dHu_find_11 : decode cHu_find 11 = .ok (.putfield 15, 3) := by decide +kernel
theorem dHu_find_14 : decode cHu_find 14 = .ok (.iconst 0, 1) := by decide +kernel
theorem dHu_find_15 : decode cHu_find 15 = .ok (.istore_n 3, 1) := by decide +kernel
theorem dHu_find_16 : decode cHu_find 16 = .ok (.iconst 0, 1) := by decide +kernel
theorem dHu_find_17 : decode cHu_find 17 = .ok (.istore 4, 2) := by decide +kernel
theorem dHu_find_19 : decode cHu_find 19 = .ok (.iconst 0, 1) := by decide +kernel
theorem dHu_find_20 : decode cHu_find 20 = .ok (.istore 5, 2) := by decide +kernel
theorem dHu_find_22 : decode cHu_find 22 = .ok (.iload 5, 2) := by decide +kernel
theorem dHu_find_24 : decode cHu_find 24 = .ok (.aload_n 0, 1) := by decide +kernel
theorem dHu_find_25 : decode cHu_find 25 = .ok (.getfield 19, 3) := by decide +kernel
theorem dHu_find_28 : decode cHu_find 28 = .ok (.getfield 29, 3) := by decide +kernel
theorem dHu_find_31 : decode cHu_find 31 = .ok (.if_icmp .ge 63, 3) := by decide +kernel
theorem dHu_find_34 : decode cHu_find 34 = .ok (.aload_n 0, 1) := by decide +kernel
theorem dHu_find_35 : decode cHu_find 35 = .ok (.iload_n 3, 1) := by decide +kernel
theorem dHu_find_36 : decode cHu_find 36 = .ok (.aload_n 0, 1) := by decide +kernel
theorem dHu_find_37 : decode cHu_find 37 = .ok (.getfield 19, 3) := by decide +kernel
theorem dHu_find_40 : decode cHu_find 40 = .ok (.getfield 30, 3) := by decide +kernel
theorem dHu_find_43 : decode cHu_find 43 = .ok (.iload 5, 2) := by decide +kernel
theorem dHu_find_45 : decode cHu_find 45 = .ok (.iaload, 1) := by decide +kernel
theorem dHu_find_46 : decode cHu_find 46 = .ok (.iload 4, 2) := by decide +kernel
theorem dHu_find_48 : decode cHu_find 48 = .ok (.aload_n 0, 1) := by decide +kernel
theorem dHu_find_49 : decode cHu_find 49 = .ok (.getfield 19, 3) := by decide +kernel
theorem dHu_find_52 : decode cHu_find 52 = .ok (.getfield 33, 3) := by decide +kernel
theorem dHu_find_55 : decode cHu_find 55 = .ok (.iload 5, 2) := by decide +kernel
theorem dHu_find_57 : decode cHu_find 57 = .ok (.iaload, 1) := by decide +kernel
theorem dHu_find_58 : decode cHu_find 58 = .ok (.invokevirtual 36, 3) := by decide +kernel
theorem dHu_find_61 : decode cHu_find 61 = .ok (.aload_n 0, 1) := by decide +kernel
theorem dHu_find_62 : decode cHu_find 62 = .ok (.getfield 19, 3) := by decide +kernel
theorem dHu_find_65 : decode cHu_find 65 = .ok (.getfield 30, 3) := by decide +kernel
theorem dHu_find_68 : decode cHu_find 68 = .ok (.iload 5, 2) := by decide +kernel
theorem dHu_find_70 : decode cHu_find 70 = .ok (.iaload, 1) := by decide +kernel
theorem dHu_find_71 : decode cHu_find 71 = .ok (.iconst 1, 1) := by decide +kernel
theorem dHu_find_72 : decode cHu_find 72 = .ok (.iadd, 1) := by decide +kernel
theorem dHu_find_73 : decode cHu_find 73 = .ok (.istore_n 3, 1) := by decide +kernel
theorem dHu_find_74 : decode cHu_find 74 = .ok (.aload_n 0, 1) := by decide +kernel
theorem dHu_find_75 : decode cHu_find 75 = .ok (.getfield 19, 3) := by decide +kernel
theorem dHu_find_78 : decode cHu_find 78 = .ok (.getfield 33, 3) := by decide +kernel
theorem dHu_find_81 : decode cHu_find 81 = .ok (.iload 5, 2) := by decide +kernel
theorem dHu_find_83 : decode cHu_find 83 = .ok (.iaload, 1) := by decide +kernel
theorem dHu_find_84 : decode cHu_find 84 = .ok (.iconst 1, 1) := by decide +kernel
theorem dHu_find_85 : decode cHu_find 85 = .ok (.iadd, 1) := by decide +kernel
theorem dHu_find_86 : decode cHu_find 86 = .ok (.istore 4, 2) := by decide +kernel
theorem dHu_find_88 : decode cHu_find 88 = .ok (.iinc 5 1, 3) := by decide +kernel
theorem dHu_find_91 : decode cHu_find 91 = .ok (.goto (-69), 3) := by decide +kernel
theorem dHu_find_94 : decode cHu_find 94 = .ok (.aload_n 0, 1) := by decide +kernel
theorem dHu_find_95 : decode cHu_find 95 = .ok (.iload_n 3, 1) := by decide +kernel
theorem dHu_find_96 : decode cHu_find 96 = .ok (.aload_n 1, 1) := by decide +kernel
theorem dHu_find_97 : decode cHu_find 97 = .ok (.getfield 40, 3) := by decide +kernel
theorem dHu_find_100 : decode cHu_find 100 = .ok (.iload 4, 2) := by decide +kernel
theorem dHu_find_102 : decode cHu_find 102 = .ok (.aload_n 2, 1) := by decide +kernel
theorem dHu_find_103 : decode cHu_find 103 = .ok (.getfield 40, 3) := by decide +kernel
theorem dHu_find_106 : decode cHu_find 106 = .ok (.invokevirtual 36, 3) := by decide +kernel
theorem dHu_find_109 : decode cHu_find 109 = .ok (.return_, 1) := by decide +kernel
theorem dHu_addUnlessEmpty_0 : decode cHu_addUnlessEmpty 0 = .ok (.iload_n 1, 1) := by decide +kernel
theorem dHu_addUnlessEmpty_1 : decode cHu_addUnlessEmpty 1 = .ok (.iload_n 2, 1) := by decide +kernel
theorem dHu_addUnlessEmpty_2 : decode cHu_addUnlessEmpty 2 = .ok (.if_icmp .lt 9, 3) := by decide +kernel
theorem dHu_addUnlessEmpty_5 : decode cHu_addUnlessEmpty 5 = .ok (.iload_n 3, 1) := by decide +kernel
theorem dHu_addUnlessEmpty_6 : decode cHu_addUnlessEmpty 6 = .ok (.iload 4, 2) := by decide +kernel
theorem dHu_addUnlessEmpty_8 : decode cHu_addUnlessEmpty 8 = .ok (.if_icmp .ge 75, 3) := by decide +kernel
theorem dHu_addUnlessEmpty_11 : decode cHu_addUnlessEmpty 11 = .ok (.aload_n 0, 1) := by decide +kernel
theorem dHu_addUnlessEmpty_12 : decode cHu_addUnlessEmpty 12 = .ok (.getfield 15, 3) := by decide +kernel
theorem dHu_addUnlessEmpty_15 : decode cHu_addUnlessEmpty 15 = .ok (.bipush 61, 2) := by decide +kernel
theorem dHu_addUnlessEmpty_17 : decode cHu_addUnlessEmpty 17 = .ok (.if_icmp .ge 66, 3) := by decide +kernel
theorem dHu_addUnlessEmpty_20 : decode cHu_addUnlessEmpty 20 = .ok (.aload_n 0, 1) := by decide +kernel
theorem dHu_addUnlessEmpty_21 : decode cHu_addUnlessEmpty 21 = .ok (.getfield 15, 3) := by decide +kernel
theorem dHu_addUnlessEmpty_24 : decode cHu_addUnlessEmpty 24 = .ok (.iconst 4, 1) := by decide +kernel
theorem dHu_addUnlessEmpty_25 : decode cHu_addUnlessEmpty 25 = .ok (.imul, 1) := by decide +kernel
theorem dHu_addUnlessEmpty_26 : decode cHu_addUnlessEmpty 26 = .ok (.istore 5, 2) := by decide +kernel
theorem dHu_addUnlessEmpty_28 : decode cHu_addUnlessEmpty 28 = .ok (.aload_n 0, 1) := by decide +kernel
theorem dHu_addUnlessEmpty_29 : decode cHu_addUnlessEmpty 29 = .ok (.getfield 11, 3) := by decide +kernel
theorem dHu_addUnlessEmpty_32 : decode cHu_addUnlessEmpty 32 = .ok (.iload 5, 2) := by decide +kernel
theorem dHu_addUnlessEmpty_34 : decode cHu_addUnlessEmpty 34 = .ok (.iconst 0, 1) := by decide +kernel
theorem dHu_addUnlessEmpty_35 : decode cHu_addUnlessEmpty 35 = .ok (.iadd, 1) := by decide +kernel
theorem dHu_addUnlessEmpty_36 : decode cHu_addUnlessEmpty 36 = .ok (.iload_n 1, 1) := by decide +kernel
theorem dHu_addUnlessEmpty_37 : decode cHu_addUnlessEmpty 37 = .ok (.iastore, 1) := by decide +kernel
theorem dHu_addUnlessEmpty_38 : decode cHu_addUnlessEmpty 38 = .ok (.aload_n 0, 1) := by decide +kernel
theorem dHu_addUnlessEmpty_39 : decode cHu_addUnlessEmpty 39 = .ok (.getfield 11, 3) := by decide +kernel
theorem dHu_addUnlessEmpty_42 : decode cHu_addUnlessEmpty 42 = .ok (.iload 5, 2) := by decide +kernel
theorem dHu_addUnlessEmpty_44 : decode cHu_addUnlessEmpty 44 = .ok (.iconst 1, 1) := by decide +kernel
theorem dHu_addUnlessEmpty_45 : decode cHu_addUnlessEmpty 45 = .ok (.iadd, 1) := by decide +kernel
theorem dHu_addUnlessEmpty_46 : decode cHu_addUnlessEmpty 46 = .ok (.iload_n 2, 1) := by decide +kernel
theorem dHu_addUnlessEmpty_47 : decode cHu_addUnlessEmpty 47 = .ok (.iload_n 1, 1) := by decide +kernel
theorem dHu_addUnlessEmpty_48 : decode cHu_addUnlessEmpty 48 = .ok (.isub, 1) := by decide +kernel
theorem dHu_addUnlessEmpty_49 : decode cHu_addUnlessEmpty 49 = .ok (.iastore, 1) := by decide +kernel
theorem dHu_addUnlessEmpty_50 : decode cHu_addUnlessEmpty 50 = .ok (.aload_n 0, 1) := by decide +kernel
theorem dHu_addUnlessEmpty_51 : decode cHu_addUnlessEmpty 51 = .ok (.getfield 11, 3) := by decide +kernel
theorem dHu_addUnlessEmpty_54 : decode cHu_addUnlessEmpty 54 = .ok (.iload 5, 2) := by decide +kernel
theorem dHu_addUnlessEmpty_56 : decode cHu_addUnlessEmpty 56 = .ok (.iconst 2, 1) := by decide +kernel
theorem dHu_addUnlessEmpty_57 : decode cHu_addUnlessEmpty 57 = .ok (.iadd, 1) := by decide +kernel
theorem dHu_addUnlessEmpty_58 : decode cHu_addUnlessEmpty 58 = .ok (.iload_n 3, 1) := by decide +kernel
theorem dHu_addUnlessEmpty_59 : decode cHu_addUnlessEmpty 59 = .ok (.iastore, 1) := by decide +kernel
theorem dHu_addUnlessEmpty_60 : decode cHu_addUnlessEmpty 60 = .ok (.aload_n 0, 1) := by decide +kernel
theorem dHu_addUnlessEmpty_61 : decode cHu_addUnlessEmpty 61 = .ok (.getfield 11, 3) := by decide +kernel
theorem dHu_addUnlessEmpty_64 : decode cHu_addUnlessEmpty 64 = .ok (.iload 5, 2) := by decide +kernel
theorem dHu_addUnlessEmpty_66 : decode cHu_addUnlessEmpty 66 = .ok (.iconst 3, 1) := by decide +kernel
theorem dHu_addUnlessEmpty_67 : decode cHu_addUnlessEmpty 67 = .ok (.iadd, 1) := by decide +kernel
theorem dHu_addUnlessEmpty_68 : decode cHu_addUnlessEmpty 68 = .ok (.iload 4, 2) := by decide +kernel
theorem dHu_addUnlessEmpty_70 : decode cHu_addUnlessEmpty 70 = .ok (.iload_n 3, 1) := by decide +kernel
theorem dHu_addUnlessEmpty_71 : decode cHu_addUnlessEmpty 71 = .ok (.isub, 1) := by decide +kernel
theorem dHu_addUnlessEmpty_72 : decode cHu_addUnlessEmpty 72 = .ok (.iastore, 1) := by decide +kernel
theorem dHu_addUnlessEmpty_73 : decode cHu_addUnlessEmpty 73 = .ok (.aload_n 0, 1) := by decide +kernel
theorem dHu_addUnlessEmpty_74 : decode cHu_addUnlessEmpty 74 = .ok (.dup, 1) := by decide +kernel
theorem dHu_addUnlessEmpty_75 : decode cHu_addUnlessEmpty 75 = .ok (.getfield 15, 3) := by decide +kernel
theorem dHu_addUnlessEmpty_78 : decode cHu_addUnlessEmpty 78 = .ok (.iconst 1, 1) := by decide +kernel
theorem dHu_addUnlessEmpty_79 : decode cHu_addUnlessEmpty 79 = .ok (.iadd, 1) := by decide +kernel
theorem dHu_addUnlessEmpty_80 : decode cHu_addUnlessEmpty 80 = .ok (.putfield 15, 3) := by decide +kernel
theorem dHu_addUnlessEmpty_83 : decode cHu_addUnlessEmpty 83 = .ok (.return_, 1) := by decide +kernel
theorem dPa_init_0 : decode cPa_init 0 = .ok (.aload_n 0, 1) := by decide +kernel
theorem dPa_init_1 : decode cPa_init 1 = .ok (.invokespecial 1, 3) := by decide +kernel
theorem dPa_init_4 : decode cPa_init 4 = .ok (.aload_n 0, 1) := by decide +kernel
theorem dPa_init_5 : decode cPa_init 5 = .ok (.new 7, 3) := by decide +kernel
theorem dPa_init_8 : decode cPa_init 8 = .ok (.dup, 1) := by decide +kernel
theorem dPa_init_9 : decode cPa_init 9 = .ok (.iconst 0, 1) := by decide +kernel
theorem dPa_init_10 : decode cPa_init 10 = .ok (.invokespecial 9, 3) := by decide +kernel
theorem dPa_init_13 : decode cPa_init 13 = .ok (.putfield 12, 3) := by decide +kernel
theorem dPa_init_16 : decode cPa_init 16 = .ok (.aload_n 0, 1) := by decide +kernel
theorem dPa_init_17 : decode cPa_init 17 = .ok (.iconst 0, 1) := by decide +kernel
theorem dPa_init_18 : decode cPa_init 18 = .ok (.putfield 18, 3) := by decide +kernel
theorem dPa_init_21 : decode cPa_init 21 = .ok (.aload_n 0, 1) := by decide +kernel
theorem dPa_init_22 : decode cPa_init 22 = .ok (.iconst 0, 1) := by decide +kernel
theorem dPa_init_23 : decode cPa_init 23 = .ok (.putfield 22, 3) := by decide +kernel
theorem dPa_init_26 : decode cPa_init 26 = .ok (.return_, 1) := by decide +kernel
theorem dPa_startOn_0 : decode cPa_startOn 0 = .ok (.aload_n 0, 1) := by decide +kernel
theorem dPa_startOn_1 : decode cPa_startOn 1 = .ok (.aload_n 1, 1) := by decide +kernel
theorem dPa_startOn_2 : decode cPa_startOn 2 = .ok (.putfield 12, 3) := by decide +kernel
theorem dPa_startOn_5 : decode cPa_startOn 5 = .ok (.aload_n 0, 1) := by decide +kernel
theorem dPa_startOn_6 : decode cPa_startOn 6 = .ok (.iconst 0, 1) := by decide +kernel
theorem dPa_startOn_7 : decode cPa_startOn 7 = .ok (.putfield 18, 3) := by decide +kernel
theorem dPa_startOn_10 : decode cPa_startOn 10 = .ok (.aload_n 0, 1) := by decide +kernel
theorem dPa_startOn_11 : decode cPa_startOn 11 = .ok (.iconst 0, 1) := by decide +kernel
theorem dPa_startOn_12 : decode cPa_startOn 12 = .ok (.putfield 22, 3) := by decide +kernel
theorem dPa_startOn_15 : decode cPa_startOn 15 = .ok (.return_, 1) := by decide +kernel
theorem dPa_stepOverAnchor_0 : decode cPa_stepOverAnchor 0 = .ok (.aload_n 0, 1) := by decide +kernel
theorem dPa_stepOverAnchor_1 : decode cPa_stepOverAnchor 1 = .ok (.aload_n 0, 1) := by decide +kernel
theorem dPa_stepOverAnchor_2 : decode cPa_stepOverAnchor 2 = .ok (.getfield 22, 3) := by decide +kernel
theorem dPa_stepOverAnchor_5 : decode cPa_stepOverAnchor 5 = .ok (.iconst 1, 1) := by decide +kernel
theorem dPa_stepOverAnchor_6 : decode cPa_stepOverAnchor 6 = .ok (.iadd, 1) := by decide +kernel
theorem dPa_stepOverAnchor_7 : decode cPa_stepOverAnchor 7 = .ok (.putfield 18, 3) := by decide +kernel
theorem dPa_stepOverAnchor_10 : decode cPa_stepOverAnchor 10 = .ok (.return_, 1) := by decide +kernel
theorem dPa_length_0 : decode cPa_length 0 = .ok (.aload_n 0, 1) := by decide +kernel
theorem dPa_length_1 : decode cPa_length 1 = .ok (.getfield 22, 3) := by decide +kernel
theorem dPa_length_4 : decode cPa_length 4 = .ok (.aload_n 0, 1) := by decide +kernel
theorem dPa_length_5 : decode cPa_length 5 = .ok (.getfield 18, 3) := by decide +kernel
theorem dPa_length_8 : decode cPa_length 8 = .ok (.isub, 1) := by decide +kernel
theorem dPa_length_9 : decode cPa_length 9 = .ok (.ireturn, 1) := by decide +kernel
theorem dPa_isLike_0 : decode cPa_isLike 0 = .ok (.aload_n 0, 1) := by decide +kernel
theorem dPa_isLike_1 : decode cPa_isLike 1 = .ok (.invokevirtual 25, 3) := by decide +kernel
theorem dPa_isLike_4 : decode cPa_isLike 4 = .ok (.aload_n 1, 1) := by decide +kernel
theorem dPa_isLike_5 : decode cPa_isLike 5 = .ok (.invokevirtual 25, 3) := by decide +kernel
theorem dPa_isLike_8 : decode cPa_isLike 8 = .ok (.if_icmp .eq 5, 3) := by decide +kernel
theorem dPa_isLike_11 : decode cPa_isLike 11 = .ok (.iconst 0, 1) := by decide +kernel
theorem dPa_isLike_12 : decode cPa_isLike 12 = .ok (.ireturn, 1) := by decide +kernel
theorem dPa_isLike_13 : decode cPa_isLike 13 = .ok (.iconst 0, 1) := by decide +kernel
theorem dPa_isLike_14 : decode cPa_isLike 14 = .ok (.istore_n 2, 1) := by decide +kernel
theorem dPa_isLike_15 : decode cPa_isLike 15 = .ok (.iload_n 2, 1) := by decide +kernel
theorem dPa_isLike_16 : decode cPa_isLike 16 = .ok (.aload_n 0, 1) := by decide +kernel
theorem dPa_isLike_17 : decode cPa_isLike 17 = .ok (.invokevirtual 25, 3) := by decide +kernel
theorem dPa_isLike_20 : decode cPa_isLike 20 = .ok (.if_icmp .ge 42, 3) := by decide +kernel
theorem dPa_isLike_23 : decode cPa_isLike 23 = .ok (.aload_n 0, 1) := by decide +kernel
theorem dPa_isLike_24 : decode cPa_isLike 24 = .ok (.getfield 12, 3) := by decide +kernel
theorem dPa_isLike_27 : decode cPa_isLike 27 = .ok (.getfield 29, 3) := by decide +kernel
theorem dPa_isLike_30 : decode cPa_isLike 30 = .ok (.aload_n 0, 1) := by decide +kernel
theorem dPa_isLike_31 : decode cPa_isLike 31 = .ok (.getfield 18, 3) := by decide +kernel
theorem dPa_isLike_34 : decode cPa_isLike 34 = .ok (.iload_n 2, 1) := by decide +kernel
theorem dPa_isLike_35 : decode cPa_isLike 35 = .ok (.iadd, 1) := by decide +kernel
theorem dPa_isLike_36 : decode cPa_isLike 36 = .ok (.iaload, 1) := by decide +kernel
theorem dPa_isLike_37 : decode cPa_isLike 37 = .ok (.aload_n 1, 1) := by decide +kernel
theorem dPa_isLike_38 : decode cPa_isLike 38 = .ok (.getfield 12, 3) := by decide +kernel
theorem dPa_isLike_41 : decode cPa_isLike 41 = .ok (.getfield 29, 3) := by decide +kernel
theorem dPa_isLike_44 : decode cPa_isLike 44 = .ok (.aload_n 1, 1) := by decide +kernel
theorem dPa_isLike_45 : decode cPa_isLike 45 = .ok (.getfield 18, 3) := by decide +kernel
theorem dPa_isLike_48 : decode cPa_isLike 48 = .ok (.iload_n 2, 1) := by decide +kernel
theorem dPa_isLike_49 : decode cPa_isLike 49 = .ok (.iadd, 1) := by decide +kernel
theorem dPa_isLike_50 : decode cPa_isLike 50 = .ok (.iaload, 1) := by decide +kernel
theorem dPa_isLike_51 : decode cPa_isLike 51 = .ok (.if_icmp .eq 5, 3) := by decide +kernel
theorem dPa_isLike_54 : decode cPa_isLike 54 = .ok (.iconst 0, 1) := by decide +kernel
theorem dPa_isLike_55 : decode cPa_isLike 55 = .ok (.ireturn, 1) := by decide +kernel
theorem dPa_isLike_56 : decode cPa_isLike 56 = .ok (.iinc 2 1, 3) := by decide +kernel
theorem dPa_isLike_59 : decode cPa_isLike 59 = .ok (.goto (-44), 3) := by decide +kernel
theorem dPa_isLike_62 : decode cPa_isLike 62 = .ok (.iconst 1, 1) := by decide +kernel
theorem dPa_isLike_63 : decode cPa_isLike 63 = .ok (.ireturn, 1) := by decide +kernel
theorem dRo_init_0 : decode cRo_init 0 = .ok (.aload_n 0, 1) := by decide +kernel
theorem dRo_init_1 : decode cRo_init 1 = .ok (.invokespecial 3, 3) := by decide +kernel
theorem dRo_init_4 : decode cRo_init 4 = .ok (.aload_n 0, 1) := by decide +kernel
theorem dRo_init_5 : decode cRo_init 5 = .ok (.iload_n 1, 1) := by decide +kernel
theorem dRo_init_6 : decode cRo_init 6 = .ok (.newarray .int, 2) := by decide +kernel
theorem dRo_init_8 : decode cRo_init 8 = .ok (.putfield 9, 3) := by decide +kernel
theorem dRo_init_11 : decode cRo_init 11 = .ok (.aload_n 0, 1) := by decide +kernel
theorem dRo_init_12 : decode cRo_init 12 = .ok (.iconst 0, 1) := by decide +kernel
theorem dRo_init_13 : decode cRo_init 13 = .ok (.putfield 15, 3) := by decide +kernel
theorem dRo_init_16 : decode cRo_init 16 = .ok (.return_, 1) := by decide +kernel
theorem dRo_add_0 : decode cRo_add 0 = .ok (.aload_n 0, 1) := by decide +kernel
theorem dRo_add_1 : decode cRo_add 1 = .ok (.getfield 15, 3) := by decide +kernel
theorem dRo_add_4 : decode cRo_add 4 = .ok (.aload_n 0, 1) := by decide +kernel
theorem dRo_add_5 : decode cRo_add 5 = .ok (.getfield 9, 3) := by decide +kernel
theorem dRo_add_8 : decode cRo_add 8 = .ok (.arraylength, 1) := by decide +kernel
theorem dRo_add_9 : decode cRo_add 9 = .ok (.if_icmp .ge 23, 3) := by decide +kernel
theorem dRo_add_12 : decode cRo_add 12 = .ok (.aload_n 0, 1) := by decide +kernel
theorem dRo_add_13 : decode cRo_add 13 = .ok (.getfield 9, 3) := by decide +kernel
theorem dRo_add_16 : decode cRo_add 16 = .ok (.aload_n 0, 1) := by decide +kernel
theorem dRo_add_17 : decode cRo_add 17 = .ok (.getfield 15, 3) := by decide +kernel
theorem dRo_add_20 : decode cRo_add 20 = .ok (.iload_n 1, 1) := by decide +kernel
theorem dRo_add_21 : decode cRo_add 21 = .ok (.iastore, 1) := by decide +kernel
theorem dRo_add_22 : decode cRo_add 22 = .ok (.aload_n 0, 1) := by decide +kernel
theorem dRo_add_23 : decode cRo_add 23 = .ok (.dup, 1) := by decide +kernel
theorem dRo_add_24 : decode cRo_add 24 = .ok (.getfield 15, 3) := by decide +kernel
theorem dRo_add_27 : decode cRo_add 27 = .ok (.iconst 1, 1) := by decide +kernel
theorem dRo_add_28 : decode cRo_add 28 = .ok (.iadd, 1) := by decide +kernel
theorem dRo_add_29 : decode cRo_add 29 = .ok (.putfield 15, 3) := by decide +kernel
theorem dRo_add_32 : decode cRo_add 32 = .ok (.return_, 1) := by decide +kernel
theorem dRo_addPart_0 : decode cRo_addPart 0 = .ok (.iload_n 2, 1) := by decide +kernel
theorem dRo_addPart_1 : decode cRo_addPart 1 = .ok (.istore 4, 2) := by decide +kernel
theorem dRo_addPart_3 : decode cRo_addPart 3 = .ok (.iload 4, 2) := by decide +kernel
theorem dRo_addPart_5 : decode cRo_addPart 5 = .ok (.iload_n 3, 1) := by decide +kernel
theorem dRo_addPart_6 : decode cRo_addPart 6 = .ok (.if_icmp .ge 20, 3) := by decide +kernel
theorem dRo_addPart_9 : decode cRo_addPart 9 = .ok (.aload_n 0, 1) := by decide +kernel
theorem dRo_addPart_10 : decode cRo_addPart 10 = .ok (.aload_n 1, 1) := by decide +kernel
theorem dRo_addPart_11 : decode cRo_addPart 11 = .ok (.getfield 9, 3) := by decide +kernel
theorem dRo_addPart_14 : decode cRo_addPart 14 = .ok (.iload 4, 2) := by decide +kernel
theorem dRo_addPart_16 : decode cRo_addPart 16 = .ok (.iaload, 1) := by decide +kernel
theorem dRo_addPart_17 : decode cRo_addPart 17 = .ok (.invokevirtual 19, 3) := by decide +kernel
theorem dRo_addPart_20 : decode cRo_addPart 20 = .ok (.iinc 4 1, 3) := by decide +kernel
theorem dRo_addPart_23 : decode cRo_addPart 23 = .ok (.goto (-20), 3) := by decide +kernel
theorem dRo_addPart_26 : decode cRo_addPart 26 = .ok (.return_, 1) := by decide +kernel
theorem dRo_become_0 : decode cRo_become 0 = .ok (.aload_n 0, 1) := by decide +kernel
theorem dRo_become_1 : decode cRo_become 1 = .ok (.iconst 0, 1) := by decide +kernel
theorem dRo_become_2 : decode cRo_become 2 = .ok (.putfield 15, 3) := by decide +kernel
theorem dRo_become_5 : decode cRo_become 5 = .ok (.aload_n 0, 1) := by decide +kernel
theorem dRo_become_6 : decode cRo_become 6 = .ok (.aload_n 1, 1) := by decide +kernel
theorem dRo_become_7 : decode cRo_become 7 = .ok (.iconst 0, 1) := by decide +kernel
theorem dRo_become_8 : decode cRo_become 8 = .ok (.aload_n 1, 1) := by decide +kernel
theorem dRo_become_9 : decode cRo_become 9 = .ok (.getfield 15, 3) := by decide +kernel
theorem dRo_become_12 : decode cRo_become 12 = .ok (.invokevirtual 23, 3) := by decide +kernel
theorem dRo_become_15 : decode cRo_become 15 = .ok (.return_, 1) := by decide +kernel
theorem dRo_hasAt_0 : decode cRo_hasAt 0 = .ok (.iload_n 1, 1) := by decide +kernel
theorem dRo_hasAt_1 : decode cRo_hasAt 1 = .ok (.ifCond .lt 25, 3) := by decide +kernel
theorem dRo_hasAt_4 : decode cRo_hasAt 4 = .ok (.iload_n 1, 1) := by decide +kernel
theorem dRo_hasAt_5 : decode cRo_hasAt 5 = .ok (.aload_n 0, 1) := by decide +kernel
theorem dRo_hasAt_6 : decode cRo_hasAt 6 = .ok (.getfield 15, 3) := by decide +kernel
theorem dRo_hasAt_9 : decode cRo_hasAt 9 = .ok (.if_icmp .ge 17, 3) := by decide +kernel
theorem dRo_hasAt_12 : decode cRo_hasAt 12 = .ok (.aload_n 0, 1) := by decide +kernel
theorem dRo_hasAt_13 : decode cRo_hasAt 13 = .ok (.getfield 9, 3) := by decide +kernel
theorem dRo_hasAt_16 : decode cRo_hasAt 16 = .ok (.iload_n 1, 1) := by decide +kernel
theorem dRo_hasAt_17 : decode cRo_hasAt 17 = .ok (.iaload, 1) := by decide +kernel
theorem dRo_hasAt_18 : decode cRo_hasAt 18 = .ok (.iload_n 2, 1) := by decide +kernel
theorem dRo_hasAt_19 : decode cRo_hasAt 19 = .ok (.if_icmp .ne 7, 3) := by decide +kernel
theorem dRo_hasAt_22 : decode cRo_hasAt 22 = .ok (.iconst 1, 1) := by decide +kernel
theorem dRo_hasAt_23 : decode cRo_hasAt 23 = .ok (.goto 4, 3) := by decide +kernel
theorem dRo_hasAt_26 : decode cRo_hasAt 26 = .ok (.iconst 0, 1) := by decide +kernel
theorem dRo_hasAt_27 : decode cRo_hasAt 27 = .ok (.ireturn, 1) := by decide +kernel
theorem dRo_firstPlaceOf_0 : decode cRo_firstPlaceOf 0 = .ok (.iload_n 2, 1) := by decide +kernel
theorem dRo_firstPlaceOf_1 : decode cRo_firstPlaceOf 1 = .ok (.istore_n 3, 1) := by decide +kernel
theorem dRo_firstPlaceOf_2 : decode cRo_firstPlaceOf 2 = .ok (.iload_n 3, 1) := by decide +kernel
theorem dRo_firstPlaceOf_3 : decode cRo_firstPlaceOf 3 = .ok (.aload_n 0, 1) := by decide +kernel
theorem dRo_firstPlaceOf_4 : decode cRo_firstPlaceOf 4 = .ok (.getfield 15, 3) := by decide +kernel
theorem dRo_firstPlaceOf_7 : decode cRo_firstPlaceOf 7 = .ok (.if_icmp .ge 21, 3) := by decide +kernel
theorem dRo_firstPlaceOf_10 : decode cRo_firstPlaceOf 10 = .ok (.aload_n 0, 1) := by decide +kernel
theorem dRo_firstPlaceOf_11 : decode cRo_firstPlaceOf 11 = .ok (.getfield 9, 3) := by decide +kernel
theorem dRo_firstPlaceOf_14 : decode cRo_firstPlaceOf 14 = .ok (.iload_n 3, 1) := by decide +kernel
theorem dRo_firstPlaceOf_15 : decode cRo_firstPlaceOf 15 = .ok (.iaload, 1) := by decide +kernel
theorem dRo_firstPlaceOf_16 : decode cRo_firstPlaceOf 16 = .ok (.iload_n 1, 1) := by decide +kernel
theorem dRo_firstPlaceOf_17 : decode cRo_firstPlaceOf 17 = .ok (.if_icmp .ne 5, 3) := by decide +kernel
theorem dRo_firstPlaceOf_20 : decode cRo_firstPlaceOf 20 = .ok (.iload_n 3, 1) := by decide +kernel
theorem dRo_firstPlaceOf_21 : decode cRo_firstPlaceOf 21 = .ok (.ireturn, 1) := by decide +kernel
theorem dRo_firstPlaceOf_22 : decode cRo_firstPlaceOf 22 = .ok (.iinc 3 1, 3) := by decide +kernel
theorem dRo_firstPlaceOf_25 : decode cRo_firstPlaceOf 25 = .ok (.goto (-23), 3) := by decide +kernel
theorem dRo_firstPlaceOf_28 : decode cRo_firstPlaceOf 28 = .ok (.iconst (-1), 1) := by decide +kernel
theorem dRo_firstPlaceOf_29 : decode cRo_firstPlaceOf 29 = .ok (.ireturn, 1) := by decide +kernel
end
section
theorem dMR_init_0 : decode cMR_init 0 = .ok (.aload_n 0, 1) := by decide +kernel
theorem dMR_init_1 : decode cMR_init 1 = .ok (.invokespecial 3, 3) := by decide +kernel
theorem dMR_init_4 : decode cMR_init 4 = .ok (.aload_n 0, 1) := by decide +kernel
theorem dMR_init_5 : decode cMR_init 5 = .ok (.bipush 6, 2) := by decide +kernel
theorem dMR_init_7 : decode cMR_init 7 = .ok (.anewarray 9, 3) := by decide +kernel
theorem dMR_init_10 : decode cMR_init 10 = .ok (.putfield 11, 3) := by decide +kernel
theorem dMR_init_13 : decode cMR_init 13 = .ok (.iconst 0, 1) := by decide +kernel
theorem dMR_init_14 : decode cMR_init 14 = .ok (.istore_n 1, 1) := by decide +kernel
theorem dMR_init_15 : decode cMR_init 15 = .ok (.iload_n 1, 1) := by decide +kernel
theorem dMR_init_16 : decode cMR_init 16 = .ok (.bipush 6, 2) := by decide +kernel
theorem dMR_init_18 : decode cMR_init 18 = .ok (.if_icmp .ge 24, 3) := by decide +kernel
theorem dMR_init_21 : decode cMR_init 21 = .ok (.aload_n 0, 1) := by decide +kernel
theorem dMR_init_22 : decode cMR_init 22 = .ok (.getfield 11, 3) := by decide +kernel
theorem dMR_init_25 : decode cMR_init 25 = .ok (.iload_n 1, 1) := by decide +kernel
theorem dMR_init_26 : decode cMR_init 26 = .ok (.new 9, 3) := by decide +kernel
theorem dMR_init_29 : decode cMR_init 29 = .ok (.dup, 1) := by decide +kernel
theorem dMR_init_30 : decode cMR_init 30 = .ok (.bipush 60, 2) := by decide +kernel
theorem dMR_init_32 : decode cMR_init 32 = .ok (.invokespecial 15, 3) := by decide +kernel
theorem dMR_init_35 : decode cMR_init 35 = .ok (.aastore, 1) := by decide +kernel
theorem dMR_init_36 : decode cMR_init 36 = .ok (.iinc 1 1, 3) := by decide +kernel
theorem dMR_init_39 : decode cMR_init 39 = .ok (.goto (-24), 3) := by decide +kernel
theorem dMR_init_42 : decode cMR_init 42 = .ok (.sipush 3721, 3) := by decide +kernel
theorem dMR_init_45 : decode cMR_init 45 = .ok (.newarray .int, 2) := by decide +kernel
theorem dMR_init_47 : decode cMR_init 47 = .ok (.astore_n 1, 1) := by decide +kernel
theorem dMR_init_48 : decode cMR_init 48 = .ok (.new 18, 3) := by decide +kernel
theorem dMR_init_51 : decode cMR_init 51 = .ok (.dup, 1) := by decide +kernel
theorem dMR_init_52 : decode cMR_init 52 = .ok (.aload_n 1, 1) := by decide +kernel
theorem dMR_init_53 : decode cMR_init 53 = .ok (.invokespecial 20, 3) := by decide +kernel
theorem dMR_init_56 : decode cMR_init 56 = .ok (.astore_n 2, 1) := by decide +kernel
theorem dMR_init_57 : decode cMR_init 57 = .ok (.new 18, 3) := by decide +kernel
theorem dMR_init_60 : decode cMR_init 60 = .ok (.dup, 1) := by decide +kernel
theorem dMR_init_61 : decode cMR_init 61 = .ok (.aload_n 1, 1) := by decide +kernel
theorem dMR_init_62 : decode cMR_init 62 = .ok (.invokespecial 20, 3) := by decide +kernel
theorem dMR_init_65 : decode cMR_init 65 = .ok (.astore_n 3, 1) := by decide +kernel
theorem dMR_init_66 : decode cMR_init 66 = .ok (.aload_n 0, 1) := by decide +kernel
theorem dMR_init_67 : decode cMR_init 67 = .ok (.new 18, 3) := by decide +kernel
theorem dMR_init_70 : decode cMR_init 70 = .ok (.dup, 1) := by decide +kernel
theorem dMR_init_71 : decode cMR_init 71 = .ok (.aload_n 1, 1) := by decide +kernel
theorem dMR_init_72 : decode cMR_init 72 = .ok (.invokespecial 20, 3) := by decide +kernel
theorem dMR_init_75 : decode cMR_init 75 = .ok (.putfield 23, 3) := by decide +kernel
theorem dMR_init_78 : decode cMR_init 78 = .ok (.aload_n 0, 1) := by decide +kernel
theorem dMR_init_79 : decode cMR_init 79 = .ok (.new 27, 3) := by decide +kernel
theorem dMR_init_82 : decode cMR_init 82 = .ok (.dup, 1) := by decide +kernel
theorem dMR_init_83 : decode cMR_init 83 = .ok (.aload_n 2, 1) := by decide +kernel
theorem dMR_init_84 : decode cMR_init 84 = .ok (.invokespecial 29, 3) := by decide +kernel
theorem dMR_init_87 : decode cMR_init 87 = .ok (.putfield 32, 3) := by decide +kernel
theorem dMR_init_90 : decode cMR_init 90 = .ok (.aload_n 0, 1) := by decide +kernel
theorem dMR_init_91 : decode cMR_init 91 = .ok (.new 36, 3) := by decide +kernel
theorem dMR_init_94 : decode cMR_init 94 = .ok (.dup, 1) := by decide +kernel
theorem dMR_init_95 : decode cMR_init 95 = .ok (.new 27, 3) := by decide +kernel
theorem dMR_init_98 : decode cMR_init 98 = .ok (.dup, 1) := by decide +kernel
theorem dMR_init_99 : decode cMR_init 99 = .ok (.aload_n 2, 1) := by decide +kernel
theorem dMR_init_100 : decode cMR_init 100 = .ok (.invokespecial 29, 3) := by decide +kernel
theorem dMR_init_103 : decode cMR_init 103 = .ok (.invokespecial 38, 3) := by decide +kernel
theorem dMR_init_106 : decode cMR_init 106 = .ok (.putfield 41, 3) := by decide +kernel
theorem dMR_init_109 : decode cMR_init 109 = .ok (.aload_n 0, 1) := by decide +kernel
theorem dMR_init_110 : decode cMR_init 110 = .ok (.new 45, 3) := by decide +kernel
theorem dMR_init_113 : decode cMR_init 113 = .ok (.dup, 1) := by decide +kernel
theorem dMR_init_114 : decode cMR_init 114 = .ok (.aload_n 2, 1) := by decide +kernel
theorem dMR_init_115 : decode cMR_init 115 = .ok (.invokespecial 47, 3) := by decide +kernel
theorem dMR_init_118 : decode cMR_init 118 = .ok (.putfield 48, 3) := by decide +kernel
theorem dMR_init_121 : decode cMR_init 121 = .ok (.aload_n 0, 1) := by decide +kernel
theorem dMR_init_122 : decode cMR_init 122 = .ok (.new 52, 3) := by decide +kernel
theorem dMR_init_125 : decode cMR_init 125 = .ok (.dup, 1) := by decide +kernel
theorem dMR_init_126 : decode cMR_init 126 = .ok (.aload_n 2, 1) := by decide +kernel
theorem dMR_init_127 : decode cMR_init 127 = .ok (.aload_n 3, 1) := by decide +kernel
theorem dMR_init_128 : decode cMR_init 128 = .ok (.invokespecial 54, 3) := by decide +kernel
theorem dMR_init_131 : decode cMR_init 131 = .ok (.putfield 57, 3) := by decide +kernel
theorem dMR_init_134 : decode cMR_init 134 = .ok (.aload_n 0, 1) := by decide +kernel
theorem dMR_init_135 : decode cMR_init 135 = .ok (.new 52, 3) := by decide +kernel
theorem dMR_init_138 : decode cMR_init 138 = .ok (.dup, 1) := by decide +kernel
theorem dMR_init_139 : decode cMR_init 139 = .ok (.aload_n 2, 1) := by decide +kernel
theorem dMR_init_140 : decode cMR_init 140 = .ok (.aload_n 3, 1) := by decide +kernel
theorem dMR_init_141 : decode cMR_init 141 = .ok (.invokespecial 54, 3) := by decide +kernel
theorem dMR_init_144 : decode cMR_init 144 = .ok (.putfield 61, 3) := by decide +kernel
theorem dMR_init_147 : decode cMR_init 147 = .ok (.return_, 1) := by decide +kernel
theorem dMR_put_0 : decode cMR_put 0 = .ok (.aload_n 0, 1) := by decide +kernel
theorem dMR_put_1 : decode cMR_put 1 = .ok (.iload_n 1, 1) := by decide +kernel
theorem dMR_put_2 : decode cMR_put 2 = .ok (.invokevirtual 64, 3) := by decide +kernel
theorem dMR_put_5 : decode cMR_put 5 = .ok (.astore_n 3, 1) := by decide +kernel
theorem dMR_put_6 : decode cMR_put 6 = .ok (.aload_n 3, 1) := by decide +kernel
theorem dMR_put_7 : decode cMR_put 7 = .ok (.getfield 68, 3) := by decide +kernel
theorem dMR_put_10 : decode cMR_put 10 = .ok (.bipush 60, 2) := by decide +kernel
theorem dMR_put_12 : decode cMR_put 12 = .ok (.if_icmp .lt 13, 3) := by decide +kernel
theorem dMR_put_15 : decode cMR_put 15 = .ok (.new 72, 3) := by decide +kernel
theorem dMR_put_18 : decode cMR_put 18 = .ok (.dup, 1) := by decide +kernel
theorem dMR_put_19 : decode cMR_put 19 = .ok (.ldc 74, 2) := by decide +kernel
theorem dMR_put_21 : decode cMR_put 21 = .ok (.invokespecial 76, 3) := by decide +kernel
theorem dMR_put_24 : decode cMR_put 24 = .ok (.athrow, 1) := by decide +kernel
theorem dMR_put_25 : decode cMR_put 25 = .ok (.aload_n 3, 1) := by decide +kernel
theorem dMR_put_26 : decode cMR_put 26 = .ok (.iload_n 2, 1) := by decide +kernel
theorem dMR_put_27 : decode cMR_put 27 = .ok (.invokevirtual 79, 3) := by decide +kernel
theorem dMR_put_30 : decode cMR_put 30 = .ok (.aload_n 3, 1) := by decide +kernel
theorem dMR_put_31 : decode cMR_put 31 = .ok (.getfield 68, 3) := by decide +kernel
theorem dMR_put_34 : decode cMR_put 34 = .ok (.ireturn, 1) := by decide +kernel
theorem dMR_clear_0 : decode cMR_clear 0 = .ok (.aload_n 0, 1) := by decide +kernel
theorem dMR_clear_1 : decode cMR_clear 1 = .ok (.iload_n 1, 1) := by decide +kernel
theorem dMR_clear_2 : decode cMR_clear 2 = .ok (.invokevirtual 64, 3) := by decide +kernel
theorem dMR_clear_5 : decode cMR_clear 5 = .ok (.iconst 0, 1) := by decide +kernel
theorem dMR_clear_6 : decode cMR_clear 6 = .ok (.putfield 68, 3) := by decide +kernel
theorem dMR_clear_9 : decode cMR_clear 9 = .ok (.return_, 1) := by decide +kernel
theorem dMR_size_0 : decode cMR_size 0 = .ok (.aload_n 0, 1) := by decide +kernel
theorem dMR_size_1 : decode cMR_size 1 = .ok (.iload_n 1, 1) := by decide +kernel
theorem dMR_size_2 : decode cMR_size 2 = .ok (.invokevirtual 64, 3) := by decide +kernel
theorem dMR_size_5 : decode cMR_size 5 = .ok (.getfield 68, 3) := by decide +kernel
theorem dMR_size_8 : decode cMR_size 8 = .ok (.ireturn, 1) := by decide +kernel
theorem dMR_get_0 : decode cMR_get 0 = .ok (.aload_n 0, 1) := by decide +kernel
theorem dMR_get_1 : decode cMR_get 1 = .ok (.iload_n 1, 1) := by decide +kernel
theorem dMR_get_2 : decode cMR_get 2 = .ok (.invokevirtual 64, 3) := by decide +kernel
theorem dMR_get_5 : decode cMR_get 5 = .ok (.astore_n 3, 1) := by decide +kernel
theorem dMR_get_6 : decode cMR_get 6 = .ok (.iload_n 2, 1) := by decide +kernel
theorem dMR_get_7 : decode cMR_get 7 = .ok (.ifCond .lt 11, 3) := by decide +kernel
theorem dMR_get_10 : decode cMR_get 10 = .ok (.iload_n 2, 1) := by decide +kernel
theorem dMR_get_11 : decode cMR_get 11 = .ok (.aload_n 3, 1) := by decide +kernel
theorem dMR_get_12 : decode cMR_get 12 = .ok (.getfield 68, 3) := by decide +kernel
theorem dMR_get_15 : decode cMR_get 15 = .ok (.if_icmp .lt 13, 3) := by decide +kernel
theorem dMR_get_18 : decode cMR_get 18 = .ok (.new 82, 3) := by decide +kernel
theorem dMR_get_21 : decode cMR_get 21 = .ok (.dup, 1) := by decide +kernel
theorem dMR_get_22 : decode cMR_get 22 = .ok (.ldc 84, 2) := by decide +kernel
theorem dMR_get_24 : decode cMR_get 24 = .ok (.invokespecial 86, 3) := by decide +kernel
theorem dMR_get_27 : decode cMR_get 27 = .ok (.athrow, 1) := by decide +kernel
theorem dMR_get_28 : decode cMR_get 28 = .ok (.aload_n 3, 1) := by decide +kernel
theorem dMR_get_29 : decode cMR_get 29 = .ok (.getfield 87, 3) := by decide +kernel
theorem dMR_get_32 : decode cMR_get 32 = .ok (.iload_n 2, 1) := by decide +kernel
theorem dMR_get_33 : decode cMR_get 33 = .ok (.iaload, 1) := by decide +kernel
theorem dMR_get_34 : decode cMR_get 34 = .ok (.ireturn, 1) := by decide +kernel
theorem dMR_common_0 : decode cMR_common 0 = .ok (.aload_n 0, 1) := by decide +kernel
theorem dMR_common_1 : decode cMR_common 1 = .ok (.iload_n 1, 1) := by decide +kernel
theorem dMR_common_2 : decode cMR_common 2 = .ok (.invokevirtual 64, 3) := by decide +kernel
theorem dMR_common_5 : decode cMR_common 5 = .ok (.astore_n 3, 1) := by decide +kernel
theorem dMR_common_6 : decode cMR_common 6 = .ok (.aload_n 0, 1) := by decide +kernel
theorem dMR_common_7 : decode cMR_common 7 = .ok (.iload_n 2, 1) := by decide +kernel
theorem dMR_common_8 : decode cMR_common 8 = .ok (.invokevirtual 64, 3) := by decide +kernel
theorem dMR_common_11 : decode cMR_common 11 = .ok (.astore 4, 2) := by decide +kernel
theorem dMR_common_13 : decode cMR_common 13 = .ok (.aload_n 0, 1) := by decide +kernel
theorem dMR_common_14 : decode cMR_common 14 = .ok (.getfield 23, 3) := by decide +kernel
theorem dMR_common_17 : decode cMR_common 17 = .ok (.aload_n 3, 1) := by decide +kernel
theorem dMR_common_18 : decode cMR_common 18 = .ok (.aload 4, 2) := by decide +kernel
theorem dMR_common_20 : decode cMR_common 20 = .ok (.invokevirtual 91, 3) := by decide +kernel
theorem dMR_common_23 : decode cMR_common 23 = .ok (.aload_n 0, 1) := by decide +kernel
theorem dMR_common_24 : decode cMR_common 24 = .ok (.getfield 23, 3) := by decide +kernel
theorem dMR_common_27 : decode cMR_common 27 = .ok (.getfield 95, 3) := by decide +kernel
theorem dMR_common_30 : decode cMR_common 30 = .ok (.ireturn, 1) := by decide +kernel
theorem dMR_pair_0 : decode cMR_pair 0 = .ok (.iload_n 1, 1) := by decide +kernel
theorem dMR_pair_1 : decode cMR_pair 1 = .ok (.ifCond .lt 23, 3) := by decide +kernel
theorem dMR_pair_4 : decode cMR_pair 4 = .ok (.iload_n 1, 1) := by decide +kernel
theorem dMR_pair_5 : decode cMR_pair 5 = .ok (.aload_n 0, 1) := by decide +kernel
theorem dMR_pair_6 : decode cMR_pair 6 = .ok (.getfield 23, 3) := by decide +kernel
theorem dMR_pair_9 : decode cMR_pair 9 = .ok (.getfield 95, 3) := by decide +kernel
theorem dMR_pair_12 : decode cMR_pair 12 = .ok (.if_icmp .ge 12, 3) := by decide +kernel
theorem dMR_pair_15 : decode cMR_pair 15 = .ok (.iload_n 2, 1) := by decide +kernel
theorem dMR_pair_16 : decode cMR_pair 16 = .ok (.ifCond .lt 8, 3) := by decide +kernel
theorem dMR_pair_19 : decode cMR_pair 19 = .ok (.iload_n 2, 1) := by decide +kernel
theorem dMR_pair_20 : decode cMR_pair 20 = .ok (.iconst 1, 1) := by decide +kernel
theorem dMR_pair_21 : decode cMR_pair 21 = .ok (.if_icmp .le 13, 3) := by decide +kernel
theorem dMR_pair_24 : decode cMR_pair 24 = .ok (.new 82, 3) := by decide +kernel
theorem dMR_pair_27 : decode cMR_pair 27 = .ok (.dup, 1) := by decide +kernel
theorem dMR_pair_28 : decode cMR_pair 28 = .ok (.ldc 96, 2) := by decide +kernel
theorem dMR_pair_30 : decode cMR_pair 30 = .ok (.invokespecial 86, 3) := by decide +kernel
theorem dMR_pair_33 : decode cMR_pair 33 = .ok (.athrow, 1) := by decide +kernel
theorem dMR_pair_34 : decode cMR_pair 34 = .ok (.iload_n 2, 1) := by decide +kernel
theorem dMR_pair_35 : decode cMR_pair 35 = .ok (.ifCond .ne 15, 3) := by decide +kernel
theorem dMR_pair_38 : decode cMR_pair 38 = .ok (.aload_n 0, 1) := by decide +kernel
theorem dMR_pair_39 : decode cMR_pair 39 = .ok (.getfield 23, 3) := by decide +kernel
theorem dMR_pair_42 : decode cMR_pair 42 = .ok (.getfield 98, 3) := by decide +kernel
theorem dMR_pair_45 : decode cMR_pair 45 = .ok (.iload_n 1, 1) := by decide +kernel
theorem dMR_pair_46 : decode cMR_pair 46 = .ok (.iaload, 1) := by decide +kernel
theorem dMR_pair_47 : decode cMR_pair 47 = .ok (.goto 12, 3) := by decide +kernel
theorem dMR_pair_50 : decode cMR_pair 50 = .ok (.aload_n 0, 1) := by decide +kernel
theorem dMR_pair_51 : decode cMR_pair 51 = .ok (.getfield 23, 3) := by decide +kernel
theorem dMR_pair_54 : decode cMR_pair 54 = .ok (.getfield 101, 3) := by decide +kernel
theorem dMR_pair_57 : decode cMR_pair 57 = .ok (.iload_n 1, 1) := by decide +kernel
theorem dMR_pair_58 : decode cMR_pair 58 = .ok (.iaload, 1) := by decide +kernel
theorem dMR_pair_59 : decode cMR_pair 59 = .ok (.ireturn, 1) := by decide +kernel
theorem dMR_hunks_0 : decode cMR_hunks 0 = .ok (.aload_n 0, 1) := by decide +kernel
theorem dMR_hunks_1 : decode cMR_hunks 1 = .ok (.iload_n 1, 1) := by decide +kernel
theorem dMR_hunks_2 : decode cMR_hunks 2 = .ok (.invokevirtual 64, 3) := by decide +kernel
theorem dMR_hunks_5 : decode cMR_hunks 5 = .ok (.astore_n 3, 1) := by decide +kernel
theorem dMR_hunks_6 : decode cMR_hunks 6 = .ok (.aload_n 0, 1) := by decide +kernel
theorem dMR_hunks_7 : decode cMR_hunks 7 = .ok (.iload_n 2, 1) := by decide +kernel
theorem dMR_hunks_8 : decode cMR_hunks 8 = .ok (.invokevirtual 64, 3) := by decide +kernel
theorem dMR_hunks_11 : decode cMR_hunks 11 = .ok (.astore 4, 2) := by decide +kernel
theorem dMR_hunks_13 : decode cMR_hunks 13 = .ok (.aload_n 0, 1) := by decide +kernel
theorem dMR_hunks_14 : decode cMR_hunks 14 = .ok (.getfield 32, 3) := by decide +kernel
theorem dMR_hunks_17 : decode cMR_hunks 17 = .ok (.aload_n 3, 1) := by decide +kernel
theorem dMR_hunks_18 : decode cMR_hunks 18 = .ok (.aload 4, 2) := by decide +kernel
theorem dMR_hunks_20 : decode cMR_hunks 20 = .ok (.invokevirtual 104, 3) := by decide +kernel
theorem dMR_hunks_23 : decode cMR_hunks 23 = .ok (.aload_n 0, 1) := by decide +kernel
theorem dMR_hunks_24 : decode cMR_hunks 24 = .ok (.getfield 32, 3) := by decide +kernel
theorem dMR_hunks_27 : decode cMR_hunks 27 = .ok (.getfield 105, 3) := by decide +kernel
theorem dMR_hunks_30 : decode cMR_hunks 30 = .ok (.ireturn, 1) := by decide +kernel
theorem dMR_hunk_0 : decode cMR_hunk 0 = .ok (.iload_n 1, 1) := by decide +kernel
theorem dMR_hunk_1 : decode cMR_hunk 1 = .ok (.ifCond .lt 23, 3) := by decide +kernel
theorem dMR_hunk_4 : decode cMR_hunk 4 = .ok (.iload_n 1, 1) := by decide +kernel
theorem dMR_hunk_5 : decode cMR_hunk 5 = .ok (.aload_n 0, 1) := by decide +kernel
theorem dMR_hunk_6 : decode cMR_hunk 6 = .ok (.getfield 32, 3) := by decide +kernel
theorem dMR_hunk_9 : decode cMR_hunk 9 = .ok (.getfield 105, 3) := by decide +kernel
theorem dMR_hunk_12 : decode cMR_hunk 12 = .ok (.if_icmp .ge 12, 3) := by decide +kernel
theorem dMR_hunk_15 : decode cMR_hunk 15 = .ok (.iload_n 2, 1) := by decide +kernel
theorem dMR_hunk_16 : decode cMR_hunk 16 = .ok (.ifCond .lt 8, 3) := by decide +kernel
theorem dMR_hunk_19 : decode cMR_hunk 19 = .ok (.iload_n 2, 1) := by decide +kernel
theorem dMR_hunk_20 : decode cMR_hunk 20 = .ok (.iconst 4, 1) := by decide +kernel
theorem dMR_hunk_21 : decode cMR_hunk 21 = .ok (.if_icmp .lt 13, 3) := by decide +kernel
theorem dMR_hunk_24 : decode cMR_hunk 24 = .ok (.new 82, 3) := by decide +kernel
theorem dMR_hunk_27 : decode cMR_hunk 27 = .ok (.dup, 1) := by decide +kernel
theorem dMR_hunk_28 : decode cMR_hunk 28 = .ok (.ldc 106, 2) := by decide +kernel
theorem dMR_hunk_30 : decode cMR_hunk 30 = .ok (.invokespecial 86, 3) := by decide +kernel
theorem dMR_hunk_33 : decode cMR_hunk 33 = .ok (.athrow, 1) := by decide +kernel
theorem dMR_hunk_34 : decode cMR_hunk 34 = .ok (.aload_n 0, 1) := by decide +kernel
theorem dMR_hunk_35 : decode cMR_hunk 35 = .ok (.getfield 32, 3) := by decide +kernel
theorem dMR_hunk_38 : decode cMR_hunk 38 = .ok (.getfield 108, 3) := by decide +kernel
theorem dMR_hunk_41 : decode cMR_hunk 41 = .ok (.iload_n 1, 1) := by decide +kernel
theorem dMR_hunk_42 : decode cMR_hunk 42 = .ok (.iconst 4, 1) := by decide +kernel
theorem dMR_hunk_43 : decode cMR_hunk 43 = .ok (.imul, 1) := by decide +kernel
theorem dMR_hunk_44 : decode cMR_hunk 44 = .ok (.iload_n 2, 1) := by decide +kernel
theorem dMR_hunk_45 : decode cMR_hunk 45 = .ok (.iadd, 1) := by decide +kernel
theorem dMR_hunk_46 : decode cMR_hunk 46 = .ok (.iaload, 1) := by decide +kernel
theorem dMR_hunk_47 : decode cMR_hunk 47 = .ok (.ireturn, 1) := by decide +kernel
theorem dMR_merge_0 : decode cMR_merge 0 = .ok (.aload_n 0, 1) := by decide +kernel
theorem dMR_merge_1 : decode cMR_merge 1 = .ok (.iload_n 1, 1) := by decide +kernel
theorem dMR_merge_2 : decode cMR_merge 2 = .ok (.invokevirtual 64, 3) := by decide +kernel
theorem dMR_merge_5 : decode cMR_merge 5 = .ok (.astore 5, 2) := by decide +kernel
theorem dMR_merge_7 : decode cMR_merge 7 = .ok (.aload_n 0, 1) := by decide +kernel
theorem dMR_merge_8 : decode cMR_merge 8 = .ok (.iload_n 2, 1) := by decide +kernel
theorem dMR_merge_9 : decode cMR_merge 9 = .ok (.invokevirtual 64, 3) := by decide +kernel
theorem dMR_merge_12 : decode cMR_merge 12 = .ok (.astore 6, 2) := by decide +kernel
theorem dMR_merge_14 : decode cMR_merge 14 = .ok (.aload_n 0, 1) := by decide +kernel
theorem dMR_merge_15 : decode cMR_merge 15 = .ok (.iload_n 3, 1) := by decide +kernel
theorem dMR_merge_16 : decode cMR_merge 16 = .ok (.invokevirtual 64, 3) := by decide +kernel
theorem dMR_merge_19 : decode cMR_merge 19 = .ok (.astore 7, 2) := by decide +kernel
theorem dMR_merge_21 : decode cMR_merge 21 = .ok (.aload_n 0, 1) := by decide +kernel
theorem dMR_merge_22 : decode cMR_merge 22 = .ok (.iload 4, 2) := by decide +kernel
theorem dMR_merge_24 : decode cMR_merge 24 = .ok (.invokevirtual 64, 3) := by decide +kernel
theorem dMR_merge_27 : decode cMR_merge 27 = .ok (.astore 8, 2) := by decide +kernel
theorem dMR_merge_29 : decode cMR_merge 29 = .ok (.aload_n 0, 1) := by decide +kernel
theorem dMR_merge_30 : decode cMR_merge 30 = .ok (.getfield 61, 3) := by decide +kernel
theorem dMR_merge_33 : decode cMR_merge 33 = .ok (.aload 5, 2) := by decide +kernel
theorem dMR_merge_35 : decode cMR_merge 35 = .ok (.aload 6, 2) := by decide +kernel
theorem dMR_merge_37 : decode cMR_merge 37 = .ok (.aload 7, 2) := by decide +kernel
theorem dMR_merge_39 : decode cMR_merge 39 = .ok (.invokevirtual 111, 3) := by decide +kernel
theorem dMR_merge_42 : decode cMR_merge 42 = .ok (.aload 8, 2) := by decide +kernel
theorem dMR_merge_44 : decode cMR_merge 44 = .ok (.aload_n 0, 1) := by decide +kernel
theorem dMR_merge_45 : decode cMR_merge 45 = .ok (.getfield 61, 3) := by decide +kernel
theorem dMR_merge_48 : decode cMR_merge 48 = .ok (.getfield 115, 3) := by decide +kernel
theorem dMR_merge_51 : decode cMR_merge 51 = .ok (.invokestatic 119, 3) := by decide +kernel
theorem dMR_merge_54 : decode cMR_merge 54 = .ok (.aload_n 0, 1) := by decide +kernel
theorem dMR_merge_55 : decode cMR_merge 55 = .ok (.getfield 61, 3) := by decide +kernel
theorem dMR_merge_58 : decode cMR_merge 58 = .ok (.astore 9, 2) := by decide +kernel
theorem dMR_merge_60 : decode cMR_merge 60 = .ok (.aload_n 0, 1) := by decide +kernel
theorem dMR_merge_61 : decode cMR_merge 61 = .ok (.aload_n 0, 1) := by decide +kernel
theorem dMR_merge_62 : decode cMR_merge 62 = .ok (.getfield 57, 3) := by decide +kernel
theorem dMR_merge_65 : decode cMR_merge 65 = .ok (.putfield 61, 3) := by decide +kernel
theorem dMR_merge_68 : decode cMR_merge 68 = .ok (.aload_n 0, 1) := by decide +kernel
theorem dMR_merge_69 : decode cMR_merge 69 = .ok (.aload 9, 2) := by decide +kernel
theorem dMR_merge_71 : decode cMR_merge 71 = .ok (.putfield 57, 3) := by decide +kernel
theorem dMR_merge_74 : decode cMR_merge 74 = .ok (.aload 9, 2) := by decide +kernel
theorem dMR_merge_76 : decode cMR_merge 76 = .ok (.getfield 122, 3) := by decide +kernel
theorem dMR_merge_79 : decode cMR_merge 79 = .ok (.ireturn, 1) := by decide +kernel
theorem dMR_conflict_0 : decode cMR_conflict 0 = .ok (.iload_n 1, 1) := by decide +kernel
theorem dMR_conflict_1 : decode cMR_conflict 1 = .ok (.ifCond .lt 23, 3) := by decide +kernel
theorem dMR_conflict_4 : decode cMR_conflict 4 = .ok (.iload_n 1, 1) := by decide +kernel
theorem dMR_conflict_5 : decode cMR_conflict 5 = .ok (.aload_n 0, 1) := by decide +kernel
theorem dMR_conflict_6 : decode cMR_conflict 6 = .ok (.getfield 57, 3) := by decide +kernel
theorem dMR_conflict_9 : decode cMR_conflict 9 = .ok (.getfield 122, 3) := by decide +kernel
theorem dMR_conflict_12 : decode cMR_conflict 12 = .ok (.if_icmp .ge 12, 3) := by decide +kernel
theorem dMR_conflict_15 : decode cMR_conflict 15 = .ok (.iload_n 2, 1) := by decide +kernel
theorem dMR_conflict_16 : decode cMR_conflict 16 = .ok (.ifCond .lt 8, 3) := by decide +kernel
theorem dMR_conflict_19 : decode cMR_conflict 19 = .ok (.iload_n 2, 1) := by decide +kernel
theorem dMR_conflict_20 : decode cMR_conflict 20 = .ok (.iconst 3, 1) := by decide +kernel
theorem dMR_conflict_21 : decode cMR_conflict 21 = .ok (.if_icmp .lt 13, 3) := by decide +kernel
theorem dMR_conflict_24 : decode cMR_conflict 24 = .ok (.new 82, 3) := by decide +kernel
theorem dMR_conflict_27 : decode cMR_conflict 27 = .ok (.dup, 1) := by decide +kernel
theorem dMR_conflict_28 : decode cMR_conflict 28 = .ok (.ldc 125, 2) := by decide +kernel
theorem dMR_conflict_30 : decode cMR_conflict 30 = .ok (.invokespecial 86, 3) := by decide +kernel
theorem dMR_conflict_33 : decode cMR_conflict 33 = .ok (.athrow, 1) := by decide +kernel
theorem dMR_conflict_34 : decode cMR_conflict 34 = .ok (.aload_n 0, 1) := by decide +kernel
theorem dMR_conflict_35 : decode cMR_conflict 35 = .ok (.getfield 57, 3) := by decide +kernel
theorem dMR_conflict_38 : decode cMR_conflict 38 = .ok (.getfield 127, 3) := by decide +kernel
theorem dMR_conflict_41 : decode cMR_conflict 41 = .ok (.iload_n 1, 1) := by decide +kernel
theorem dMR_conflict_42 : decode cMR_conflict 42 = .ok (.iconst 3, 1) := by decide +kernel
theorem dMR_conflict_43 : decode cMR_conflict 43 = .ok (.imul, 1) := by decide +kernel
theorem dMR_conflict_44 : decode cMR_conflict 44 = .ok (.iload_n 2, 1) := by decide +kernel
theorem dMR_conflict_45 : decode cMR_conflict 45 = .ok (.iadd, 1) := by decide +kernel
theorem dMR_conflict_46 : decode cMR_conflict 46 = .ok (.iaload, 1) := by decide +kernel
theorem dMR_conflict_47 : decode cMR_conflict 47 = .ok (.ireturn, 1) := by decide +kernel
theorem dMR_patch_0 : decode cMR_patch 0 = .ok (.aload_n 0, 1) := by decide +kernel
theorem dMR_patch_1 : decode cMR_patch 1 = .ok (.iload_n 1, 1) := by decide +kernel
theorem dMR_patch_2 : decode cMR_patch 2 = .ok (.invokevirtual 64, 3) := by decide +kernel
theorem dMR_patch_5 : decode cMR_patch 5 = .ok (.astore 5, 2) := by decide +kernel
theorem dMR_patch_7 : decode cMR_patch 7 = .ok (.aload_n 0, 1) := by decide +kernel
theorem dMR_patch_8 : decode cMR_patch 8 = .ok (.iload_n 2, 1) := by decide +kernel
theorem dMR_patch_9 : decode cMR_patch 9 = .ok (.invokevirtual 64, 3) := by decide +kernel
theorem dMR_patch_12 : decode cMR_patch 12 = .ok (.astore 6, 2) := by decide +kernel
theorem dMR_patch_14 : decode cMR_patch 14 = .ok (.aload_n 0, 1) := by decide +kernel
theorem dMR_patch_15 : decode cMR_patch 15 = .ok (.iload_n 3, 1) := by decide +kernel
theorem dMR_patch_16 : decode cMR_patch 16 = .ok (.invokevirtual 64, 3) := by decide +kernel
theorem dMR_patch_19 : decode cMR_patch 19 = .ok (.astore 7, 2) := by decide +kernel
theorem dMR_patch_21 : decode cMR_patch 21 = .ok (.aload_n 0, 1) := by decide +kernel
theorem dMR_patch_22 : decode cMR_patch 22 = .ok (.iload 4, 2) := by decide +kernel
theorem dMR_patch_24 : decode cMR_patch 24 = .ok (.invokevirtual 64, 3) := by decide +kernel
theorem dMR_patch_27 : decode cMR_patch 27 = .ok (.astore 8, 2) := by decide +kernel
theorem dMR_patch_29 : decode cMR_patch 29 = .ok (.aload_n 0, 1) := by decide +kernel
theorem dMR_patch_30 : decode cMR_patch 30 = .ok (.getfield 41, 3) := by decide +kernel
theorem dMR_patch_33 : decode cMR_patch 33 = .ok (.aload 5, 2) := by decide +kernel
theorem dMR_patch_35 : decode cMR_patch 35 = .ok (.aload 6, 2) := by decide +kernel
theorem dMR_patch_37 : decode cMR_patch 37 = .ok (.aload 7, 2) := by decide +kernel
theorem dMR_patch_39 : decode cMR_patch 39 = .ok (.invokevirtual 130, 3) := by decide +kernel
theorem dMR_patch_42 : decode cMR_patch 42 = .ok (.aload 8, 2) := by decide +kernel
theorem dMR_patch_44 : decode cMR_patch 44 = .ok (.aload_n 0, 1) := by decide +kernel
theorem dMR_patch_45 : decode cMR_patch 45 = .ok (.getfield 41, 3) := by decide +kernel
theorem dMR_patch_48 : decode cMR_patch 48 = .ok (.getfield 131, 3) := by decide +kernel
theorem dMR_patch_51 : decode cMR_patch 51 = .ok (.invokestatic 119, 3) := by decide +kernel
theorem dMR_patch_54 : decode cMR_patch 54 = .ok (.aload_n 0, 1) := by decide +kernel
theorem dMR_patch_55 : decode cMR_patch 55 = .ok (.getfield 41, 3) := by decide +kernel
theorem dMR_patch_58 : decode cMR_patch 58 = .ok (.getfield 132, 3) := by decide +kernel
theorem dMR_patch_61 : decode cMR_patch 61 = .ok (.ireturn, 1) := by decide +kernel
theorem dMR_commit_0 : decode cMR_commit 0 = .ok (.aload_n 0, 1) := by decide +kernel
theorem dMR_commit_1 : decode cMR_commit 1 = .ok (.iload_n 1, 1) := by decide +kernel
theorem dMR_commit_2 : decode cMR_commit 2 = .ok (.invokevirtual 64, 3) := by decide +kernel
theorem dMR_commit_5 : decode cMR_commit 5 = .ok (.astore_n 2, 1) := by decide +kernel
theorem dMR_commit_6 : decode cMR_commit 6 = .ok (.aload_n 0, 1) := by decide +kernel
theorem dMR_commit_7 : decode cMR_commit 7 = .ok (.getfield 48, 3) := by decide +kernel
theorem dMR_commit_10 : decode cMR_commit 10 = .ok (.getfield 135, 3) := by decide +kernel
theorem dMR_commit_13 : decode cMR_commit 13 = .ok (.bipush 30, 2) := by decide +kernel
theorem dMR_commit_15 : decode cMR_commit 15 = .ok (.if_icmp .lt 13, 3) := by decide +kernel
theorem dMR_commit_18 : decode cMR_commit 18 = .ok (.new 72, 3) := by decide +kernel
theorem dMR_commit_21 : decode cMR_commit 21 = .ok (.dup, 1) := by decide +kernel
theorem dMR_commit_22 : decode cMR_commit 22 = .ok (.ldc 136, 2) := by decide +kernel
theorem dMR_commit_24 : decode cMR_commit 24 = .ok (.invokespecial 76, 3) := by decide +kernel
theorem dMR_commit_27 : decode cMR_commit 27 = .ok (.athrow, 1) := by decide +kernel
theorem dMR_commit_28 : decode cMR_commit 28 = .ok (.aload_n 0, 1) := by decide +kernel
theorem dMR_commit_29 : decode cMR_commit 29 = .ok (.getfield 48, 3) := by decide +kernel
theorem dMR_commit_32 : decode cMR_commit 32 = .ok (.aload_n 2, 1) := by decide +kernel
theorem dMR_commit_33 : decode cMR_commit 33 = .ok (.invokevirtual 138, 3) := by decide +kernel
theorem dMR_commit_36 : decode cMR_commit 36 = .ok (.aload_n 0, 1) := by decide +kernel
theorem dMR_commit_37 : decode cMR_commit 37 = .ok (.getfield 48, 3) := by decide +kernel
theorem dMR_commit_40 : decode cMR_commit 40 = .ok (.getfield 135, 3) := by decide +kernel
theorem dMR_commit_43 : decode cMR_commit 43 = .ok (.iconst 1, 1) := by decide +kernel
theorem dMR_commit_44 : decode cMR_commit 44 = .ok (.isub, 1) := by decide +kernel
theorem dMR_commit_45 : decode cMR_commit 45 = .ok (.ireturn, 1) := by decide +kernel
theorem dMR_origin_0 : decode cMR_origin 0 = .ok (.iload_n 1, 1) := by decide +kernel
theorem dMR_origin_1 : decode cMR_origin 1 = .ok (.ifCond .lt 14, 3) := by decide +kernel
theorem dMR_origin_4 : decode cMR_origin 4 = .ok (.iload_n 1, 1) := by decide +kernel
theorem dMR_origin_5 : decode cMR_origin 5 = .ok (.aload_n 0, 1) := by decide +kernel
theorem dMR_origin_6 : decode cMR_origin 6 = .ok (.getfield 48, 3) := by decide +kernel
theorem dMR_origin_9 : decode cMR_origin 9 = .ok (.getfield 135, 3) := by decide +kernel
theorem dMR_origin_12 : decode cMR_origin 12 = .ok (.if_icmp .lt 13, 3) := by decide +kernel
theorem dMR_origin_15 : decode cMR_origin 15 = .ok (.new 141, 3) := by decide +kernel
theorem dMR_origin_18 : decode cMR_origin 18 = .ok (.dup, 1) := by decide +kernel
theorem dMR_origin_19 : decode cMR_origin 19 = .ok (.ldc 143, 2) := by decide +kernel
theorem dMR_origin_21 : decode cMR_origin 21 = .ok (.invokespecial 145, 3) := by decide +kernel
theorem dMR_origin_24 : decode cMR_origin 24 = .ok (.athrow, 1) := by decide +kernel
theorem dMR_origin_25 : decode cMR_origin 25 = .ok (.iload_n 2, 1) := by decide +kernel
theorem dMR_origin_26 : decode cMR_origin 26 = .ok (.ifCond .lt 16, 3) := by decide +kernel
theorem dMR_origin_29 : decode cMR_origin 29 = .ok (.iload_n 2, 1) := by decide +kernel
theorem dMR_origin_30 : decode cMR_origin 30 = .ok (.aload_n 0, 1) := by decide +kernel
theorem dMR_origin_31 : decode cMR_origin 31 = .ok (.getfield 48, 3) := by decide +kernel
theorem dMR_origin_34 : decode cMR_origin 34 = .ok (.getfield 146, 3) := by decide +kernel
theorem dMR_origin_37 : decode cMR_origin 37 = .ok (.iload_n 1, 1) := by decide +kernel
theorem dMR_origin_38 : decode cMR_origin 38 = .ok (.iaload, 1) := by decide +kernel
theorem dMR_origin_39 : decode cMR_origin 39 = .ok (.if_icmp .lt 13, 3) := by decide +kernel
theorem dMR_origin_42 : decode cMR_origin 42 = .ok (.new 82, 3) := by decide +kernel
theorem dMR_origin_45 : decode cMR_origin 45 = .ok (.dup, 1) := by decide +kernel
theorem dMR_origin_46 : decode cMR_origin 46 = .ok (.ldc 84, 2) := by decide +kernel
theorem dMR_origin_48 : decode cMR_origin 48 = .ok (.invokespecial 86, 3) := by decide +kernel
theorem dMR_origin_51 : decode cMR_origin 51 = .ok (.athrow, 1) := by decide +kernel
theorem dMR_origin_52 : decode cMR_origin 52 = .ok (.aload_n 0, 1) := by decide +kernel
theorem dMR_origin_53 : decode cMR_origin 53 = .ok (.getfield 48, 3) := by decide +kernel
theorem dMR_origin_56 : decode cMR_origin 56 = .ok (.getfield 149, 3) := by decide +kernel
theorem dMR_origin_59 : decode cMR_origin 59 = .ok (.iload_n 1, 1) := by decide +kernel
theorem dMR_origin_60 : decode cMR_origin 60 = .ok (.bipush 60, 2) := by decide +kernel
theorem dMR_origin_62 : decode cMR_origin 62 = .ok (.imul, 1) := by decide +kernel
theorem dMR_origin_63 : decode cMR_origin 63 = .ok (.iload_n 2, 1) := by decide +kernel
theorem dMR_origin_64 : decode cMR_origin 64 = .ok (.iadd, 1) := by decide +kernel
theorem dMR_origin_65 : decode cMR_origin 65 = .ok (.iaload, 1) := by decide +kernel
theorem dMR_origin_66 : decode cMR_origin 66 = .ok (.ireturn, 1) := by decide +kernel
theorem dMR_rowAt_0 : decode cMR_rowAt 0 = .ok (.iload_n 1, 1) := by decide +kernel
theorem dMR_rowAt_1 : decode cMR_rowAt 1 = .ok (.ifCond .lt 12, 3) := by decide +kernel
theorem dMR_rowAt_4 : decode cMR_rowAt 4 = .ok (.iload_n 1, 1) := by decide +kernel
theorem dMR_rowAt_5 : decode cMR_rowAt 5 = .ok (.aload_n 0, 1) := by decide +kernel
theorem dMR_rowAt_6 : decode cMR_rowAt 6 = .ok (.getfield 11, 3) := by decide +kernel
theorem dMR_rowAt_9 : decode cMR_rowAt 9 = .ok (.arraylength, 1) := by decide +kernel
theorem dMR_rowAt_10 : decode cMR_rowAt 10 = .ok (.if_icmp .lt 13, 3) := by decide +kernel
theorem dMR_rowAt_13 : decode cMR_rowAt 13 = .ok (.new 141, 3) := by decide +kernel
theorem dMR_rowAt_16 : decode cMR_rowAt 16 = .ok (.dup, 1) := by decide +kernel
theorem dMR_rowAt_17 : decode cMR_rowAt 17 = .ok (.ldc 152, 2) := by decide +kernel
theorem dMR_rowAt_19 : decode cMR_rowAt 19 = .ok (.invokespecial 145, 3) := by decide +kernel
theorem dMR_rowAt_22 : decode cMR_rowAt 22 = .ok (.athrow, 1) := by decide +kernel
theorem dMR_rowAt_23 : decode cMR_rowAt 23 = .ok (.aload_n 0, 1) := by decide +kernel
theorem dMR_rowAt_24 : decode cMR_rowAt 24 = .ok (.getfield 11, 3) := by decide +kernel
theorem dMR_rowAt_27 : decode cMR_rowAt 27 = .ok (.iload_n 1, 1) := by decide +kernel
theorem dMR_rowAt_28 : decode cMR_rowAt 28 = .ok (.aaload, 1) := by decide +kernel
theorem dMR_rowAt_29 : decode cMR_rowAt 29 = .ok (.areturn, 1) := by decide +kernel
theorem dMR_fillWithOutcome_0 : decode cMR_fillWithOutcome 0 = .ok (.aload_n 1, 1) := by decide +kernel
theorem dMR_fillWithOutcome_1 : decode cMR_fillWithOutcome 1 = .ok (.getfield 68, 3) := by decide +kernel
theorem dMR_fillWithOutcome_4 : decode cMR_fillWithOutcome 4 = .ok (.bipush 60, 2) := by decide +kernel
theorem dMR_fillWithOutcome_6 : decode cMR_fillWithOutcome 6 = .ok (.if_icmp .le 13, 3) := by decide +kernel
theorem dMR_fillWithOutcome_9 : decode cMR_fillWithOutcome 9 = .ok (.new 72, 3) := by decide +kernel
theorem dMR_fillWithOutcome_12 : decode cMR_fillWithOutcome 12 = .ok (.dup, 1) := by decide +kernel
theorem dMR_fillWithOutcome_13 : decode cMR_fillWithOutcome 13 = .ok (.ldc 154, 2) := by decide +kernel
theorem dMR_fillWithOutcome_15 : decode cMR_fillWithOutcome 15 = .ok (.invokespecial 76, 3) := by decide +kernel
theorem dMR_fillWithOutcome_18 : decode cMR_fillWithOutcome 18 = .ok (.athrow, 1) := by decide +kernel
theorem dMR_fillWithOutcome_19 : decode cMR_fillWithOutcome 19 = .ok (.aload_n 0, 1) := by decide +kernel
theorem dMR_fillWithOutcome_20 : decode cMR_fillWithOutcome 20 = .ok (.aload_n 1, 1) := by decide +kernel
theorem dMR_fillWithOutcome_21 : decode cMR_fillWithOutcome 21 = .ok (.invokevirtual 156, 3) := by decide +kernel
theorem dMR_fillWithOutcome_24 : decode cMR_fillWithOutcome 24 = .ok (.return_, 1) := by decide +kernel
theorem dMg_init_0 : decode cMg_init 0 = .ok (.aload_n 0, 1) := by decide +kernel
theorem dMg_init_1 : decode cMg_init 1 = .ok (.invokespecial 3, 3) := by decide +kernel
theorem dMg_init_4 : decode cMg_init 4 = .ok (.aload_n 0, 1) := by decide +kernel
theorem dMg_init_5 : decode cMg_init 5 = .ok (.new 9, 3) := by decide +kernel
theorem dMg_init_8 : decode cMg_init 8 = .ok (.dup, 1) := by decide +kernel
theorem dMg_init_9 : decode cMg_init 9 = .ok (.bipush 120, 2) := by decide +kernel
theorem dMg_init_11 : decode cMg_init 11 = .ok (.invokespecial 11, 3) := by decide +kernel
theorem dMg_init_14 : decode cMg_init 14 = .ok (.putfield 14, 3) := by decide +kernel
theorem dMg_init_17 : decode cMg_init 17 = .ok (.aload_n 0, 1) := by decide +kernel
theorem dMg_init_18 : decode cMg_init 18 = .ok (.sipush 183, 3) := by decide +kernel
theorem dMg_init_21 : decode cMg_init 21 = .ok (.newarray .int, 2) := by decide +kernel
theorem dMg_init_23 : decode cMg_init 23 = .ok (.putfield 20, 3) := by decide +kernel
theorem dMg_init_26 : decode cMg_init 26 = .ok (.aload_n 0, 1) := by decide +kernel
theorem dMg_init_27 : decode cMg_init 27 = .ok (.iconst 0, 1) := by decide +kernel
theorem dMg_init_28 : decode cMg_init 28 = .ok (.putfield 24, 3) := by decide +kernel
theorem dMg_init_31 : decode cMg_init 31 = .ok (.aload_n 0, 1) := by decide +kernel
theorem dMg_init_32 : decode cMg_init 32 = .ok (.aload_n 1, 1) := by decide +kernel
theorem dMg_init_33 : decode cMg_init 33 = .ok (.putfield 28, 3) := by decide +kernel
theorem dMg_init_36 : decode cMg_init 36 = .ok (.aload_n 0, 1) := by decide +kernel
theorem dMg_init_37 : decode cMg_init 37 = .ok (.aload_n 2, 1) := by decide +kernel
theorem dMg_init_38 : decode cMg_init 38 = .ok (.putfield 32, 3) := by decide +kernel
theorem dMg_init_41 : decode cMg_init 41 = .ok (.aload_n 0, 1) := by decide +kernel
theorem dMg_init_42 : decode cMg_init 42 = .ok (.new 35, 3) := by decide +kernel
theorem dMg_init_45 : decode cMg_init 45 = .ok (.dup, 1) := by decide +kernel
theorem dMg_init_46 : decode cMg_init 46 = .ok (.invokespecial 37, 3) := by decide +kernel
theorem dMg_init_49 : decode cMg_init 49 = .ok (.putfield 38, 3) := by decide +kernel
theorem dMg_init_52 : decode cMg_init 52 = .ok (.aload_n 0, 1) := by decide +kernel
theorem dMg_init_53 : decode cMg_init 53 = .ok (.new 35, 3) := by decide +kernel
theorem dMg_init_56 : decode cMg_init 56 = .ok (.dup, 1) := by decide +kernel
theorem dMg_init_57 : decode cMg_init 57 = .ok (.invokespecial 37, 3) := by decide +kernel
theorem dMg_init_60 : decode cMg_init 60 = .ok (.putfield 42, 3) := by decide +kernel
theorem dMg_init_63 : decode cMg_init 63 = .ok (.aload_n 0, 1) := by decide +kernel
theorem dMg_init_64 : decode cMg_init 64 = .ok (.new 35, 3) := by decide +kernel
theorem dMg_init_67 : decode cMg_init 67 = .ok (.dup, 1) := by decide +kernel
theorem dMg_init_68 : decode cMg_init 68 = .ok (.invokespecial 37, 3) := by decide +kernel
theorem dMg_init_71 : decode cMg_init 71 = .ok (.putfield 45, 3) := by decide +kernel
theorem dMg_init_74 : decode cMg_init 74 = .ok (.return_, 1) := by decide +kernel
theorem dMg_run_0 : decode cMg_run 0 = .ok (.aload_n 0, 1) := by decide +kernel
theorem dMg_run_1 : decode cMg_run 1 = .ok (.getfield 28, 3) := by decide +kernel
theorem dMg_run_4 : decode cMg_run 4 = .ok (.aload_n 1, 1) := by decide +kernel
theorem dMg_run_5 : decode cMg_run 5 = .ok (.aload_n 2, 1) := by decide +kernel
theorem dMg_run_6 : decode cMg_run 6 = .ok (.invokevirtual 48, 3) := by decide +kernel
theorem dMg_run_9 : decode cMg_run 9 = .ok (.aload_n 0, 1) := by decide +kernel
theorem dMg_run_10 : decode cMg_run 10 = .ok (.getfield 32, 3) := by decide +kernel
theorem dMg_run_13 : decode cMg_run 13 = .ok (.aload_n 1, 1) := by decide +kernel
theorem dMg_run_14 : decode cMg_run 14 = .ok (.aload_n 3, 1) := by decide +kernel
theorem dMg_run_15 : decode cMg_run 15 = .ok (.invokevirtual 48, 3) := by decide +kernel
theorem dMg_run_18 : decode cMg_run 18 = .ok (.aload_n 0, 1) := by decide +kernel
theorem dMg_run_19 : decode cMg_run 19 = .ok (.getfield 14, 3) := by decide +kernel
theorem dMg_run_22 : decode cMg_run 22 = .ok (.iconst 0, 1) := by decide +kernel
theorem dMg_run_23 : decode cMg_run 23 = .ok (.putfield 54, 3) := by decide +kernel
theorem dMg_run_26 : decode cMg_run 26 = .ok (.aload_n 0, 1) := by decide +kernel
theorem dMg_run_27 : decode cMg_run 27 = .ok (.iconst 0, 1) := by decide +kernel
theorem dMg_run_28 : decode cMg_run 28 = .ok (.putfield 24, 3) := by decide +kernel
theorem dMg_run_31 : decode cMg_run 31 = .ok (.aload_n 0, 1) := by decide +kernel
theorem dMg_run_32 : decode cMg_run 32 = .ok (.getfield 38, 3) := by decide +kernel
theorem dMg_run_35 : decode cMg_run 35 = .ok (.aload_n 1, 1) := by decide +kernel
theorem dMg_run_36 : decode cMg_run 36 = .ok (.invokevirtual 57, 3) := by decide +kernel
theorem dMg_run_39 : decode cMg_run 39 = .ok (.aload_n 0, 1) := by decide +kernel
theorem dMg_run_40 : decode cMg_run 40 = .ok (.getfield 42, 3) := by decide +kernel
theorem dMg_run_43 : decode cMg_run 43 = .ok (.aload_n 2, 1) := by decide +kernel
theorem dMg_run_44 : decode cMg_run 44 = .ok (.invokevirtual 57, 3) := by decide +kernel
theorem dMg_run_47 : decode cMg_run 47 = .ok (.aload_n 0, 1) := by decide +kernel
theorem dMg_run_48 : decode cMg_run 48 = .ok (.getfield 45, 3) := by decide +kernel
theorem dMg_run_51 : decode cMg_run 51 = .ok (.aload_n 3, 1) := by decide +kernel
theorem dMg_run_52 : decode cMg_run 52 = .ok (.invokevirtual 57, 3) := by decide +kernel
theorem dMg_run_55 : decode cMg_run 55 = .ok (.aload_n 0, 1) := by decide +kernel
theorem dMg_run_56 : decode cMg_run 56 = .ok (.aload_n 1, 1) := by decide +kernel
theorem dMg_run_57 : decode cMg_run 57 = .ok (.invokevirtual 61, 3) := by decide +kernel
theorem dMg_run_60 : decode cMg_run 60 = .ok (.aload_n 0, 1) := by decide +kernel
theorem dMg_run_61 : decode cMg_run 61 = .ok (.aload_n 1, 1) := by decide +kernel
theorem dMg_run_62 : decode cMg_run 62 = .ok (.getfield 54, 3) := by decide +kernel
theorem dMg_run_65 : decode cMg_run 65 = .ok (.aload_n 2, 1) := by decide +kernel
theorem dMg_run_66 : decode cMg_run 66 = .ok (.getfield 54, 3) := by decide +kernel
theorem dMg_run_69 : decode cMg_run 69 = .ok (.aload_n 3, 1) := by decide +kernel
theorem dMg_run_70 : decode cMg_run 70 = .ok (.getfield 54, 3) := by decide +kernel
theorem dMg_run_73 : decode cMg_run 73 = .ok (.invokevirtual 64, 3) := by decide +kernel
theorem dMg_run_76 : decode cMg_run 76 = .ok (.return_, 1) := by decide +kernel
theorem dMg_mergeUpToAnchors_0 : decode cMg_mergeUpToAnchors 0 = .ok (.iconst 0, 1) := by decide +kernel
theorem dMg_mergeUpToAnchors_1 : decode cMg_mergeUpToAnchors 1 = .ok (.istore_n 2, 1) := by decide +kernel
theorem dMg_mergeUpToAnchors_2 : decode cMg_mergeUpToAnchors 2 = .ok (.iconst 0, 1) := by decide +kernel
theorem dMg_mergeUpToAnchors_3 : decode cMg_mergeUpToAnchors 3 = .ok (.istore_n 3, 1) := by decide +kernel
theorem dMg_mergeUpToAnchors_4 : decode cMg_mergeUpToAnchors 4 = .ok (.iload_n 3, 1) := by decide +kernel
theorem dMg_mergeUpToAnchors_5 : decode cMg_mergeUpToAnchors 5 = .ok (.aload_n 0, 1) := by decide +kernel
theorem dMg_mergeUpToAnchors_6 : decode cMg_mergeUpToAnchors 6 = .ok (.getfield 28, 3) := by decide +kernel
theorem dMg_mergeUpToAnchors_9 : decode cMg_mergeUpToAnchors 9 = .ok (.getfield 68, 3) := by decide +kernel
theorem dMg_mergeUpToAnchors_12 : decode cMg_mergeUpToAnchors 12 = .ok (.if_icmp .ge 118, 3) := by decide +kernel
theorem dMg_mergeUpToAnchors_15 : decode cMg_mergeUpToAnchors 15 = .ok (.aload_n 0, 1) := by decide +kernel
theorem dMg_mergeUpToAnchors_16 : decode cMg_mergeUpToAnchors 16 = .ok (.getfield 28, 3) := by decide +kernel
theorem dMg_mergeUpToAnchors_19 : decode cMg_mergeUpToAnchors 19 = .ok (.getfield 69, 3) := by decide +kernel
theorem dMg_mergeUpToAnchors_22 : decode cMg_mergeUpToAnchors 22 = .ok (.iload_n 3, 1) := by decide +kernel
theorem dMg_mergeUpToAnchors_23 : decode cMg_mergeUpToAnchors 23 = .ok (.iaload, 1) := by decide +kernel
theorem dMg_mergeUpToAnchors_24 : decode cMg_mergeUpToAnchors 24 = .ok (.istore 4, 2) := by decide +kernel
theorem dMg_mergeUpToAnchors_26 : decode cMg_mergeUpToAnchors 26 = .ok (.iload_n 2, 1) := by decide +kernel
theorem dMg_mergeUpToAnchors_27 : decode cMg_mergeUpToAnchors 27 = .ok (.aload_n 0, 1) := by decide +kernel
theorem dMg_mergeUpToAnchors_28 : decode cMg_mergeUpToAnchors 28 = .ok (.getfield 32, 3) := by decide +kernel
theorem dMg_mergeUpToAnchors_31 : decode cMg_mergeUpToAnchors 31 = .ok (.getfield 68, 3) := by decide +kernel
theorem dMg_mergeUpToAnchors_34 : decode cMg_mergeUpToAnchors 34 = .ok (.if_icmp .ge 23, 3) := by decide +kernel
theorem dMg_mergeUpToAnchors_37 : decode cMg_mergeUpToAnchors 37 = .ok (.aload_n 0, 1) := by decide +kernel
theorem dMg_mergeUpToAnchors_38 : decode cMg_mergeUpToAnchors 38 = .ok (.getfield 32, 3) := by decide +kernel
theorem dMg_mergeUpToAnchors_41 : decode cMg_mergeUpToAnchors 41 = .ok (.getfield 69, 3) := by decide +kernel
theorem dMg_mergeUpToAnchors_44 : decode cMg_mergeUpToAnchors 44 = .ok (.iload_n 2, 1) := by decide +kernel
theorem dMg_mergeUpToAnchors_45 : decode cMg_mergeUpToAnchors 45 = .ok (.iaload, 1) := by decide +kernel
theorem dMg_mergeUpToAnchors_46 : decode cMg_mergeUpToAnchors 46 = .ok (.iload 4, 2) := by decide +kernel
theorem dMg_mergeUpToAnchors_48 : decode cMg_mergeUpToAnchors 48 = .ok (.if_icmp .ge 9, 3) := by decide +kernel
theorem dMg_mergeUpToAnchors_51 : decode cMg_mergeUpToAnchors 51 = .ok (.iinc 2 1, 3) := by decide +kernel
theorem dMg_mergeUpToAnchors_54 : decode cMg_mergeUpToAnchors 54 = .ok (.goto (-28), 3) := by decide +kernel
theorem dMg_mergeUpToAnchors_57 : decode cMg_mergeUpToAnchors 57 = .ok (.iload_n 2, 1) := by decide +kernel
theorem dMg_mergeUpToAnchors_58 : decode cMg_mergeUpToAnchors 58 = .ok (.aload_n 0, 1) := by decide +kernel
theorem dMg_mergeUpToAnchors_59 : decode cMg_mergeUpToAnchors 59 = .ok (.getfield 32, 3) := by decide +kernel
theorem dMg_mergeUpToAnchors_62 : decode cMg_mergeUpToAnchors 62 = .ok (.getfield 68, 3) := by decide +kernel
theorem dMg_mergeUpToAnchors_65 : decode cMg_mergeUpToAnchors 65 = .ok (.if_icmp .ge 59, 3) := by decide +kernel
theorem dMg_mergeUpToAnchors_68 : decode cMg_mergeUpToAnchors 68 = .ok (.aload_n 0, 1) := by decide +kernel
theorem dMg_mergeUpToAnchors_69 : decode cMg_mergeUpToAnchors 69 = .ok (.getfield 32, 3) := by decide +kernel
theorem dMg_mergeUpToAnchors_72 : decode cMg_mergeUpToAnchors 72 = .ok (.getfield 69, 3) := by decide +kernel
theorem dMg_mergeUpToAnchors_75 : decode cMg_mergeUpToAnchors 75 = .ok (.iload_n 2, 1) := by decide +kernel
theorem dMg_mergeUpToAnchors_76 : decode cMg_mergeUpToAnchors 76 = .ok (.iaload, 1) := by decide +kernel
theorem dMg_mergeUpToAnchors_77 : decode cMg_mergeUpToAnchors 77 = .ok (.iload 4, 2) := by decide +kernel
theorem dMg_mergeUpToAnchors_79 : decode cMg_mergeUpToAnchors 79 = .ok (.if_icmp .ne 45, 3) := by decide +kernel
theorem dMg_mergeUpToAnchors_82 : decode cMg_mergeUpToAnchors 82 = .ok (.aload_n 0, 1) := by decide +kernel
theorem dMg_mergeUpToAnchors_83 : decode cMg_mergeUpToAnchors 83 = .ok (.iload 4, 2) := by decide +kernel
theorem dMg_mergeUpToAnchors_85 : decode cMg_mergeUpToAnchors 85 = .ok (.aload_n 0, 1) := by decide +kernel
theorem dMg_mergeUpToAnchors_86 : decode cMg_mergeUpToAnchors 86 = .ok (.getfield 28, 3) := by decide +kernel
theorem dMg_mergeUpToAnchors_89 : decode cMg_mergeUpToAnchors 89 = .ok (.getfield 72, 3) := by decide +kernel
theorem dMg_mergeUpToAnchors_92 : decode cMg_mergeUpToAnchors 92 = .ok (.iload_n 3, 1) := by decide +kernel
theorem dMg_mergeUpToAnchors_93 : decode cMg_mergeUpToAnchors 93 = .ok (.iaload, 1) := by decide +kernel
theorem dMg_mergeUpToAnchors_94 : decode cMg_mergeUpToAnchors 94 = .ok (.aload_n 0, 1) := by decide +kernel
theorem dMg_mergeUpToAnchors_95 : decode cMg_mergeUpToAnchors 95 = .ok (.getfield 32, 3) := by decide +kernel
theorem dMg_mergeUpToAnchors_98 : decode cMg_mergeUpToAnchors 98 = .ok (.getfield 72, 3) := by decide +kernel
theorem dMg_mergeUpToAnchors_101 : decode cMg_mergeUpToAnchors 101 = .ok (.iload_n 2, 1) := by decide +kernel
theorem dMg_mergeUpToAnchors_102 : decode cMg_mergeUpToAnchors 102 = .ok (.iaload, 1) := by decide +kernel
theorem dMg_mergeUpToAnchors_103 : decode cMg_mergeUpToAnchors 103 = .ok (.invokevirtual 64, 3) := by decide +kernel
theorem dMg_mergeUpToAnchors_106 : decode cMg_mergeUpToAnchors 106 = .ok (.aload_n 0, 1) := by decide +kernel
theorem dMg_mergeUpToAnchors_107 : decode cMg_mergeUpToAnchors 107 = .ok (.getfield 14, 3) := by decide +kernel
theorem dMg_mergeUpToAnchors_110 : decode cMg_mergeUpToAnchors 110 = .ok (.aload_n 1, 1) := by decide +kernel
theorem dMg_mergeUpToAnchors_111 : decode cMg_mergeUpToAnchors 111 = .ok (.getfield 75, 3) := by decide +kernel
theorem dMg_mergeUpToAnchors_114 : decode cMg_mergeUpToAnchors 114 = .ok (.iload 4, 2) := by decide +kernel
theorem dMg_mergeUpToAnchors_116 : decode cMg_mergeUpToAnchors 116 = .ok (.iaload, 1) := by decide +kernel
theorem dMg_mergeUpToAnchors_117 : decode cMg_mergeUpToAnchors 117 = .ok (.invokevirtual 78, 3) := by decide +kernel
theorem dMg_mergeUpToAnchors_120 : decode cMg_mergeUpToAnchors 120 = .ok (.aload_n 0, 1) := by decide +kernel
theorem dMg_mergeUpToAnchors_121 : decode cMg_mergeUpToAnchors 121 = .ok (.invokevirtual 81, 3) := by decide +kernel
theorem dMg_mergeUpToAnchors_124 : decode cMg_mergeUpToAnchors 124 = .ok (.iinc 3 1, 3) := by decide +kernel
theorem dMg_mergeUpToAnchors_127 : decode cMg_mergeUpToAnchors 127 = .ok (.goto (-123), 3) := by decide +kernel
theorem dMg_mergeUpToAnchors_130 : decode cMg_mergeUpToAnchors 130 = .ok (.return_, 1) := by decide +kernel
theorem dMg_stepPartsOverAnchor_0 : decode cMg_stepPartsOverAnchor 0 = .ok (.aload_n 0, 1) := by decide +kernel
theorem dMg_stepPartsOverAnchor_1 : decode cMg_stepPartsOverAnchor 1 = .ok (.getfield 38, 3) := by decide +kernel
theorem dMg_stepPartsOverAnchor_4 : decode cMg_stepPartsOverAnchor 4 = .ok (.invokevirtual 84, 3) := by decide +kernel
theorem dMg_stepPartsOverAnchor_7 : decode cMg_stepPartsOverAnchor 7 = .ok (.aload_n 0, 1) := by decide +kernel
theorem dMg_stepPartsOverAnchor_8 : decode cMg_stepPartsOverAnchor 8 = .ok (.getfield 42, 3) := by decide +kernel
theorem dMg_stepPartsOverAnchor_11 : decode cMg_stepPartsOverAnchor 11 = .ok (.invokevirtual 84, 3) := by decide +kernel
theorem dMg_stepPartsOverAnchor_14 : decode cMg_stepPartsOverAnchor 14 = .ok (.aload_n 0, 1) := by decide +kernel
theorem dMg_stepPartsOverAnchor_15 : decode cMg_stepPartsOverAnchor 15 = .ok (.getfield 45, 3) := by decide +kernel
theorem dMg_stepPartsOverAnchor_18 : decode cMg_stepPartsOverAnchor 18 = .ok (.invokevirtual 84, 3) := by decide +kernel
theorem dMg_stepPartsOverAnchor_21 : decode cMg_stepPartsOverAnchor 21 = .ok (.return_, 1) := by decide +kernel
theorem dMg_mergeParts_0 : decode cMg_mergeParts 0 = .ok (.aload_n 0, 1) := by decide +kernel
theorem dMg_mergeParts_1 : decode cMg_mergeParts 1 = .ok (.getfield 38, 3) := by decide +kernel
theorem dMg_mergeParts_4 : decode cMg_mergeParts 4 = .ok (.iload_n 1, 1) := by decide +kernel
theorem dMg_mergeParts_5 : decode cMg_mergeParts 5 = .ok (.putfield 87, 3) := by decide +kernel
theorem dMg_mergeParts_8 : decode cMg_mergeParts 8 = .ok (.aload_n 0, 1) := by decide +kernel
theorem dMg_mergeParts_9 : decode cMg_mergeParts 9 = .ok (.getfield 42, 3) := by decide +kernel
theorem dMg_mergeParts_12 : decode cMg_mergeParts 12 = .ok (.iload_n 2, 1) := by decide +kernel
theorem dMg_mergeParts_13 : decode cMg_mergeParts 13 = .ok (.putfield 87, 3) := by decide +kernel
theorem dMg_mergeParts_16 : decode cMg_mergeParts 16 = .ok (.aload_n 0, 1) := by decide +kernel
theorem dMg_mergeParts_17 : decode cMg_mergeParts 17 = .ok (.getfield 45, 3) := by decide +kernel
theorem dMg_mergeParts_20 : decode cMg_mergeParts 20 = .ok (.iload_n 3, 1) := by decide +kernel
theorem dMg_mergeParts_21 : decode cMg_mergeParts 21 = .ok (.putfield 87, 3) := by decide +kernel
theorem dMg_mergeParts_24 : decode cMg_mergeParts 24 = .ok (.aload_n 0, 1) := by decide +kernel
theorem dMg_mergeParts_25 : decode cMg_mergeParts 25 = .ok (.getfield 42, 3) := by decide +kernel
theorem dMg_mergeParts_28 : decode cMg_mergeParts 28 = .ok (.aload_n 0, 1) := by decide +kernel
theorem dMg_mergeParts_29 : decode cMg_mergeParts 29 = .ok (.getfield 45, 3) := by decide +kernel
theorem dMg_mergeParts_32 : decode cMg_mergeParts 32 = .ok (.invokevirtual 90, 3) := by decide +kernel
theorem dMg_mergeParts_35 : decode cMg_mergeParts 35 = .ok (.ifCond .ne 17, 3) := by decide +kernel
theorem dMg_mergeParts_38 : decode cMg_mergeParts 38 = .ok (.aload_n 0, 1) := by decide +kernel
theorem dMg_mergeParts_39 : decode cMg_mergeParts 39 = .ok (.getfield 45, 3) := by decide +kernel
theorem dMg_mergeParts_42 : decode cMg_mergeParts 42 = .ok (.aload_n 0, 1) := by decide +kernel
theorem dMg_mergeParts_43 : decode cMg_mergeParts 43 = .ok (.getfield 38, 3) := by decide +kernel
theorem dMg_mergeParts_46 : decode cMg_mergeParts 46 = .ok (.invokevirtual 90, 3) := by decide +kernel
theorem dMg_mergeParts_49 : decode cMg_mergeParts 49 = .ok (.ifCond .eq 14, 3) := by decide +kernel
theorem dMg_mergeParts_52 : decode cMg_mergeParts 52 = .ok (.aload_n 0, 1) := by decide +kernel
theorem dMg_mergeParts_53 : decode cMg_mergeParts 53 = .ok (.aload_n 0, 1) := by decide +kernel
theorem dMg_mergeParts_54 : decode cMg_mergeParts 54 = .ok (.getfield 42, 3) := by decide +kernel
theorem dMg_mergeParts_57 : decode cMg_mergeParts 57 = .ok (.invokevirtual 94, 3) := by decide +kernel
theorem dMg_mergeParts_60 : decode cMg_mergeParts 60 = .ok (.goto 48, 3) := by decide +kernel
theorem dMg_mergeParts_63 : decode cMg_mergeParts 63 = .ok (.aload_n 0, 1) := by decide +kernel
theorem dMg_mergeParts_64 : decode cMg_mergeParts 64 = .ok (.getfield 42, 3) := by decide +kernel
theorem dMg_mergeParts_67 : decode cMg_mergeParts 67 = .ok (.aload_n 0, 1) := by decide +kernel
theorem dMg_mergeParts_68 : decode cMg_mergeParts 68 = .ok (.getfield 38, 3) := by decide +kernel
theorem dMg_mergeParts_71 : decode cMg_mergeParts 71 = .ok (.invokevirtual 90, 3) := by decide +kernel
theorem dMg_mergeParts_74 : decode cMg_mergeParts 74 = .ok (.ifCond .eq 14, 3) := by decide +kernel
theorem dMg_mergeParts_77 : decode cMg_mergeParts 77 = .ok (.aload_n 0, 1) := by decide +kernel
theorem dMg_mergeParts_78 : decode cMg_mergeParts 78 = .ok (.aload_n 0, 1) := by decide +kernel
theorem dMg_mergeParts_79 : decode cMg_mergeParts 79 = .ok (.getfield 45, 3) := by decide +kernel
theorem dMg_mergeParts_82 : decode cMg_mergeParts 82 = .ok (.invokevirtual 94, 3) := by decide +kernel
theorem dMg_mergeParts_85 : decode cMg_mergeParts 85 = .ok (.goto 23, 3) := by decide +kernel
theorem dMg_mergeParts_88 : decode cMg_mergeParts 88 = .ok (.aload_n 0, 1) := by decide +kernel
theorem dMg_mergeParts_89 : decode cMg_mergeParts 89 = .ok (.invokevirtual 98, 3) := by decide +kernel
theorem dMg_mergeParts_92 : decode cMg_mergeParts 92 = .ok (.aload_n 0, 1) := by decide +kernel
theorem dMg_mergeParts_93 : decode cMg_mergeParts 93 = .ok (.aload_n 0, 1) := by decide +kernel
theorem dMg_mergeParts_94 : decode cMg_mergeParts 94 = .ok (.getfield 42, 3) := by decide +kernel
theorem dMg_mergeParts_97 : decode cMg_mergeParts 97 = .ok (.invokevirtual 94, 3) := by decide +kernel
theorem dMg_mergeParts_100 : decode cMg_mergeParts 100 = .ok (.aload_n 0, 1) := by decide +kernel
theorem dMg_mergeParts_101 : decode cMg_mergeParts 101 = .ok (.aload_n 0, 1) := by decide +kernel
theorem dMg_mergeParts_102 : decode cMg_mergeParts 102 = .ok (.getfield 45, 3) := by decide +kernel
theorem dMg_mergeParts_105 : decode cMg_mergeParts 105 = .ok (.invokevirtual 94, 3) := by decide +kernel
theorem dMg_mergeParts_108 : decode cMg_mergeParts 108 = .ok (.return_, 1) := by decide +kernel
theorem dMg_take_0 : decode cMg_take 0 = .ok (.aload_n 0, 1) := by decide +kernel
theorem dMg_take_1 : decode cMg_take 1 = .ok (.getfield 14, 3) := by decide +kernel
theorem dMg_take_4 : decode cMg_take 4 = .ok (.aload_n 1, 1) := by decide +kernel
theorem dMg_take_5 : decode cMg_take 5 = .ok (.getfield 101, 3) := by decide +kernel
theorem dMg_take_8 : decode cMg_take 8 = .ok (.aload_n 1, 1) := by decide +kernel
theorem dMg_take_9 : decode cMg_take 9 = .ok (.getfield 104, 3) := by decide +kernel
theorem dMg_take_12 : decode cMg_take 12 = .ok (.aload_n 1, 1) := by decide +kernel
theorem dMg_take_13 : decode cMg_take 13 = .ok (.getfield 87, 3) := by decide +kernel
theorem dMg_take_16 : decode cMg_take 16 = .ok (.invokevirtual 107, 3) := by decide +kernel
theorem dMg_take_19 : decode cMg_take 19 = .ok (.return_, 1) := by decide +kernel
theorem dMg_addConflict_0 : decode cMg_addConflict 0 = .ok (.aload_n 0, 1) := by decide +kernel
theorem dMg_addConflict_1 : decode cMg_addConflict 1 = .ok (.getfield 24, 3) := by decide +kernel
theorem dMg_addConflict_4 : decode cMg_addConflict 4 = .ok (.bipush 61, 2) := by decide +kernel
theorem dMg_addConflict_6 : decode cMg_addConflict 6 = .ok (.if_icmp .ge 65, 3) := by decide +kernel
theorem dMg_addConflict_9 : decode cMg_addConflict 9 = .ok (.aload_n 0, 1) := by decide +kernel
theorem dMg_addConflict_10 : decode cMg_addConflict 10 = .ok (.getfield 24, 3) := by decide +kernel
theorem dMg_addConflict_13 : decode cMg_addConflict 13 = .ok (.iconst 3, 1) := by decide +kernel
theorem dMg_addConflict_14 : decode cMg_addConflict 14 = .ok (.imul, 1) := by decide +kernel
theorem dMg_addConflict_15 : decode cMg_addConflict 15 = .ok (.istore_n 1, 1) := by decide +kernel
theorem dMg_addConflict_16 : decode cMg_addConflict 16 = .ok (.aload_n 0, 1) := by decide +kernel
theorem dMg_addConflict_17 : decode cMg_addConflict 17 = .ok (.getfield 20, 3) := by decide +kernel
theorem dMg_addConflict_20 : decode cMg_addConflict 20 = .ok (.iload_n 1, 1) := by decide +kernel
theorem dMg_addConflict_21 : decode cMg_addConflict 21 = .ok (.iconst 0, 1) := by decide +kernel
theorem dMg_addConflict_22 : decode cMg_addConflict 22 = .ok (.iadd, 1) := by decide +kernel
theorem dMg_addConflict_23 : decode cMg_addConflict 23 = .ok (.aload_n 0, 1) := by decide +kernel
theorem dMg_addConflict_24 : decode cMg_addConflict 24 = .ok (.getfield 14, 3) := by decide +kernel
theorem dMg_addConflict_27 : decode cMg_addConflict 27 = .ok (.getfield 54, 3) := by decide +kernel
theorem dMg_addConflict_30 : decode cMg_addConflict 30 = .ok (.iastore, 1) := by decide +kernel
theorem dMg_addConflict_31 : decode cMg_addConflict 31 = .ok (.aload_n 0, 1) := by decide +kernel
theorem dMg_addConflict_32 : decode cMg_addConflict 32 = .ok (.getfield 20, 3) := by decide +kernel
theorem dMg_addConflict_35 : decode cMg_addConflict 35 = .ok (.iload_n 1, 1) := by decide +kernel
theorem dMg_addConflict_36 : decode cMg_addConflict 36 = .ok (.iconst 1, 1) := by decide +kernel
theorem dMg_addConflict_37 : decode cMg_addConflict 37 = .ok (.iadd, 1) := by decide +kernel
theorem dMg_addConflict_38 : decode cMg_addConflict 38 = .ok (.aload_n 0, 1) := by decide +kernel
theorem dMg_addConflict_39 : decode cMg_addConflict 39 = .ok (.getfield 42, 3) := by decide +kernel
theorem dMg_addConflict_42 : decode cMg_addConflict 42 = .ok (.invokevirtual 111, 3) := by decide +kernel
theorem dMg_addConflict_45 : decode cMg_addConflict 45 = .ok (.iastore, 1) := by decide +kernel
theorem dMg_addConflict_46 : decode cMg_addConflict 46 = .ok (.aload_n 0, 1) := by decide +kernel
theorem dMg_addConflict_47 : decode cMg_addConflict 47 = .ok (.getfield 20, 3) := by decide +kernel
theorem dMg_addConflict_50 : decode cMg_addConflict 50 = .ok (.iload_n 1, 1) := by decide +kernel
theorem dMg_addConflict_51 : decode cMg_addConflict 51 = .ok (.iconst 2, 1) := by decide +kernel
theorem dMg_addConflict_52 : decode cMg_addConflict 52 = .ok (.iadd, 1) := by decide +kernel
theorem dMg_addConflict_53 : decode cMg_addConflict 53 = .ok (.aload_n 0, 1) := by decide +kernel
theorem dMg_addConflict_54 : decode cMg_addConflict 54 = .ok (.getfield 45, 3) := by decide +kernel
theorem dMg_addConflict_57 : decode cMg_addConflict 57 = .ok (.invokevirtual 111, 3) := by decide +kernel
theorem dMg_addConflict_60 : decode cMg_addConflict 60 = .ok (.iastore, 1) := by decide +kernel
theorem dMg_addConflict_61 : decode cMg_addConflict 61 = .ok (.aload_n 0, 1) := by decide +kernel
theorem dMg_addConflict_62 : decode cMg_addConflict 62 = .ok (.dup, 1) := by decide +kernel
theorem dMg_addConflict_63 : decode cMg_addConflict 63 = .ok (.getfield 24, 3) := by decide +kernel
theorem dMg_addConflict_66 : decode cMg_addConflict 66 = .ok (.iconst 1, 1) := by decide +kernel
theorem dMg_addConflict_67 : decode cMg_addConflict 67 = .ok (.iadd, 1) := by decide +kernel
theorem dMg_addConflict_68 : decode cMg_addConflict 68 = .ok (.putfield 24, 3) := by decide +kernel
theorem dMg_addConflict_71 : decode cMg_addConflict 71 = .ok (.return_, 1) := by decide +kernel
theorem dPg_init_0 : decode cPg_init 0 = .ok (.aload_n 0, 1) := by decide +kernel
theorem dPg_init_1 : decode cPg_init 1 = .ok (.invokespecial 3, 3) := by decide +kernel
theorem dPg_init_4 : decode cPg_init 4 = .ok (.aload_n 0, 1) := by decide +kernel
theorem dPg_init_5 : decode cPg_init 5 = .ok (.new 9, 3) := by decide +kernel
theorem dPg_init_8 : decode cPg_init 8 = .ok (.dup, 1) := by decide +kernel
theorem dPg_init_9 : decode cPg_init 9 = .ok (.bipush 120, 2) := by decide +kernel
theorem dPg_init_11 : decode cPg_init 11 = .ok (.invokespecial 11, 3) := by decide +kernel
theorem dPg_init_14 : decode cPg_init 14 = .ok (.putfield 14, 3) := by decide +kernel
theorem dPg_init_17 : decode cPg_init 17 = .ok (.aload_n 0, 1) := by decide +kernel
theorem dPg_init_18 : decode cPg_init 18 = .ok (.iconst 0, 1) := by decide +kernel
theorem dPg_init_19 : decode cPg_init 19 = .ok (.putfield 20, 3) := by decide +kernel
theorem dPg_init_22 : decode cPg_init 22 = .ok (.aload_n 0, 1) := by decide +kernel
theorem dPg_init_23 : decode cPg_init 23 = .ok (.aload_n 1, 1) := by decide +kernel
theorem dPg_init_24 : decode cPg_init 24 = .ok (.putfield 24, 3) := by decide +kernel
theorem dPg_init_27 : decode cPg_init 27 = .ok (.return_, 1) := by decide +kernel
theorem dPg_run_0 : decode cPg_run 0 = .ok (.aload_n 0, 1) := by decide +kernel
theorem dPg_run_1 : decode cPg_run 1 = .ok (.getfield 24, 3) := by decide +kernel
theorem dPg_run_4 : decode cPg_run 4 = .ok (.aload_n 1, 1) := by decide +kernel
theorem dPg_run_5 : decode cPg_run 5 = .ok (.aload_n 2, 1) := by decide +kernel
theorem dPg_run_6 : decode cPg_run 6 = .ok (.invokevirtual 28, 3) := by decide +kernel
theorem dPg_run_9 : decode cPg_run 9 = .ok (.aload_n 0, 1) := by decide +kernel
theorem dPg_run_10 : decode cPg_run 10 = .ok (.getfield 14, 3) := by decide +kernel
theorem dPg_run_13 : decode cPg_run 13 = .ok (.iconst 0, 1) := by decide +kernel
theorem dPg_run_14 : decode cPg_run 14 = .ok (.putfield 34, 3) := by decide +kernel
theorem dPg_run_17 : decode cPg_run 17 = .ok (.aload_n 0, 1) := by decide +kernel
theorem dPg_run_18 : decode cPg_run 18 = .ok (.iconst 0, 1) := by decide +kernel
theorem dPg_run_19 : decode cPg_run 19 = .ok (.putfield 20, 3) := by decide +kernel
theorem dPg_run_22 : decode cPg_run 22 = .ok (.iconst 0, 1) := by decide +kernel
theorem dPg_run_23 : decode cPg_run 23 = .ok (.istore 4, 2) := by decide +kernel
theorem dPg_run_25 : decode cPg_run 25 = .ok (.iconst 0, 1) := by decide +kernel
theorem dPg_run_26 : decode cPg_run 26 = .ok (.istore 5, 2) := by decide +kernel
theorem dPg_run_28 : decode cPg_run 28 = .ok (.iconst 0, 1) := by decide +kernel
theorem dPg_run_29 : decode cPg_run 29 = .ok (.istore 6, 2) := by decide +kernel
theorem dPg_run_31 : decode cPg_run 31 = .ok (.iload 6, 2) := by decide +kernel
theorem dPg_run_33 : decode cPg_run 33 = .ok (.aload_n 0, 1) := by decide +kernel
theorem dPg_run_34 : decode cPg_run 34 = .ok (.getfield 24, 3) := by decide +kernel
theorem dPg_run_37 : decode cPg_run 37 = .ok (.getfield 37, 3) := by decide +kernel
theorem dPg_run_40 : decode cPg_run 40 = .ok (.if_icmp .ge 145, 3) := by decide +kernel
theorem dPg_run_43 : decode cPg_run 43 = .ok (.iload 6, 2) := by decide +kernel
theorem dPg_run_45 : decode cPg_run 45 = .ok (.iconst 4, 1) := by decide +kernel
theorem dPg_run_46 : decode cPg_run 46 = .ok (.imul, 1) := by decide +kernel
theorem dPg_run_47 : decode cPg_run 47 = .ok (.istore 7, 2) := by decide +kernel
theorem dPg_run_49 : decode cPg_run 49 = .ok (.aload_n 0, 1) := by decide +kernel
theorem dPg_run_50 : decode cPg_run 50 = .ok (.getfield 24, 3) := by decide +kernel
theorem dPg_run_53 : decode cPg_run 53 = .ok (.getfield 38, 3) := by decide +kernel
theorem dPg_run_56 : decode cPg_run 56 = .ok (.iload 7, 2) := by decide +kernel
theorem dPg_run_58 : decode cPg_run 58 = .ok (.iconst 0, 1) := by decide +kernel
theorem dPg_run_59 : decode cPg_run 59 = .ok (.iadd, 1) := by decide +kernel
theorem dPg_run_60 : decode cPg_run 60 = .ok (.iaload, 1) := by decide +kernel
theorem dPg_run_61 : decode cPg_run 61 = .ok (.istore 8, 2) := by decide +kernel
theorem dPg_run_63 : decode cPg_run 63 = .ok (.aload_n 0, 1) := by decide +kernel
theorem dPg_run_64 : decode cPg_run 64 = .ok (.getfield 24, 3) := by decide +kernel
theorem dPg_run_67 : decode cPg_run 67 = .ok (.getfield 38, 3) := by decide +kernel
theorem dPg_run_70 : decode cPg_run 70 = .ok (.iload 7, 2) := by decide +kernel
theorem dPg_run_72 : decode cPg_run 72 = .ok (.iconst 1, 1) := by decide +kernel
theorem dPg_run_73 : decode cPg_run 73 = .ok (.iadd, 1) := by decide +kernel
theorem dPg_run_74 : decode cPg_run 74 = .ok (.iaload, 1) := by decide +kernel
theorem dPg_run_75 : decode cPg_run 75 = .ok (.istore 9, 2) := by decide +kernel
theorem dPg_run_77 : decode cPg_run 77 = .ok (.aload_n 0, 1) := by decide +kernel
theorem dPg_run_78 : decode cPg_run 78 = .ok (.getfield 24, 3) := by decide +kernel
theorem dPg_run_81 : decode cPg_run 81 = .ok (.getfield 38, 3) := by decide +kernel
theorem dPg_run_84 : decode cPg_run 84 = .ok (.iload 7, 2) := by decide +kernel
theorem dPg_run_86 : decode cPg_run 86 = .ok (.iconst 2, 1) := by decide +kernel
theorem dPg_run_87 : decode cPg_run 87 = .ok (.iadd, 1) := by decide +kernel
theorem dPg_run_88 : decode cPg_run 88 = .ok (.iaload, 1) := by decide +kernel
theorem dPg_run_89 : decode cPg_run 89 = .ok (.istore 10, 2) := by decide +kernel
theorem dPg_run_91 : decode cPg_run 91 = .ok (.aload_n 1, 1) := by decide +kernel
theorem dPg_run_92 : decode cPg_run 92 = .ok (.iload 8, 2) := by decide +kernel
theorem dPg_run_94 : decode cPg_run 94 = .ok (.iload 9, 2) := by decide +kernel
theorem dPg_run_96 : decode cPg_run 96 = .ok (.aload_n 3, 1) := by decide +kernel
theorem dPg_run_97 : decode cPg_run 97 = .ok (.iload 4, 2) := by decide +kernel
theorem dPg_run_99 : decode cPg_run 99 = .ok (.iload 8, 2) := by decide +kernel
theorem dPg_run_101 : decode cPg_run 101 = .ok (.iload 5, 2) := by decide +kernel
theorem dPg_run_103 : decode cPg_run 103 = .ok (.iadd, 1) := by decide +kernel
theorem dPg_run_104 : decode cPg_run 104 = .ok (.invokestatic 42, 3) := by decide +kernel
theorem dPg_run_107 : decode cPg_run 107 = .ok (.istore 11, 2) := by decide +kernel
theorem dPg_run_109 : decode cPg_run 109 = .ok (.iload 11, 2) := by decide +kernel
theorem dPg_run_111 : decode cPg_run 111 = .ok (.iconst (-1), 1) := by decide +kernel
theorem dPg_run_112 : decode cPg_run 112 = .ok (.if_icmp .ne 16, 3) := by decide +kernel
theorem dPg_run_115 : decode cPg_run 115 = .ok (.aload_n 0, 1) := by decide +kernel
theorem dPg_run_116 : decode cPg_run 116 = .ok (.dup, 1) := by decide +kernel
theorem dPg_run_117 : decode cPg_run 117 = .ok (.getfield 20, 3) := by decide +kernel
theorem dPg_run_120 : decode cPg_run 120 = .ok (.iconst 1, 1) := by decide +kernel
theorem dPg_run_121 : decode cPg_run 121 = .ok (.iadd, 1) := by decide +kernel
theorem dPg_run_122 : decode cPg_run 122 = .ok (.putfield 20, 3) := by decide +kernel
theorem dPg_run_125 : decode cPg_run 125 = .ok (.goto 54, 3) := by decide +kernel
theorem dPg_run_128 : decode cPg_run 128 = .ok (.aload_n 0, 1) := by decide +kernel
theorem dPg_run_129 : decode cPg_run 129 = .ok (.getfield 14, 3) := by decide +kernel
theorem dPg_run_132 : decode cPg_run 132 = .ok (.aload_n 3, 1) := by decide +kernel
theorem dPg_run_133 : decode cPg_run 133 = .ok (.iload 4, 2) := by decide +kernel
theorem dPg_run_135 : decode cPg_run 135 = .ok (.iload 11, 2) := by decide +kernel
theorem dPg_run_137 : decode cPg_run 137 = .ok (.invokevirtual 46, 3) := by decide +kernel
theorem dPg_run_140 : decode cPg_run 140 = .ok (.aload_n 0, 1) := by decide +kernel
theorem dPg_run_141 : decode cPg_run 141 = .ok (.getfield 14, 3) := by decide +kernel
theorem dPg_run_144 : decode cPg_run 144 = .ok (.aload_n 2, 1) := by decide +kernel
theorem dPg_run_145 : decode cPg_run 145 = .ok (.iload 10, 2) := by decide +kernel
theorem dPg_run_147 : decode cPg_run 147 = .ok (.iload 10, 2) := by decide +kernel
theorem dPg_run_149 : decode cPg_run 149 = .ok (.aload_n 0, 1) := by decide +kernel
theorem dPg_run_150 : decode cPg_run 150 = .ok (.getfield 24, 3) := by decide +kernel
theorem dPg_run_153 : decode cPg_run 153 = .ok (.getfield 38, 3) := by decide +kernel
theorem dPg_run_156 : decode cPg_run 156 = .ok (.iload 7, 2) := by decide +kernel
theorem dPg_run_158 : decode cPg_run 158 = .ok (.iconst 3, 1) := by decide +kernel
theorem dPg_run_159 : decode cPg_run 159 = .ok (.iadd, 1) := by decide +kernel
theorem dPg_run_160 : decode cPg_run 160 = .ok (.iaload, 1) := by decide +kernel
theorem dPg_run_161 : decode cPg_run 161 = .ok (.iadd, 1) := by decide +kernel
theorem dPg_run_162 : decode cPg_run 162 = .ok (.invokevirtual 46, 3) := by decide +kernel
theorem dPg_run_165 : decode cPg_run 165 = .ok (.iload 11, 2) := by decide +kernel
theorem dPg_run_167 : decode cPg_run 167 = .ok (.iload 9, 2) := by decide +kernel
theorem dPg_run_169 : decode cPg_run 169 = .ok (.iadd, 1) := by decide +kernel
theorem dPg_run_170 : decode cPg_run 170 = .ok (.istore 4, 2) := by decide +kernel
theorem dPg_run_172 : decode cPg_run 172 = .ok (.iload 11, 2) := by decide +kernel
theorem dPg_run_174 : decode cPg_run 174 = .ok (.iload 8, 2) := by decide +kernel
theorem dPg_run_176 : decode cPg_run 176 = .ok (.isub, 1) := by decide +kernel
theorem dPg_run_177 : decode cPg_run 177 = .ok (.istore 5, 2) := by decide +kernel
theorem dPg_run_179 : decode cPg_run 179 = .ok (.iinc 6 1, 3) := by decide +kernel
theorem dPg_run_182 : decode cPg_run 182 = .ok (.goto (-151), 3) := by decide +kernel
theorem dPg_run_185 : decode cPg_run 185 = .ok (.aload_n 0, 1) := by decide +kernel
theorem dPg_run_186 : decode cPg_run 186 = .ok (.getfield 14, 3) := by decide +kernel
theorem dPg_run_189 : decode cPg_run 189 = .ok (.aload_n 3, 1) := by decide +kernel
theorem dPg_run_190 : decode cPg_run 190 = .ok (.iload 4, 2) := by decide +kernel
theorem dPg_run_192 : decode cPg_run 192 = .ok (.aload_n 3, 1) := by decide +kernel
theorem dPg_run_193 : decode cPg_run 193 = .ok (.getfield 34, 3) := by decide +kernel
theorem dPg_run_196 : decode cPg_run 196 = .ok (.invokevirtual 46, 3) := by decide +kernel
theorem dPg_run_199 : decode cPg_run 199 = .ok (.return_, 1) := by decide +kernel
theorem dPg_nearestFit_0 : decode cPg_nearestFit 0 = .ok (.iconst (-1), 1) := by decide +kernel
theorem dPg_nearestFit_1 : decode cPg_nearestFit 1 = .ok (.istore 6, 2) := by decide +kernel
theorem dPg_nearestFit_3 : decode cPg_nearestFit 3 = .ok (.iload 4, 2) := by decide +kernel
theorem dPg_nearestFit_5 : decode cPg_nearestFit 5 = .ok (.istore 7, 2) := by decide +kernel
theorem dPg_nearestFit_7 : decode cPg_nearestFit 7 = .ok (.iload 7, 2) := by decide +kernel
theorem dPg_nearestFit_9 : decode cPg_nearestFit 9 = .ok (.aload_n 3, 1) := by decide +kernel
theorem dPg_nearestFit_10 : decode cPg_nearestFit 10 = .ok (.getfield 34, 3) := by decide +kernel
theorem dPg_nearestFit_13 : decode cPg_nearestFit 13 = .ok (.iload_n 2, 1) := by decide +kernel
theorem dPg_nearestFit_14 : decode cPg_nearestFit 14 = .ok (.isub, 1) := by decide +kernel
theorem dPg_nearestFit_15 : decode cPg_nearestFit 15 = .ok (.if_icmp .gt 62, 3) := by decide +kernel
theorem dPg_nearestFit_18 : decode cPg_nearestFit 18 = .ok (.iload 6, 2) := by decide +kernel
theorem dPg_nearestFit_20 : decode cPg_nearestFit 20 = .ok (.iconst (-1), 1) := by decide +kernel
theorem dPg_nearestFit_21 : decode cPg_nearestFit 21 = .ok (.if_icmp .eq 22, 3) := by decide +kernel
theorem dPg_nearestFit_24 : decode cPg_nearestFit 24 = .ok (.iload 7, 2) := by decide +kernel
theorem dPg_nearestFit_26 : decode cPg_nearestFit 26 = .ok (.iload 5, 2) := by decide +kernel
theorem dPg_nearestFit_28 : decode cPg_nearestFit 28 = .ok (.isub, 1) := by decide +kernel
theorem dPg_nearestFit_29 : decode cPg_nearestFit 29 = .ok (.invokestatic 50, 3) := by decide +kernel
theorem dPg_nearestFit_32 : decode cPg_nearestFit 32 = .ok (.iload 6, 2) := by decide +kernel
theorem dPg_nearestFit_34 : decode cPg_nearestFit 34 = .ok (.iload 5, 2) := by decide +kernel
theorem dPg_nearestFit_36 : decode cPg_nearestFit 36 = .ok (.isub, 1) := by decide +kernel
theorem dPg_nearestFit_37 : decode cPg_nearestFit 37 = .ok (.invokestatic 50, 3) := by decide +kernel
theorem dPg_nearestFit_40 : decode cPg_nearestFit 40 = .ok (.if_icmp .ge 7, 3) := by decide +kernel
theorem dPg_nearestFit_43 : decode cPg_nearestFit 43 = .ok (.iconst 1, 1) := by decide +kernel
theorem dPg_nearestFit_44 : decode cPg_nearestFit 44 = .ok (.goto 4, 3) := by decide +kernel
theorem dPg_nearestFit_47 : decode cPg_nearestFit 47 = .ok (.iconst 0, 1) := by decide +kernel
theorem dPg_nearestFit_48 : decode cPg_nearestFit 48 = .ok (.istore 8, 2) := by decide +kernel
theorem dPg_nearestFit_50 : decode cPg_nearestFit 50 = .ok (.iload 8, 2) := by decide +kernel
theorem dPg_nearestFit_52 : decode cPg_nearestFit 52 = .ok (.ifCond .eq 19, 3) := by decide +kernel
theorem dPg_nearestFit_55 : decode cPg_nearestFit 55 = .ok (.aload_n 0, 1) := by decide +kernel
theorem dPg_nearestFit_56 : decode cPg_nearestFit 56 = .ok (.iload_n 1, 1) := by decide +kernel
theorem dPg_nearestFit_57 : decode cPg_nearestFit 57 = .ok (.iload_n 2, 1) := by decide +kernel
theorem dPg_nearestFit_58 : decode cPg_nearestFit 58 = .ok (.aload_n 3, 1) := by decide +kernel
theorem dPg_nearestFit_59 : decode cPg_nearestFit 59 = .ok (.iload 7, 2) := by decide +kernel
theorem dPg_nearestFit_61 : decode cPg_nearestFit 61 = .ok (.invokestatic 56, 3) := by decide +kernel
theorem dPg_nearestFit_64 : decode cPg_nearestFit 64 = .ok (.ifCond .eq 7, 3) := by decide +kernel
theorem dPg_nearestFit_67 : decode cPg_nearestFit 67 = .ok (.iload 7, 2) := by decide +kernel
theorem dPg_nearestFit_69 : decode cPg_nearestFit 69 = .ok (.istore 6, 2) := by decide +kernel
theorem dPg_nearestFit_71 : decode cPg_nearestFit 71 = .ok (.iinc 7 1, 3) := by decide +kernel
theorem dPg_nearestFit_74 : decode cPg_nearestFit 74 = .ok (.goto (-67), 3) := by decide +kernel
theorem dPg_nearestFit_77 : decode cPg_nearestFit 77 = .ok (.iload 6, 2) := by decide +kernel
theorem dPg_nearestFit_79 : decode cPg_nearestFit 79 = .ok (.ireturn, 1) := by decide +kernel
theorem dPg_fits_0 : decode cPg_fits 0 = .ok (.iload_n 1, 1) := by decide +kernel
theorem dPg_fits_1 : decode cPg_fits 1 = .ok (.iconst 1, 1) := by decide +kernel
theorem dPg_fits_2 : decode cPg_fits 2 = .ok (.isub, 1) := by decide +kernel
theorem dPg_fits_3 : decode cPg_fits 3 = .ok (.iconst 0, 1) := by decide +kernel
theorem dPg_fits_4 : decode cPg_fits 4 = .ok (.invokestatic 60, 3) := by decide +kernel
theorem dPg_fits_7 : decode cPg_fits 7 = .ok (.istore 5, 2) := by decide +kernel
theorem dPg_fits_9 : decode cPg_fits 9 = .ok (.iload_n 1, 1) := by decide +kernel
theorem dPg_fits_10 : decode cPg_fits 10 = .ok (.iload_n 2, 1) := by decide +kernel
theorem dPg_fits_11 : decode cPg_fits 11 = .ok (.iadd, 1) := by decide +kernel
theorem dPg_fits_12 : decode cPg_fits 12 = .ok (.iconst 1, 1) := by decide +kernel
theorem dPg_fits_13 : decode cPg_fits 13 = .ok (.iadd, 1) := by decide +kernel
theorem dPg_fits_14 : decode cPg_fits 14 = .ok (.aload_n 0, 1) := by decide +kernel
theorem dPg_fits_15 : decode cPg_fits 15 = .ok (.getfield 34, 3) := by decide +kernel
theorem dPg_fits_18 : decode cPg_fits 18 = .ok (.invokestatic 64, 3) := by decide +kernel
theorem dPg_fits_21 : decode cPg_fits 21 = .ok (.istore 6, 2) := by decide +kernel
theorem dPg_fits_23 : decode cPg_fits 23 = .ok (.iload 5, 2) := by decide +kernel
theorem dPg_fits_25 : decode cPg_fits 25 = .ok (.istore 7, 2) := by decide +kernel
theorem dPg_fits_27 : decode cPg_fits 27 = .ok (.iload 7, 2) := by decide +kernel
theorem dPg_fits_29 : decode cPg_fits 29 = .ok (.iload 6, 2) := by decide +kernel
theorem dPg_fits_31 : decode cPg_fits 31 = .ok (.if_icmp .ge 32, 3) := by decide +kernel
theorem dPg_fits_34 : decode cPg_fits 34 = .ok (.aload_n 3, 1) := by decide +kernel
theorem dPg_fits_35 : decode cPg_fits 35 = .ok (.iload 4, 2) := by decide +kernel
theorem dPg_fits_37 : decode cPg_fits 37 = .ok (.iload 7, 2) := by decide +kernel
theorem dPg_fits_39 : decode cPg_fits 39 = .ok (.iadd, 1) := by decide +kernel
theorem dPg_fits_40 : decode cPg_fits 40 = .ok (.iload_n 1, 1) := by decide +kernel
theorem dPg_fits_41 : decode cPg_fits 41 = .ok (.isub, 1) := by decide +kernel
theorem dPg_fits_42 : decode cPg_fits 42 = .ok (.aload_n 0, 1) := by decide +kernel
theorem dPg_fits_43 : decode cPg_fits 43 = .ok (.getfield 67, 3) := by decide +kernel
theorem dPg_fits_46 : decode cPg_fits 46 = .ok (.iload 7, 2) := by decide +kernel
theorem dPg_fits_48 : decode cPg_fits 48 = .ok (.iaload, 1) := by decide +kernel
theorem dPg_fits_49 : decode cPg_fits 49 = .ok (.invokevirtual 70, 3) := by decide +kernel
theorem dPg_fits_52 : decode cPg_fits 52 = .ok (.ifCond .ne 5, 3) := by decide +kernel
theorem dPg_fits_55 : decode cPg_fits 55 = .ok (.iconst 0, 1) := by decide +kernel
theorem dPg_fits_56 : decode cPg_fits 56 = .ok (.ireturn, 1) := by decide +kernel
theorem dPg_fits_57 : decode cPg_fits 57 = .ok (.iinc 7 1, 3) := by decide +kernel
theorem dPg_fits_60 : decode cPg_fits 60 = .ok (.goto (-33), 3) := by decide +kernel
theorem dPg_fits_63 : decode cPg_fits 63 = .ok (.iconst 1, 1) := by decide +kernel
theorem dPg_fits_64 : decode cPg_fits 64 = .ok (.ireturn, 1) := by decide +kernel
theorem dVe_init_0 : decode cVe_init 0 = .ok (.aload_n 0, 1) := by decide +kernel
theorem dVe_init_1 : decode cVe_init 1 = .ok (.invokespecial 3, 3) := by decide +kernel
theorem dVe_init_4 : decode cVe_init 4 = .ok (.aload_n 0, 1) := by decide +kernel
theorem dVe_init_5 : decode cVe_init 5 = .ok (.bipush 30, 2) := by decide +kernel
theorem dVe_init_7 : decode cVe_init 7 = .ok (.newarray .int, 2) := by decide +kernel
theorem dVe_init_9 : decode cVe_init 9 = .ok (.putfield 9, 3) := by decide +kernel
theorem dVe_init_12 : decode cVe_init 12 = .ok (.aload_n 0, 1) := by decide +kernel
theorem dVe_init_13 : decode cVe_init 13 = .ok (.sipush 1800, 3) := by decide +kernel
theorem dVe_init_16 : decode cVe_init 16 = .ok (.newarray .int, 2) := by decide +kernel
theorem dVe_init_18 : decode cVe_init 18 = .ok (.putfield 15, 3) := by decide +kernel
theorem dVe_init_21 : decode cVe_init 21 = .ok (.aload_n 0, 1) := by decide +kernel
theorem dVe_init_22 : decode cVe_init 22 = .ok (.iconst 0, 1) := by decide +kernel
theorem dVe_init_23 : decode cVe_init 23 = .ok (.putfield 18, 3) := by decide +kernel
theorem dVe_init_26 : decode cVe_init 26 = .ok (.aload_n 0, 1) := by decide +kernel
theorem dVe_init_27 : decode cVe_init 27 = .ok (.new 22, 3) := by decide +kernel
theorem dVe_init_30 : decode cVe_init 30 = .ok (.dup, 1) := by decide +kernel
theorem dVe_init_31 : decode cVe_init 31 = .ok (.bipush 60, 2) := by decide +kernel
theorem dVe_init_33 : decode cVe_init 33 = .ok (.invokespecial 24, 3) := by decide +kernel
theorem dVe_init_36 : decode cVe_init 36 = .ok (.putfield 27, 3) := by decide +kernel
theorem dVe_init_39 : decode cVe_init 39 = .ok (.aload_n 0, 1) := by decide +kernel
theorem dVe_init_40 : decode cVe_init 40 = .ok (.aload_n 1, 1) := by decide +kernel
theorem dVe_init_41 : decode cVe_init 41 = .ok (.putfield 31, 3) := by decide +kernel
theorem dVe_init_44 : decode cVe_init 44 = .ok (.return_, 1) := by decide +kernel
theorem dVe_add_0 : decode cVe_add 0 = .ok (.aload_n 0, 1) := by decide +kernel
theorem dVe_add_1 : decode cVe_add 1 = .ok (.getfield 18, 3) := by decide +kernel
theorem dVe_add_4 : decode cVe_add 4 = .ok (.bipush 30, 2) := by decide +kernel
theorem dVe_add_6 : decode cVe_add 6 = .ok (.if_icmp .ge 39, 3) := by decide +kernel
theorem dVe_add_9 : decode cVe_add 9 = .ok (.aload_n 0, 1) := by decide +kernel
theorem dVe_add_10 : decode cVe_add 10 = .ok (.aload_n 1, 1) := by decide +kernel
theorem dVe_add_11 : decode cVe_add 11 = .ok (.invokevirtual 35, 3) := by decide +kernel
theorem dVe_add_14 : decode cVe_add 14 = .ok (.aload_n 0, 1) := by decide +kernel
theorem dVe_add_15 : decode cVe_add 15 = .ok (.getfield 9, 3) := by decide +kernel
theorem dVe_add_18 : decode cVe_add 18 = .ok (.aload_n 0, 1) := by decide +kernel
theorem dVe_add_19 : decode cVe_add 19 = .ok (.getfield 18, 3) := by decide +kernel
theorem dVe_add_22 : decode cVe_add 22 = .ok (.aload_n 1, 1) := by decide +kernel
theorem dVe_add_23 : decode cVe_add 23 = .ok (.getfield 39, 3) := by decide +kernel
theorem dVe_add_26 : decode cVe_add 26 = .ok (.iastore, 1) := by decide +kernel
theorem dVe_add_27 : decode cVe_add 27 = .ok (.aload_n 0, 1) := by decide +kernel
theorem dVe_add_28 : decode cVe_add 28 = .ok (.getfield 27, 3) := by decide +kernel
theorem dVe_add_31 : decode cVe_add 31 = .ok (.aload_n 1, 1) := by decide +kernel
theorem dVe_add_32 : decode cVe_add 32 = .ok (.invokevirtual 40, 3) := by decide +kernel
theorem dVe_add_35 : decode cVe_add 35 = .ok (.aload_n 0, 1) := by decide +kernel
theorem dVe_add_36 : decode cVe_add 36 = .ok (.dup, 1) := by decide +kernel
theorem dVe_add_37 : decode cVe_add 37 = .ok (.getfield 18, 3) := by decide +kernel
theorem dVe_add_40 : decode cVe_add 40 = .ok (.iconst 1, 1) := by decide +kernel
theorem dVe_add_41 : decode cVe_add 41 = .ok (.iadd, 1) := by decide +kernel
theorem dVe_add_42 : decode cVe_add 42 = .ok (.putfield 18, 3) := by decide +kernel
theorem dVe_add_45 : decode cVe_add 45 = .ok (.return_, 1) := by decide +kernel
theorem dVe_fillOrigins_0 : decode cVe_fillOrigins 0 = .ok (.aload_n 0, 1) := by decide +kernel
theorem dVe_fillOrigins_1 : decode cVe_fillOrigins 1 = .ok (.getfield 18, 3) := by decide +kernel
theorem dVe_fillOrigins_4 : decode cVe_fillOrigins 4 = .ok (.bipush 60, 2) := by decide +kernel
theorem dVe_fillOrigins_6 : decode cVe_fillOrigins 6 = .ok (.imul, 1) := by decide +kernel
theorem dVe_fillOrigins_7 : decode cVe_fillOrigins 7 = .ok (.istore_n 2, 1) := by decide +kernel
theorem dVe_fillOrigins_8 : decode cVe_fillOrigins 8 = .ok (.iconst 0, 1) := by decide +kernel
theorem dVe_fillOrigins_9 : decode cVe_fillOrigins 9 = .ok (.istore_n 3, 1) := by decide +kernel
theorem dVe_fillOrigins_10 : decode cVe_fillOrigins 10 = .ok (.iload_n 3, 1) := by decide +kernel
theorem dVe_fillOrigins_11 : decode cVe_fillOrigins 11 = .ok (.aload_n 1, 1) := by decide +kernel
theorem dVe_fillOrigins_12 : decode cVe_fillOrigins 12 = .ok (.getfield 39, 3) := by decide +kernel
theorem dVe_fillOrigins_15 : decode cVe_fillOrigins 15 = .ok (.if_icmp .ge 21, 3) := by decide +kernel
theorem dVe_fillOrigins_18 : decode cVe_fillOrigins 18 = .ok (.aload_n 0, 1) := by decide +kernel
theorem dVe_fillOrigins_19 : decode cVe_fillOrigins 19 = .ok (.getfield 15, 3) := by decide +kernel
theorem dVe_fillOrigins_22 : decode cVe_fillOrigins 22 = .ok (.iload_n 2, 1) := by decide +kernel
theorem dVe_fillOrigins_23 : decode cVe_fillOrigins 23 = .ok (.iload_n 3, 1) := by decide +kernel
theorem dVe_fillOrigins_24 : decode cVe_fillOrigins 24 = .ok (.iadd, 1) := by decide +kernel
theorem dVe_fillOrigins_25 : decode cVe_fillOrigins 25 = .ok (.aload_n 0, 1) := by decide +kernel
theorem dVe_fillOrigins_26 : decode cVe_fillOrigins 26 = .ok (.getfield 18, 3) := by decide +kernel
theorem dVe_fillOrigins_29 : decode cVe_fillOrigins 29 = .ok (.iastore, 1) := by decide +kernel
theorem dVe_fillOrigins_30 : decode cVe_fillOrigins 30 = .ok (.iinc 3 1, 3) := by decide +kernel
theorem dVe_fillOrigins_33 : decode cVe_fillOrigins 33 = .ok (.goto (-23), 3) := by decide +kernel
theorem dVe_fillOrigins_36 : decode cVe_fillOrigins 36 = .ok (.aload_n 0, 1) := by decide +kernel
theorem dVe_fillOrigins_37 : decode cVe_fillOrigins 37 = .ok (.getfield 18, 3) := by decide +kernel
theorem dVe_fillOrigins_40 : decode cVe_fillOrigins 40 = .ok (.ifCond .le 69, 3) := by decide +kernel
theorem dVe_fillOrigins_43 : decode cVe_fillOrigins 43 = .ok (.aload_n 0, 1) := by decide +kernel
theorem dVe_fillOrigins_44 : decode cVe_fillOrigins 44 = .ok (.getfield 31, 3) := by decide +kernel
theorem dVe_fillOrigins_47 : decode cVe_fillOrigins 47 = .ok (.aload_n 0, 1) := by decide +kernel
theorem dVe_fillOrigins_48 : decode cVe_fillOrigins 48 = .ok (.getfield 27, 3) := by decide +kernel
theorem dVe_fillOrigins_51 : decode cVe_fillOrigins 51 = .ok (.aload_n 1, 1) := by decide +kernel
theorem dVe_fillOrigins_52 : decode cVe_fillOrigins 52 = .ok (.invokevirtual 43, 3) := by decide +kernel
theorem dVe_fillOrigins_55 : decode cVe_fillOrigins 55 = .ok (.iconst 0, 1) := by decide +kernel
theorem dVe_fillOrigins_56 : decode cVe_fillOrigins 56 = .ok (.istore_n 3, 1) := by decide +kernel
theorem dVe_fillOrigins_57 : decode cVe_fillOrigins 57 = .ok (.iload_n 3, 1) := by decide +kernel
theorem dVe_fillOrigins_58 : decode cVe_fillOrigins 58 = .ok (.aload_n 0, 1) := by decide +kernel
theorem dVe_fillOrigins_59 : decode cVe_fillOrigins 59 = .ok (.getfield 31, 3) := by decide +kernel
theorem dVe_fillOrigins_62 : decode cVe_fillOrigins 62 = .ok (.getfield 49, 3) := by decide +kernel
theorem dVe_fillOrigins_65 : decode cVe_fillOrigins 65 = .ok (.if_icmp .ge 44, 3) := by decide +kernel
theorem dVe_fillOrigins_68 : decode cVe_fillOrigins 68 = .ok (.aload_n 0, 1) := by decide +kernel
theorem dVe_fillOrigins_69 : decode cVe_fillOrigins 69 = .ok (.getfield 15, 3) := by decide +kernel
theorem dVe_fillOrigins_72 : decode cVe_fillOrigins 72 = .ok (.iload_n 2, 1) := by decide +kernel
theorem dVe_fillOrigins_73 : decode cVe_fillOrigins 73 = .ok (.aload_n 0, 1) := by decide +kernel
theorem dVe_fillOrigins_74 : decode cVe_fillOrigins 74 = .ok (.getfield 31, 3) := by decide +kernel
theorem dVe_fillOrigins_77 : decode cVe_fillOrigins 77 = .ok (.getfield 50, 3) := by decide +kernel
theorem dVe_fillOrigins_80 : decode cVe_fillOrigins 80 = .ok (.iload_n 3, 1) := by decide +kernel
theorem dVe_fillOrigins_81 : decode cVe_fillOrigins 81 = .ok (.iaload, 1) := by decide +kernel
theorem dVe_fillOrigins_82 : decode cVe_fillOrigins 82 = .ok (.iadd, 1) := by decide +kernel
theorem dVe_fillOrigins_83 : decode cVe_fillOrigins 83 = .ok (.aload_n 0, 1) := by decide +kernel
theorem dVe_fillOrigins_84 : decode cVe_fillOrigins 84 = .ok (.getfield 15, 3) := by decide +kernel
theorem dVe_fillOrigins_87 : decode cVe_fillOrigins 87 = .ok (.iload_n 2, 1) := by decide +kernel
theorem dVe_fillOrigins_88 : decode cVe_fillOrigins 88 = .ok (.bipush 60, 2) := by decide +kernel
theorem dVe_fillOrigins_90 : decode cVe_fillOrigins 90 = .ok (.isub, 1) := by decide +kernel
theorem dVe_fillOrigins_91 : decode cVe_fillOrigins 91 = .ok (.aload_n 0, 1) := by decide +kernel
theorem dVe_fillOrigins_92 : decode cVe_fillOrigins 92 = .ok (.getfield 31, 3) := by decide +kernel
theorem dVe_fillOrigins_95 : decode cVe_fillOrigins 95 = .ok (.getfield 53, 3) := by decide +kernel
theorem dVe_fillOrigins_98 : decode cVe_fillOrigins 98 = .ok (.iload_n 3, 1) := by decide +kernel
theorem dVe_fillOrigins_99 : decode cVe_fillOrigins 99 = .ok (.iaload, 1) := by decide +kernel
theorem dVe_fillOrigins_100 : decode cVe_fillOrigins 100 = .ok (.iadd, 1) := by decide +kernel
theorem dVe_fillOrigins_101 : decode cVe_fillOrigins 101 = .ok (.iaload, 1) := by decide +kernel
theorem dVe_fillOrigins_102 : decode cVe_fillOrigins 102 = .ok (.iastore, 1) := by decide +kernel
theorem dVe_fillOrigins_103 : decode cVe_fillOrigins 103 = .ok (.iinc 3 1, 3) := by decide +kernel
theorem dVe_fillOrigins_106 : decode cVe_fillOrigins 106 = .ok (.goto (-49), 3) := by decide +kernel
theorem dVe_fillOrigins_109 : decode cVe_fillOrigins 109 = .ok (.return_, 1) := by decide +kernel
end
section
/-! PURE ROWS: lists behind arrays, parts of lists -/
/-- the array's first places hold the list -/
def rp (f : Nat → Int32) (xs : List Int32) : Prop := ∀ i, i < xs.length → f i = xs.getD i 0
theorem rp_nil (f : Nat → Int32) : rp f [] := fun i h => absurd h (Nat.not_lt_zero i)
theorem rp_snoc {f : Nat → Int32} {xs : List Int32} (h : rp f xs) (v : Int32) : rp (upd f xs.length v) (xs ++ [v]) := by
  intro i hi
  rw [List.length_append, List.length_singleton] at hi
  by_cases e : i = xs.length
  · subst e
    rw [pk_us]
    simp
  · rw [pk_un e, h i (by omega)]
    simp only [List.getD_eq_getElem?_getD]
    rw [List.getElem?_append_left (by omega)]
theorem rp_congr {f f1 : Nat → Int32} {xs : List Int32} (h : rp f xs) (e : ∀ i, i < xs.length → f1 i = f i) : rp f1 xs := fun i hi => by rw [e i hi]; exact h i hi
/-- the lines from i to ahead of j -/
def pt (xs : List Int32) (i j : Nat) : List Int32 := (xs.drop i).take (j - i)
theorem pt_self (xs : List Int32) (i : Nat) : pt xs i i = [] := by simp [pt]
theorem pt_len {xs : List Int32} {i j : Nat} (hj : j ≤ xs.length) : (pt xs i j).length = j - i := by
  simp only [pt, List.length_take, List.length_drop]
  omega
theorem pt_snoc {xs : List Int32} {i k : Nat} (h : i ≤ k) (hk : k < xs.length) : pt xs i (k + 1) = pt xs i k ++ [xs.getD k 0] := by
  have e : k + 1 - i = (k - i) + 1 := by omega
  have h2 : (xs.drop i)[k - i]? = some (xs.getD k 0) := by
    rw [List.getElem?_drop, show i + (k - i) = k by omega]
    simp [hk]
  rw [pt, pt, e, List.take_add_one, h2]
  rfl
theorem pt_all (xs : List Int32) : pt xs 0 xs.length = xs := by simp [pt]
theorem pt_get {xs : List Int32} {i j k : Nat} (hj : j ≤ xs.length) (hk : k < j - i) : (pt xs i j).getD k 0 = xs.getD (i + k) 0 := by
  simp only [pt, List.getD_eq_getElem?_getD]
  rw [List.getElem?_take_of_lt hk, List.getElem?_drop]
/-- two lists are the same if their places are -/
theorem l_ext0 {xs ys : List Int32} (hl : xs.length = ys.length) (h : ∀ i, i < xs.length → xs.getD i 0 = ys.getD i 0) : xs = ys := by
  refine List.ext_getElem hl (fun i h1 h2 => ?_)
  have := h i h1
  simpa [List.getD_eq_getElem?_getD, h1, h2] using this
end
section
/-! MY WORLD: a map from addresses to cells. A method gets the whole map and hands back a whole map; what it left alone its post says by 'g1 q = g q'. -/
section HWA
variable {D : va_G} {cl : List vw_C} {A B : Nat → Prop} {g g1 : Nat → Option va_E} {H H0 H1 : Heap} {a b sz : Nat} {x y : va_E} {locs : List Loc}
/-- the world as a map: what lies at an address -/
def hw (D : va_G) (cl : List vw_C) (A : Nat → Prop) (g : Nat → Option va_E) (H : Heap) : Prop := ∀ (a : Nat) (x : va_E), g a = some x → va_at D cl (a, x) H ∧ A a
/-- one cell is set -/
def hs (g : Nat → Option va_E) (a : Nat) (x : va_E) : Nat → Option va_E := fun q => if q = a then some x else g q
theorem hs_s (g : Nat → Option va_E) (a : Nat) (x : va_E) : hs g a x a = some x := if_pos rfl
theorem hs_n (g : Nat → Option va_E) {a b : Nat} (x : va_E) (h : b ≠ a) : hs g a x b = g b := if_neg h
/-- which cells a method may change: those of its world, and those that it makes -/
def hA (g : Nat → Option va_E) (sz : Nat) : Nat → Prop := fun q => (∃ x, g q = some x) ∨ sz ≤ q
theorem hw.P (h : hw D cl A g H) (he : g a = some x) : va_P D cl [(a, x)] H := fun k q hk => by
  match k, hk with
  | 0, hk => cases hk; exact (h a x he).1
  | k + 1, hk => simp at hk
theorem hw.weaken (h : hw D cl A g H) (hAB : ∀ q, A q → B q) : hw D cl B g H := fun a x he => ⟨(h a x he).1, hAB _ (h a x he).2⟩
theorem hw.self (h : hw D cl A g H) : hw D cl (hA g sz) g H := fun a x he => ⟨(h a x he).1, Or.inl ⟨x, he⟩⟩
theorem hw.lt (h : hw D cl A g H) (he : g a = some x) : a < H.size := (h a x he).1.lt
theorem hA.sub (h : hw D cl A g H) (hS : va_S A H0 H locs) (hA0 : ∀ q, H0.size ≤ q → A q) : ∀ q, hA g H.size q → A q := fun q hq => by
  rcases hq with ⟨x, hx⟩ | hq
  · exact (h q x hx).2
  · exact hA0 q (Nat.le_trans hS.1 hq)
/-- the same world as a pool, for the kit's rows -/
def hL (g : Nat → Option va_E) (n : Nat) : List Nat := (List.range n).filter (fun q => (g q).isSome)
def hf (g : Nat → Option va_E) : Nat → va_E := fun q => (g q).getD (.inr (0, []))
theorem hL_mem (h : hw D cl A g H) (he : g a = some x) : a ∈ hL g H.size := List.mem_filter.mpr ⟨List.mem_range.mpr (h.lt he), by rw [he]; rfl⟩
theorem hf_at (he : g a = some x) : hf g a = x := by simp [hf, he]
theorem hL_get {n k : Nat} {q : Nat × va_E} (hk : ([] ++ va_pl (hL g n) (hf g))[k]? = some q) : (hL g n)[k]? = some q.1 ∧ g q.1 = some q.2 := by
  simp only [List.nil_append, va_pl, List.getElem?_map] at hk
  cases hq : (hL g n)[k]? with
  | none => rw [hq] at hk; cases hk
  | some u =>
    rw [hq] at hk
    cases hk
    obtain ⟨z, hz⟩ := Option.isSome_iff_exists.mp (List.mem_filter.mp (List.mem_of_getElem? hq)).2
    exact ⟨rfl, by show g u = some (hf g u); rw [hf_at hz]; exact hz⟩
theorem hw.pP (h : hw D cl A g H) : va_P D cl ([] ++ va_pl (hL g H.size) (hf g)) H := fun k q hk => (h q.1 q.2 (hL_get hk).2).1
theorem hw.pD (h : hw D cl A g H) : va_D A ([] ++ va_pl (hL g H.size) (hf g)) := by
  refine ⟨fun i j u v hi hj huv => ?_, fun k q hk => (h q.1 q.2 (hL_get hk).2).2⟩
  have h1 := (hL_get hi).1
  have h2 := (hL_get hj).1
  rw [huv] at h1
  have hnd : (hL g H.size).Nodup := List.Pairwise.filter _ List.nodup_range
  exact (List.getElem?_inj (List.getElem?_eq_some_iff.mp h1).1 hnd).mp (h1.trans h2.symm)
theorem hw.ix (h : hw D cl A g H) (he : g a = some x) : ∃ k : Nat, ([] ++ va_pl (hL g H.size) (hf g))[k]? = some (a, x) := by
  obtain ⟨k, hk⟩ := va_pl_get (X := []) (f := hf g) (hL_mem h he)
  exact ⟨k, by rw [hf_at he] at hk; exact hk⟩
theorem hw.ofSet (h : hw D cl A g H) (he : g a = some x) {k : Nat} (hk : ([] ++ va_pl (hL g H.size) (hf g))[k]? = some (a, x)) (hP : va_P D cl (([] ++ va_pl (hL g H.size) (hf g)).set k (a, y)) H1) : hw D cl A (hs g a y) H1 := by
  rw [va_pl_set h.pD (hL_mem h he) (by rw [hf_at he]; exact hk)] at hP
  intro b z hb
  by_cases e : b = a
  · subst e
    rw [hs_s] at hb
    cases hb
    obtain ⟨j, hj⟩ := va_pl_get (X := []) (f := va_up (hf g) b y) (hL_mem h he)
    rw [va_up_self] at hj
    exact ⟨hP j _ hj, (h b x he).2⟩
  · rw [hs_n g y e] at hb
    obtain ⟨j, hj⟩ := va_pl_get (X := []) (f := va_up (hf g) a y) (hL_mem h hb)
    rw [va_up_ne _ _ e, hf_at hb] at hj
    exact ⟨hP j _ hj, (h b z hb).2⟩
theorem hw.ofPush (h : hw D cl A g H) {q : Nat} (hP : va_P D cl (([] ++ va_pl (hL g H.size) (hf g)) ++ [(q, y)]) H1) (hD : va_D A (([] ++ va_pl (hL g H.size) (hf g)) ++ [(q, y)])) : hw D cl A (hs g q y) H1 ∧ g q = none := by
  have hq : q ∉ hL g H.size := va_pl_fresh2 hD
  have hn : g q = none := by
    cases e : g q with
    | none => rfl
    | some z => exact absurd (hL_mem h e) hq
  have hlast : (([] ++ va_pl (hL g H.size) (hf g)) ++ [(q, y)])[([] ++ va_pl (hL g H.size) (hf g)).length]? = some (q, y) := by
    rw [List.getElem?_append_right (Nat.le_refl _), Nat.sub_self]; rfl
  refine ⟨fun b z hb => ?_, hn⟩
  by_cases e : b = q
  · subst e
    rw [hs_s] at hb
    cases hb
    exact ⟨hP _ _ hlast, hD.2 _ _ hlast⟩
  · rw [hs_n g y e] at hb
    obtain ⟨j, hj⟩ := h.ix hb
    have hj2 : (([] ++ va_pl (hL g H.size) (hf g)) ++ [(q, y)])[j]? = some (b, z) := by
      rw [List.getElem?_append_left (List.getElem?_eq_some_iff.mp hj).1]; exact hj
    exact ⟨hP _ _ hj2, hD.2 _ _ hj2⟩
/-- different cells lie apart -/
theorem h_ne (ha : g a = some x) (hb : g b = some y) (h : x ≠ y) : a ≠ b := fun e => h (by subst e; exact Option.some.inj (ha.symm.trans hb))
/-- only the cells of S have changed -/
def hfr (g g1 : Nat → Option va_E) (S : List Nat) : Prop := ∀ q, q ∉ S → g1 q = g q
theorem hfr.rf {S : List Nat} : hfr g g S := fun _ _ => rfl
theorem hfr.put {g2 : Nat → Option va_E} {S : List Nat} (h : hfr g g1 S) (e : g2 = hs g1 a x) (ha : a ∈ S) : hfr g g2 S := fun q hq => by
  rw [e, hs_n _ _ (fun z => hq (by rw [z]; exact ha))]
  exact h q hq
theorem hfr.call {g2 : Nat → Option va_E} {S S1 : List Nat} (h : hfr g g1 S) (h2 : hfr g1 g2 S1) (hS : ∀ q ∈ S1, q ∈ S) : hfr g g2 S := fun q hq => by
  rw [h2 q (fun z => hq (hS q z))]
  exact h q hq
theorem hfr.at {S : List Nat} (h : hfr g g1 S) (hb : b ∉ S) (he : g b = some x) : g1 b = some x := by rw [h b hb]; exact he
theorem h_nm {S : List Nat} (h : a ≠ b) (h2 : a ∉ S) : a ∉ b :: S := fun z => (List.mem_cons.mp z).elim h h2
theorem h_n0 : a ∉ ([] : List Nat) := List.not_mem_nil
end HWA
section HWR
variable {p : Program} {l : Launch} {e : Env} {R : Room} {s : State} {m : MethodId} {args : Array Value} {below : List Frame} {meth : Method} {c : Code} {H : Heap} {locs : List Loc} {cells slots : Nat} {Q : State → Prop}
variable {cc : ByteArray} {pc nL : Nat} {ls : Array Slot} {rest : List Value} {D : va_G} {A : Nat → Prop} {a : Nat} {tys : List (ClassId × FieldType)} {H0 : Heap} {own : String} {g : Nat → Option va_E}
theorem hw_get (S0 : CallFix p m c cc nL s args hB own) (hK : va_K D hC tys s) (hg : hw D hC A g H) {ref C : String} {T : u_T} {N ci index : Nat} {fs : List Value} (he : g a = some (.inr (ci, fs))) (hc : hC[ci]? = some (C, T, N)) (hin : ∀ w ∈ u_ws C T N, w ∈ hB) (k : Nat) (hk : k < N) (hlink : Cond.fieldLink own index ref (T k).2.1 (T k).2.2.1 ∈ hB) (hsame : (T k).1 = ref) {v : Value} (hv : fs[k]? = some v) (hdg : decode cc pc = .ok (.getfield index, 3))
    (kk : W p l e R s m args below meth c H locs cells slots Q (F0 m (pc + 3) ls (v :: rest))) : W p l e R s m args below meth c H locs cells slots Q (F0 m pc ls (.ref a :: rest)) :=
  va_get S0.1 S0.2.1 S0.2.2.2.2 hin S0.2.2.2.1 hK (hg.P he) 0 rfl hc k hk (S0.2.2.2.2 _ hlink) (fun x h => by rw [← hsame]; exact h) hv hdg kk
theorem hw_put (S0 : CallFix p m c cc nL s args hB own) (hK : va_K D hC tys s) (hg : hw D hC A g H) (hS : va_S A H0 H locs) {ref C : String} {T : u_T} {N ci index : Nat} {fs : List Value} (he : g a = some (.inr (ci, fs))) (hc : hC[ci]? = some (C, T, N)) (hin : ∀ w ∈ u_ws C T N, w ∈ hB) (ty0 : Nat → FieldType) (hty : ∀ k, k < N → parseFieldDescriptor (T k).2.2.1 = some (ty0 k)) (hnm : ∀ a, a < N → ∀ b, b < N → a ≠ b → (T a).2.1 ≠ (T b).2.1)
    (k : Nat) (hk : k < N) (hlink : Cond.fieldLink own index ref (T k).2.1 (T k).2.2.1 ∈ hB) (hsame : (T k).1 = ref) (hfin : (T k).2.2.2 = false) {v : Value} (hn : narrow (ty0 k) v = v) (hfit : fits (ty0 k) v = true) (hl : k < fs.length) (hdg : decode cc pc = .ok (.putfield index, 3))
    (kk : ∀ (H1 : Heap) (locs1 : List Loc), hw D hC A (hs g a (.inr (ci, fs.set k v))) H1 → va_S A H0 H1 locs1 → W p l e R s m args below meth c H1 locs1 cells slots Q (F0 m (pc + 3) ls rest)) : W p l e R s m args below meth c H locs cells slots Q (F0 m pc ls (v :: .ref a :: rest)) := by
  obtain ⟨q0, hq0⟩ := hg.ix he
  exact va_put S0.1 S0.2.1 S0.2.2.2.2 hin ty0 hty hnm S0.2.2.2.1 hK hg.pP hg.pD hS q0 hq0 hc k hk (S0.2.2.2.2 _ hlink) (fun x h => by rw [← hsame]; exact h) hfin (hty k hk) hn hfit hl hdg (fun H1 locs1 hP hD hS1 => kk H1 locs1 (hg.ofSet he hq0 hP) hS1)
theorem hw_putF (S0 : CallFix p m c cc nL s args hB own) (hK : va_K D hC tys s) (hg : hw D hC A g H) (hS : va_S A H0 H locs) {ref C : String} {T : u_T} {N ci index : Nat} {fs : List Value} (he : g a = some (.inr (ci, fs))) (hc : hC[ci]? = some (C, T, N)) (hin : ∀ w ∈ u_ws C T N, w ∈ hB) (ty0 : Nat → FieldType) (hty : ∀ k, k < N → parseFieldDescriptor (T k).2.2.1 = some (ty0 k)) (hnm : ∀ a, a < N → ∀ b, b < N → a ≠ b → (T a).2.1 ≠ (T b).2.1)
    (k : Nat) (hk : k < N) (hlink : Cond.fieldLink own index ref (T k).2.1 (T k).2.2.1 ∈ hB) (hsame : (T k).1 = ref) (hfin : (T k).2.2.2 = true) (hini : meth.name = "<init>") (hdecl : (T k).1 = own) {v : Value} (hn : narrow (ty0 k) v = v) (hfit : fits (ty0 k) v = true) (hl : k < fs.length) (hdg : decode cc pc = .ok (.putfield index, 3))
    (kk : ∀ (H1 : Heap) (locs1 : List Loc), hw D hC A (hs g a (.inr (ci, fs.set k v))) H1 → va_S A H0 H1 locs1 → W p l e R s m args below meth c H1 locs1 cells slots Q (F0 m (pc + 3) ls rest)) : W p l e R s m args below meth c H locs cells slots Q (F0 m pc ls (v :: .ref a :: rest)) := by
  obtain ⟨q0, hq0⟩ := hg.ix he
  exact va_putF S0.1 S0.2.1 S0.2.2.2.2 hin ty0 hty hnm S0.2.2.2.1 hK hg.pP hg.pD hS q0 hq0 hc k hk (S0.2.2.2.2 _ hlink) (fun x h => by rw [← hsame]; exact h) hfin hini hdecl (hty k hk) hn hfit hl hdg (fun H1 locs1 hP hD hS1 => kk H1 locs1 (hg.ofSet he hq0 hP) hS1)
theorem hw_iald (S0 : CallFix p m c cc nL s args hB own) (hK : va_K D hC tys s) (hg : hw D hC A g H) {cA : ClassId} {n : Nat} {f : Nat → Int32} (he : g a = some (.inl (cA, n, .inl f))) (t0 : Nat) (ht : tys[t0]? = some (cA, .int)) {i : Nat} (hi : i < n) (hn : n < 2 ^ 31) (hdg : decode cc pc = .ok (.iaload, 1))
    (kk : W p l e R s m args below meth c H locs cells slots Q (F0 m (pc + 1) ls (.int (f i) :: rest))) : W p l e R s m args below meth c H locs cells slots Q (F0 m pc ls (.int (nI i) :: .ref a :: rest)) :=
  va_iald S0.1 S0.2.1 hK (hg.P he) 0 t0 rfl ht (vp_in_nI hi hn) hdg (by rw [nI_clamp (by omega)]; exact kk)
theorem hw_iast (S0 : CallFix p m c cc nL s args hB own) (hK : va_K D hC tys s) (hg : hw D hC A g H) (hS : va_S A H0 H locs) {cA : ClassId} {n : Nat} {f : Nat → Int32} (he : g a = some (.inl (cA, n, .inl f))) (t0 : Nat) (ht : tys[t0]? = some (cA, .int)) {i : Nat} {v : Int32} (hi : i < n) (hn : n < 2 ^ 31) (hdg : decode cc pc = .ok (.iastore, 1))
    (kk : ∀ (H1 : Heap) (locs1 : List Loc), hw D hC A (hs g a (.inl (cA, n, .inl (upd f i v)))) H1 → va_S A H0 H1 locs1 → W p l e R s m args below meth c H1 locs1 cells slots Q (F0 m (pc + 1) ls rest)) : W p l e R s m args below meth c H locs cells slots Q (F0 m pc ls (.int v :: .int (nI i) :: .ref a :: rest)) := by
  obtain ⟨q0, hq0⟩ := hg.ix he
  refine va_iast S0.1 S0.2.1 hK hg.pP hg.pD hS q0 t0 hq0 ht (vp_in_nI hi hn) hdg (fun H1 locs1 hP hD hS1 => ?_)
  rw [nI_clamp (by omega)] at hP
  exact kk H1 locs1 (hg.ofSet he hq0 hP) hS1
theorem hw_lald (S0 : CallFix p m c cc nL s args hB own) (hK : va_K D hC tys s) (hg : hw D hC A g H) {cA : ClassId} {n : Nat} {f : Nat → Int64} (he : g a = some (.inl (cA, n, .inr (.inl f)))) (t0 : Nat) (ht : tys[t0]? = some (cA, .long)) {i : Nat} (hi : i < n) (hn : n < 2 ^ 31) (hdg : decode cc pc = .ok (.laload, 1))
    (kk : W p l e R s m args below meth c H locs cells slots Q (F0 m (pc + 1) ls (.long (f i) :: rest))) : W p l e R s m args below meth c H locs cells slots Q (F0 m pc ls (.int (nI i) :: .ref a :: rest)) :=
  va_lald S0.1 S0.2.1 hK (hg.P he) 0 t0 rfl ht (vp_in_nI hi hn) hdg (by rw [nI_clamp (by omega)]; exact kk)
theorem hw_last (S0 : CallFix p m c cc nL s args hB own) (hK : va_K D hC tys s) (hg : hw D hC A g H) (hS : va_S A H0 H locs) {cA : ClassId} {n : Nat} {f : Nat → Int64} (he : g a = some (.inl (cA, n, .inr (.inl f)))) (t0 : Nat) (ht : tys[t0]? = some (cA, .long)) {i : Nat} {v : Int64} (hi : i < n) (hn : n < 2 ^ 31) (hdg : decode cc pc = .ok (.lastore, 1))
    (kk : ∀ (H1 : Heap) (locs1 : List Loc), hw D hC A (hs g a (.inl (cA, n, .inr (.inl (vp_updL f i v))))) H1 → va_S A H0 H1 locs1 → W p l e R s m args below meth c H1 locs1 cells slots Q (F0 m (pc + 1) ls rest)) : W p l e R s m args below meth c H locs cells slots Q (F0 m pc ls (.long v :: .int (nI i) :: .ref a :: rest)) := by
  obtain ⟨q0, hq0⟩ := hg.ix he
  refine va_last S0.1 S0.2.1 hK hg.pP hg.pD hS q0 t0 hq0 ht (vp_in_nI hi hn) hdg (fun H1 locs1 hP hD hS1 => ?_)
  rw [nI_clamp (by omega)] at hP
  exact kk H1 locs1 (hg.ofSet he hq0 hP) hS1
theorem hw_alen (S0 : CallFix p m c cc nL s args hB own) (hK : va_K D hC tys s) (hg : hw D hC A g H) {cA : ClassId} {x : vp_A} (he : g a = some (.inl (cA, x))) (t0 : Nat) {ty : FieldType} (ht : tys[t0]? = some (cA, ty)) (hdg : decode cc pc = .ok (.arraylength, 1))
    (kk : W p l e R s m args below meth c H locs cells slots Q (F0 m (pc + 1) ls (.int (nI x.1) :: rest))) : W p l e R s m args below meth c H locs cells slots Q (F0 m pc ls (.ref a :: rest)) :=
  va_alen S0.1 S0.2.1 hK (hg.P he) 0 t0 rfl ht (v := nI x.1) rfl hdg kk
theorem hw_aald (S0 : CallFix p m c cc nL s args hB own) (hK : va_K D hC tys s) (hg : hw D hC A g H) {cA : ClassId} {C : String} {n : Nat} {f : Nat → Option Nat} (he : g a = some (.inl (cA, n, .inr (.inr (.inr (.inr f)))))) (t0 : Nat) (ht : tys[t0]? = some (cA, .object C)) {i b : Nat} (hi : i < n) (hn : n < 2 ^ 31) (hf : f i = some b) (hdg : decode cc pc = .ok (.aaload, 1))
    (kk : W p l e R s m args below meth c H locs cells slots Q (F0 m (pc + 1) ls (.ref b :: rest))) : W p l e R s m args below meth c H locs cells slots Q (F0 m pc ls (.int (nI i) :: .ref a :: rest)) :=
  va_aldq S0.1 S0.2.1 hK (hg.P he) 0 t0 rfl ht (vp_in_nI hi hn) hdg (by rw [nI_clamp (by omega), hf]; exact kk)
theorem hw_aast (S0 : CallFix p m c cc nL s args hB own) (hK : va_K D hC tys s) (hg : hw D hC A g H) (hS : va_S A H0 H locs) {cA : ClassId} {r : vw_C} {n v ci : Nat} {vs : List Value} {f : Nat → Option Nat} (he : g a = some (.inl (cA, n, .inr (.inr (.inr (.inr f)))))) (t0 : Nat) (ht : tys[t0]? = some (cA, .object r.1)) (hv : g v = some (.inr (ci, vs))) (hc : hC[ci]? = some r) {i : Nat} (hi : i < n) (hn : n < 2 ^ 31) (hdg : decode cc pc = .ok (.aastore, 1))
    (kk : ∀ (H1 : Heap) (locs1 : List Loc), hw D hC A (hs g a (.inl (cA, n, .inr (.inr (.inr (.inr (va_up f i (some v)))))))) H1 → va_S A H0 H1 locs1 → W p l e R s m args below meth c H1 locs1 cells slots Q (F0 m (pc + 1) ls rest)) : W p l e R s m args below meth c H locs cells slots Q (F0 m pc ls (.ref v :: .int (nI i) :: .ref a :: rest)) := by
  obtain ⟨q0, hq0⟩ := hg.ix he
  obtain ⟨q1, hq1⟩ := hg.ix hv
  refine va_astq S0.1 S0.2.1 hK hg.pP hg.pD hS q0 t0 q1 ci hq0 ht hq1 hc (vp_in_nI hi hn) hdg (fun H1 locs1 hP hD hS1 => ?_)
  rw [nI_clamp (by omega)] at hP
  exact kk H1 locs1 (hg.ofSet he hq0 hP) hS1
theorem hw_new (S0 : CallFix p m c cc nL s args hB own) (hK : va_K D hC tys s) (hg : hw D hC A g H) (hS : va_S A H0 H locs) (hA0 : ∀ q, H0.size ≤ q → A q) {C : String} {T : u_T} {N ci index : Nat} (hc : hC[ci]? = some (C, T, N)) (hin : ∀ w ∈ u_ws C T N, w ∈ hB) (ty0 : Nat → FieldType) (hty : ∀ k, k < N → parseFieldDescriptor (T k).2.2.1 = some (ty0 k)) (hcl : Cond.classLink own index C ∈ hB) (hinst : Cond.instantiable C N ∈ hB) (hini : Cond.initialized C ∈ hB)
    {fs : List Value} (hfs : ∀ j, j < N → defaultValue (ty0 j) = vp_V fs j) (hcells : cells + 1 ≤ R.cells) (hslots : slots + N ≤ R.slots) (hdg : decode cc pc = .ok (.new index, 3))
    (kk : ∀ (q : Nat) (H1 : Heap), g q = none → hw D hC A (hs g q (.inr (ci, fs))) H1 → va_S A H0 H1 locs → W p l e R s m args below meth c H1 locs (cells + 1) (slots + N) Q (F0 m (pc + 3) ls (.ref q :: rest))) : W p l e R s m args below meth c H locs cells slots Q (F0 m pc ls rest) :=
  va_new S0.1 S0.2.1 S0.2.2.2.2 hin ty0 hty S0.2.2.2.1 (S0.2.2.2.2 _ hcl) (S0.2.2.2.2 _ hinst) (S0.2.2.2.2 _ hini) hK hg.pP hg.pD hS hA0 hc hfs hcells hslots hdg (fun q H1 hP hD hS1 => kk q H1 (hg.ofPush hP hD).2 (hg.ofPush hP hD).1 hS1)
/-- an array of a primitive type: its class is the one that the world knows -/
theorem hw_newa (S0 : CallFix p m c cc nL s args hB own) (hK : va_K D hC tys s) (hg : hw D hC A g H) (hS : va_S A H0 H locs) (hA0 : ∀ q, H0.size ≤ q → A q) {atype : ArrayType} {ty : FieldType} (hty : newarray.typeOf atype = ty) (harr : Cond.arrayClass ty ∈ hB) {cI : ClassId} (t0 : Nat) (ht : tys[t0]? = some (cI, ty)) (hob : ∀ C, ty ≠ .object C)
    {n : Nat} {a0 : vp_A} (ha : ∀ cA : ClassId, vp_cell cA a0 = arrV cA n (fun _ => defaultValue ty)) (hn : n < 2 ^ 31) (hbytes : n * componentBytes ty ≤ 536870912) (hcells : cells + 1 ≤ R.cells) (hslots : slots + n ≤ R.slots) (hdg : decode cc pc = .ok (.newarray atype, 2))
    (kk : ∀ (q : Nat) (H1 : Heap), g q = none → hw D hC A (hs g q (.inl (cI, a0))) H1 → va_S A H0 H1 locs → W p l e R s m args below meth c H1 locs (cells + 1) (slots + n) Q (F0 m (pc + 2) ls (.ref q :: rest))) : W p l e R s m args below meth c H locs cells slots Q (F0 m pc ls (.int (nI n) :: rest)) := by
  refine va_newa S0.1 S0.2.1 (by rw [hty]; exact S0.2.2.2.2 _ harr) hty hK hg.pP hg.pD hS hA0 ha (nI_pos hn) (nI_clamp hn) hbytes hcells hslots hdg (fun q cA H1 hK1 hP hD hS1 => ?_)
  have h1 : va_RA s cA ty := (hK1.2 tys.length (cA, ty) (by rw [List.getElem?_append_right (Nat.le_refl _), Nat.sub_self]; rfl)).2
  have h2 : va_RA s cI ty := (hK.2 t0 _ ht).2
  have h3 : cA = cI := by
    cases ty with
    | object C => exact absurd rfl (hob C)
    | _ => exact Option.some.inj (Eq.trans (Eq.symm h1) h2)
  subst h3
  exact kk q H1 (hg.ofPush hP hD).2 (hg.ofPush hP hD).1 hS1
theorem hw_newq (S0 : CallFix p m c cc nL s args hB own) (hK : va_K D hC tys s) (hg : hw D hC A g H) (hS : va_S A H0 H locs) (hA0 : ∀ q, H0.size ≤ q → A q) {C : String} {index : Nat} (hclink : Cond.classLink own index C ∈ hB) (hover : va_AO C s) {cR : ClassId} (t0 : Nat) (ht : tys[t0]? = some (cR, .object C))
    {n : Nat} (hn : n < 2 ^ 27) (hcells : cells + 1 ≤ R.cells) (hslots : slots + n ≤ R.slots) (hdg : decode cc pc = .ok (.anewarray index, 3))
    (kk : ∀ (q : Nat) (H1 : Heap), g q = none → hw D hC A (hs g q (.inl (cR, n, .inr (.inr (.inr (.inr (fun _ => none))))))) H1 → va_S A H0 H1 locs → W p l e R s m args below meth c H1 locs (cells + 1) (slots + n) Q (F0 m (pc + 3) ls (.ref q :: rest))) : W p l e R s m args below meth c H locs cells slots Q (F0 m pc ls (.int (nI n) :: rest)) := by
  refine va_newq S0.1 S0.2.1 S0.2.2.2.1 (S0.2.2.2.2 _ hclink) hover hK hg.pP hg.pD hS hA0 (nI_pos (by omega)) (nI_clamp (by omega)) (by omega) hcells hslots hdg (fun q cA H1 hK1 hP hD hS1 => ?_)
  obtain ⟨_, _, _, _, _, h1⟩ := (hK1.2 tys.length (cA, .object C) (by rw [List.getElem?_append_right (Nat.le_refl _), Nat.sub_self]; rfl)).2
  obtain ⟨_, _, _, _, _, h2⟩ := (hK.2 t0 _ ht).2
  have h3 : cA = cR := Option.some.inj (h1.symm.trans h2)
  subst h3
  exact kk q H1 (hg.ofPush hP hD).2 (hg.ofPush hP hD).1 hS1
/-- the top of the stack by another name -/
theorem hw_top {x : Int32} (y : Int32) (h : x = y) (k : W p l e R s m args below meth c H locs cells slots Q (F0 m pc ls (.int y :: rest))) : W p l e R s m args below meth c H locs cells slots Q (F0 m pc ls (.int x :: rest)) := by rw [h]; exact k
end HWR
section HWC
variable {p : Program} {l : Launch} {e : Env} {R : Room} {s : State} {m : MethodId} {args : Array Value} {below : List Frame} {meth : Method} {c : Code} {H : Heap} {locs : List Loc} {cells slots : Nat} {Q : State → Prop}
variable {cc bytes : ByteArray} {pc nL maxL index n mc ms sz : Nat} {ls : Array Slot} {rest st0 As av : List Value} {D : va_G} {A : Nat → Prop} {a b : Nat} {tys : List (ClassId × FieldType)} {H0 : Heap} {own : String} {g : Nat → Option va_E} {y : MethodName} {rm rk : Room} {ret : Option FieldType}
/-- a room: frames, words of locals, cells, slots -/
def hRm (f lo c s : Nat) : Room := { frames := f, cells := c, slots := s, locals := lo }
/-- the caller's room holds the callee's -/
def hRle (rm R : Room) : Prop := rm.frames ≤ R.frames ∧ rm.locals ≤ R.locals ∧ rm.cells ≤ R.cells ∧ rm.slots ≤ R.slots
theorem hRle.rf : hRle rm rm := ⟨Nat.le_refl _, Nat.le_refl _, Nat.le_refl _, Nat.le_refl _⟩
theorem hRle.call (h : hRle rm R) (h1 : (Nat.ble (rk.frames + 1) rm.frames && Nat.ble (8 + (maxL + 11) + rk.locals) rm.locals) = true) : rk.frames + 1 ≤ R.frames ∧ 8 + (maxL + 11) + rk.locals ≤ R.locals := by
  rw [Bool.and_eq_true] at h1
  exact ⟨Nat.le_trans (Nat.le_of_ble_eq_true h1.1) h.1, Nat.le_trans (Nat.le_of_ble_eq_true h1.2) h.2.1⟩
theorem hRle.new (h : hRle rm R) (h1 : cells + mc ≤ rm.cells) (h2 : slots + ms ≤ rm.slots) : cells + mc ≤ R.cells ∧ slots + ms ≤ R.slots := ⟨Nat.le_trans h1 h.2.2.1, Nat.le_trans h2 h.2.2.2⟩
theorem h_cwV (S0 : CallFix p m c cc nL s args hB own) (k : hcV y bytes maxL ret n) (hl : Cond.methodLink own index y ∈ hB) (hR : rk.frames + 1 ≤ R.frames ∧ 8 + (maxL + 11) + rk.locals ≤ R.locals) : CallW R s args own y.cls index y bytes maxL ret (Cond.code y bytes maxL ret :: hB) rk rk.cells rk.slots n := by
  obtain ⟨k1, k2, k3, k4, k5⟩ := k
  refine cwV n S0.2.2.2.2 ?_ rfl rfl rfl ⟨rfl, k3⟩ hR
  intro w hw
  rcases List.mem_append.mp (show w ∈ ([Cond.methodLink own index y, .instanceMethod y, .selects y.cls y y, .initialized y.cls] : List Cond) ++ (Cond.code y bytes maxL ret :: hB) from hw) with h | h
  · rcases List.mem_cons.mp h with rfl | h
    · exact hB_good _ hl
    · rcases List.mem_cons.mp h with rfl | h
      · exact hB_good _ k4
      · rcases List.mem_cons.mp h with rfl | h
        · exact hB_good _ k5
        · rcases List.mem_cons.mp h with rfl | h
          · exact hB_good _ k2
          · cases h
  · rcases List.mem_cons.mp h with rfl | h
    · exact hB_good _ k1
    · exact hB_good _ h
theorem h_codeG (h : Cond.code y bytes maxL ret ∈ hB) : GoodIn hB (Cond.code y bytes maxL ret :: hB) := fun w hw => (List.mem_cons.mp hw).elim (fun e => by rw [e]; exact hB_good _ h) (fun h => hB_good _ h)
theorem h_cwS (S0 : CallFix p m c cc nL s args hB own) (k : hcS y bytes maxL ret n) (hl : Cond.methodLink own index y ∈ hB) (hR : rk.frames + 1 ≤ R.frames ∧ 8 + (maxL + 11) + rk.locals ≤ R.locals) : CallB R s args own index y bytes maxL ret (Cond.code y bytes maxL ret :: hB) rk rk.cells rk.slots n ∧ (Cond.static y).before args s = true := by
  obtain ⟨k1, k2, k3, k4⟩ := k
  exact ⟨callB_of n S0.2.2.2.2 (h_codeG k1) rfl rfl rfl (S0.2.2.2.2 _ k2) (S0.2.2.2.2 _ hl) k3 hR, S0.2.2.2.2 _ k4⟩
theorem h_cwI (S0 : CallFix p m c cc nL s args hB own) (k : hcI y bytes maxL n) (hl : Cond.methodLink own index y ∈ hB) (hR : rk.frames + 1 ≤ R.frames ∧ 8 + (maxL + 11) + rk.locals ≤ R.locals) : CallB R s args own index y bytes maxL none (Cond.code y bytes maxL none :: hB) rk rk.cells rk.slots n ∧ y.name = "<init>" ∧ (Cond.instanceMethod y).before args s = true := by
  obtain ⟨k1, k2, k3, k4, k5⟩ := k
  exact ⟨callB_of n S0.2.2.2.2 (h_codeG k1) rfl rfl rfl (S0.2.2.2.2 _ k2) (S0.2.2.2.2 _ hl) k3 hR, k4, S0.2.2.2.2 _ k5⟩
/-- how a method begins -/
def hPre (D : va_G) (tys : List (ClassId × FieldType)) (g : Nat → Option va_E) (sz : Nat) : State → Prop := fun U => U.heap.size = sz ∧ hw D hC (fun _ => True) g U.heap ∧ va_K D hC tys U
/-- how it ends: the new map -/
def hPo (D : va_G) (tys : List (ClassId × FieldType)) (A : Nat → Prop) : (Nat → Option va_E) → State → Prop := fun g1 t => hw D hC A g1 t.heap ∧ va_K D hC tys t
def hPor (D : va_G) (tys : List (ClassId × FieldType)) (A : Nat → Prop) (post : Nat → (Nat → Option va_E) → Prop) : (Nat → Option va_E) → Nat → State → Prop := fun g1 r t => post r g1 ∧ hw D hC A g1 t.heap ∧ va_K D hC tys t
abbrev hMi (l : Launch) (y : MethodName) (cc : ByteArray) (maxL : Nat) (ty : FieldType) (rm : Room) (D : va_G) (tys : List (ClassId × FieldType)) (g : Nat → Option va_E) (sz : Nat) (av : List Value) (post : Int32 → (Nat → Option va_E) → Prop) : Prop := Met l y (Cond.code y cc maxL (some ty) :: hB) rm (va_Pc av (hPre D tys g sz)) (va_Qi post (hPo D tys (hA g sz)) (hA g sz)) rm.cells rm.slots (hA g sz)
abbrev hMv (l : Launch) (y : MethodName) (cc : ByteArray) (maxL : Nat) (rm : Room) (D : va_G) (tys : List (ClassId × FieldType)) (g : Nat → Option va_E) (sz : Nat) (av : List Value) (post : (Nat → Option va_E) → Prop) : Prop := Met l y (Cond.code y cc maxL none :: hB) rm (va_Pc av (hPre D tys g sz)) (va_Qv post (hPo D tys (hA g sz)) (hA g sz)) rm.cells rm.slots (hA g sz)
abbrev hMr (l : Launch) (y : MethodName) (cc : ByteArray) (maxL : Nat) (rt : FieldType) (rm : Room) (D : va_G) (tys : List (ClassId × FieldType)) (g : Nat → Option va_E) (sz : Nat) (av : List Value) (post : Nat → (Nat → Option va_E) → Prop) : Prop := Met l y (Cond.code y cc maxL (some rt) :: hB) rm (va_Pc av (hPre D tys g sz)) (va_Qr (fun _ => True) (hPor D tys (hA g sz) post) (hA g sz)) rm.cells rm.slots (hA g sz)
theorem hPre_blind : FrameBlind (va_Pc av (hPre D tys g sz)) := fun a U g9 mk q => by
  obtain ⟨q0, q1, q2, q3⟩ := q
  exact ⟨q0, q1, q2, va_K.moved (u := U) (U := U.calling g9 mk a) (Vm.Alike.refl U.vm) q3⟩
theorem hPre_at (hK : va_K D hC tys s) (hg : hw D hC A g H) : ∀ U : State, U.heap = H → s.WarmedH U.vm → va_Pc av (hPre D tys g H.size) av.toArray U := fun U hU hW => ⟨rfl, by rw [hU], by rw [hU]; exact hg.weaken (fun _ _ => trivial), va_K.moved hW.alike hK⟩
theorem hw_recv (hK : va_K D hC tys s) (hg : hw D hC A g H) {ci : Nat} {q : vw_C} {fs : List Value} (he : g a = some (.inr (ci, fs))) (hc : hC[ci]? = some q) : ∃ cell : Cell, H[a]? = some cell ∧ cell.vm.isStatics = false ∧ s.vm.findClass q.1 = some cell.cls := va_recv hK (hg.P he) hc (q0 := 0) rfl
/-- what a walk has from its entry on: the machine and the words, the world, and how it may return -/
abbrev hBody (l : Launch) (y : MethodName) (rm : Room) (D : va_G) (tys : List (ClassId × FieldType)) (g : Nat → Option va_E) (sz : Nat) (av : List Value) (cc : ByteArray) (maxL : Nat) (End : (Heap → List Loc → Nat → Nat → JFrame → Prop) → (MethodId → State → (Nat → Prop) → Prop)) : Prop :=
  ∀ (p : Program) (e : Env) (R : Room) (s : State) (m : MethodId) (args : Array Value) (below : List Frame) (meth : Method) (c : Code) (Q : State → Prop) (A : Nat → Prop), hRle rm R → CallFix p m c cc maxL s args hB y.cls → meth.name = y.name → s.heap.size = sz → hw D hC A g s.heap → va_K D hC tys s → va_S A s.heap s.heap [] → (∀ q, s.heap.size ≤ q → A q) →
    End (fun H locs cells slots fr => W p l e R s m args below meth c H locs cells slots Q fr) m s A → ∀ ls : Array Slot, lv_has ls maxL (lv_args 0 av) → W p l e R s m args below meth c s.heap [] 0 0 Q (F0 m 0 ls [])
/-- the ends: int or boolean, void, a reference -/
abbrev hEi (D : va_G) (cc : ByteArray) (ty : FieldType) (post : Int32 → (Nat → Option va_E) → Prop) (mc ms : Nat) : (Heap → List Loc → Nat → Nat → JFrame → Prop) → (MethodId → State → (Nat → Prop) → Prop) := fun Wd m s A =>
  ∀ (v : Int32) (g1 : Nat → Option va_E) (H : Heap) (locs : List Loc) (ls : Array Slot) (pc cells slots : Nat), cells ≤ mc → slots ≤ ms → narrow ty (.int v) = .int v → post v g1 → hw D hC A g1 H → va_S A s.heap H locs → decode cc pc = .ok (.ireturn, 1) → Wd H locs cells slots (F0 m pc ls [.int v])
abbrev hEv (D : va_G) (cc : ByteArray) (post : (Nat → Option va_E) → Prop) (mc ms : Nat) : (Heap → List Loc → Nat → Nat → JFrame → Prop) → (MethodId → State → (Nat → Prop) → Prop) := fun Wd m s A =>
  ∀ (g1 : Nat → Option va_E) (H : Heap) (locs : List Loc) (ls : Array Slot) (pc cells slots : Nat), cells ≤ mc → slots ≤ ms → post g1 → hw D hC A g1 H → va_S A s.heap H locs → decode cc pc = .ok (.return_, 1) → Wd H locs cells slots (F0 m pc ls [])
abbrev hEr (D : va_G) (cc : ByteArray) (post : Nat → (Nat → Option va_E) → Prop) (mc ms : Nat) : (Heap → List Loc → Nat → Nat → JFrame → Prop) → (MethodId → State → (Nat → Prop) → Prop) := fun Wd m s A =>
  ∀ (v : Nat) (g1 : Nat → Option va_E) (H : Heap) (locs : List Loc) (ls : Array Slot) (pc cells slots : Nat), cells ≤ mc → slots ≤ ms → post v g1 → hw D hC A g1 H → va_S A s.heap H locs → decode cc pc = .ok (.areturn, 1) → Wd H locs cells slots (F0 m pc ls [.ref v])
theorem hMi_of {ty : FieldType} {post : Int32 → (Nat → Option va_E) → Prop} (hy : plainName y.cls = true) (hlen : (lg_sl av).length ≤ maxL)
    (body : hBody l y rm D tys g sz av cc maxL (hEi D cc ty post rm.cells rm.slots)) : hMi l y cc maxL ty rm D tys g sz av post := by
  refine Met.ofW (cc := cc) (maxL := maxL) (ret := some ty) hy rfl ?_
  intro p e s m args below meth c s₁ B hml hv
  obtain ⟨rfl, hsz, hg, hK⟩ := hv
  have hts := atoms_spec (ws := Cond.code y cc maxL (some ty) :: hB) B.pre
  rw [lg_entry_eq]
  refine body p e rm s m _ below meth c _ (hA g sz) hRle.rf ⟨B.exec, B.bytes, hml, findClass_of_methodNamed B.named, fun w h => hts w (List.mem_cons_of_mem _ h)⟩ (name_of_methodNamed B.named B.method).1 hsz hg.self hK va_S.rf (fun q h => Or.inr (by rw [← hsz]; exact h)) ?_ _ (lv_entry av hlen)
  intro v g1 H locs ls pc cells slots hc hs hn hp hg1 hS hdg
  refine W.widen hc hs ?_
  exact W.zret B.exec B.bytes B.returns hn (fun t ht hW => ⟨⟨v, g1, rfl, hp, by rw [ht]; exact hg1, va_K.moved hW.alike hK⟩, hS.F ht⟩) hS.2.2 hdg B.notSynchronized
theorem hMv_of {post : (Nat → Option va_E) → Prop} (hy : plainName y.cls = true) (hlen : (lg_sl av).length ≤ maxL)
    (body : hBody l y rm D tys g sz av cc maxL (hEv D cc post rm.cells rm.slots)) : hMv l y cc maxL rm D tys g sz av post := by
  refine Met.ofW (cc := cc) (maxL := maxL) (ret := none) hy rfl ?_
  intro p e s m args below meth c s₁ B hml hv
  obtain ⟨rfl, hsz, hg, hK⟩ := hv
  have hts := atoms_spec (ws := Cond.code y cc maxL none :: hB) B.pre
  rw [lg_entry_eq]
  refine body p e rm s m _ below meth c _ (hA g sz) hRle.rf ⟨B.exec, B.bytes, hml, findClass_of_methodNamed B.named, fun w h => hts w (List.mem_cons_of_mem _ h)⟩ (name_of_methodNamed B.named B.method).1 hsz hg.self hK va_S.rf (fun q h => Or.inr (by rw [← hsz]; exact h)) ?_ _ (lv_entry av hlen)
  intro g1 H locs ls pc cells slots hc hs hp hg1 hS hdg
  refine W.widen hc hs ?_
  exact W.vret B.exec B.bytes B.returns (fun t ht hW => ⟨⟨g1, rfl, hp, by rw [ht]; exact hg1, va_K.moved hW.alike hK⟩, hS.F ht⟩) hS.2.2 hdg B.notSynchronized
theorem hMr_of {ty : FieldType} {post : Nat → (Nat → Option va_E) → Prop} (hy : plainName y.cls = true) (hrt : (∃ n, ty = .object n) ∨ ∃ t, ty = .array t) (hlen : (lg_sl av).length ≤ maxL)
    (body : hBody l y rm D tys g sz av cc maxL (hEr D cc post rm.cells rm.slots)) : hMr l y cc maxL ty rm D tys g sz av post := by
  refine Met.ofW (cc := cc) (maxL := maxL) (ret := some ty) hy rfl ?_
  intro p e s m args below meth c s₁ B hml hv
  obtain ⟨rfl, hsz, hg, hK⟩ := hv
  have hts := atoms_spec (ws := Cond.code y cc maxL (some ty) :: hB) B.pre
  rw [lg_entry_eq]
  refine body p e rm s m _ below meth c _ (hA g sz) hRle.rf ⟨B.exec, B.bytes, hml, findClass_of_methodNamed B.named, fun w h => hts w (List.mem_cons_of_mem _ h)⟩ (name_of_methodNamed B.named B.method).1 hsz hg.self hK va_S.rf (fun q h => Or.inr (by rw [← hsz]; exact h)) ?_ _ (lv_entry av hlen)
  intro v g1 H locs ls pc cells slots hc hs hp hg1 hS hdg
  refine W.widen hc hs ?_
  exact W.aret B.exec B.bytes B.returns hrt (Or.inr ⟨v, rfl⟩) (fun t ht hW => ⟨⟨g1, v, rfl, trivial, hp, by rw [ht]; exact hg1, va_K.moved hW.alike hK⟩, hS.F ht⟩) hS.2.2 hdg B.notSynchronized
/-! calls: an instance's method, a static one, a constructor -/
theorem hw_Vi {ty : FieldType} {post : Int32 → (Nat → Option va_E) → Prop} (S0 : CallFix p m c cc nL s args hB own) (hK : va_K D hC tys s) (hg : hw D hC A g H) (hS : va_S A H0 H locs) (hA0 : ∀ q, H0.size ≤ q → A q) {ci : Nat} {T : u_T} {N : Nat} {fs : List Value} (he : g b = some (.inr (ci, fs))) (hc : hC[ci]? = some (y.cls, T, N)) (hM : hMi l y bytes maxL ty rk D tys g H.size (.ref b :: As) post) (kd : hcV y bytes maxL (some ty) n) (hl : Cond.methodLink own index y ∈ hB) (hR : rk.frames + 1 ≤ R.frames ∧ 8 + (maxL + 11) + rk.locals ≤ R.locals)
    (hn : As.length = n) (hsize : ls.size = nL) (hst : st0 = As.reverse ++ .ref b :: rest) (hW : (rest.map fun v => v.category).sum ≤ 8) (hdg : decode cc pc = .ok (.invokevirtual index, 3)) (hf : cells + rk.cells ≤ R.cells ∧ slots + rk.slots ≤ R.slots)
    (kk : ∀ (r : Int32) (g1 : Nat → Option va_E) (H1 : Heap) (locs1 : List Loc), post r g1 → hw D hC A g1 H1 → va_S A H0 H1 locs1 → W p l e R s m args below meth c H1 locs1 (cells + rk.cells) (slots + rk.slots) Q (F0 m (pc + 3) ls (.int r :: rest))) : W p l e R s m args below meth c H locs cells slots Q (F0 m pc ls st0) :=
  va_calli (va_runV (As := As) (rest := rest) S0 hM (h_cwV S0 kd hl hR) ⟨hPre_blind, hw_recv hK hg he hc, hPre_at hK hg⟩ rfl hn hsize hst (lv_room hW) hdg hf) hS (fun q _ h => hA.sub hg hS hA0 q h) (hA.sub hg hS hA0)
    (fun r u t H1 locs1 ht hvm hp hB1 hz hk hS1 => kk r u H1 locs1 hp (by rw [← ht]; exact hB1.1.weaken (hA.sub hg hS hA0)) hS1)
theorem hw_Vv {post : (Nat → Option va_E) → Prop} (S0 : CallFix p m c cc nL s args hB own) (hK : va_K D hC tys s) (hg : hw D hC A g H) (hS : va_S A H0 H locs) (hA0 : ∀ q, H0.size ≤ q → A q) {ci : Nat} {T : u_T} {N : Nat} {fs : List Value} (he : g b = some (.inr (ci, fs))) (hc : hC[ci]? = some (y.cls, T, N)) (hM : hMv l y bytes maxL rk D tys g H.size (.ref b :: As) post) (kd : hcV y bytes maxL none n) (hl : Cond.methodLink own index y ∈ hB) (hR : rk.frames + 1 ≤ R.frames ∧ 8 + (maxL + 11) + rk.locals ≤ R.locals)
    (hn : As.length = n) (hsize : ls.size = nL) (hst : st0 = As.reverse ++ .ref b :: rest) (hW : (rest.map fun v => v.category).sum ≤ 8) (hdg : decode cc pc = .ok (.invokevirtual index, 3)) (hf : cells + rk.cells ≤ R.cells ∧ slots + rk.slots ≤ R.slots)
    (kk : ∀ (g1 : Nat → Option va_E) (H1 : Heap) (locs1 : List Loc), post g1 → hw D hC A g1 H1 → va_S A H0 H1 locs1 → W p l e R s m args below meth c H1 locs1 (cells + rk.cells) (slots + rk.slots) Q (F0 m (pc + 3) ls rest)) : W p l e R s m args below meth c H locs cells slots Q (F0 m pc ls st0) :=
  va_callv (va_runV (As := As) (rest := rest) S0 hM (h_cwV S0 kd hl hR) ⟨hPre_blind, hw_recv hK hg he hc, hPre_at hK hg⟩ rfl hn hsize hst (lv_room hW) hdg hf) hS (fun q _ h => hA.sub hg hS hA0 q h) (hA.sub hg hS hA0)
    (fun u t H1 locs1 ht hvm hp hB1 hz hk hS1 => kk u H1 locs1 hp (by rw [← ht]; exact hB1.1.weaken (hA.sub hg hS hA0)) hS1)
theorem hw_Vr {ty : FieldType} {post : Nat → (Nat → Option va_E) → Prop} (S0 : CallFix p m c cc nL s args hB own) (hK : va_K D hC tys s) (hg : hw D hC A g H) (hS : va_S A H0 H locs) (hA0 : ∀ q, H0.size ≤ q → A q) {ci : Nat} {T : u_T} {N : Nat} {fs : List Value} (he : g b = some (.inr (ci, fs))) (hc : hC[ci]? = some (y.cls, T, N)) (hM : hMr l y bytes maxL ty rk D tys g H.size (.ref b :: As) post) (kd : hcV y bytes maxL (some ty) n) (hl : Cond.methodLink own index y ∈ hB) (hR : rk.frames + 1 ≤ R.frames ∧ 8 + (maxL + 11) + rk.locals ≤ R.locals)
    (hn : As.length = n) (hsize : ls.size = nL) (hst : st0 = As.reverse ++ .ref b :: rest) (hW : (rest.map fun v => v.category).sum ≤ 8) (hdg : decode cc pc = .ok (.invokevirtual index, 3)) (hf : cells + rk.cells ≤ R.cells ∧ slots + rk.slots ≤ R.slots)
    (kk : ∀ (r : Nat) (g1 : Nat → Option va_E) (H1 : Heap) (locs1 : List Loc), post r g1 → hw D hC A g1 H1 → va_S A H0 H1 locs1 → W p l e R s m args below meth c H1 locs1 (cells + rk.cells) (slots + rk.slots) Q (F0 m (pc + 3) ls (.ref r :: rest))) : W p l e R s m args below meth c H locs cells slots Q (F0 m pc ls st0) :=
  va_callr (va_runV (As := As) (rest := rest) S0 hM (h_cwV S0 kd hl hR) ⟨hPre_blind, hw_recv hK hg he hc, hPre_at hK hg⟩ rfl hn hsize hst (lv_room hW) hdg hf) hS (fun q _ h => hA.sub hg hS hA0 q h) (hA.sub hg hS hA0)
    (fun u r t H1 locs1 ht hvm hp hB1 hz hk hS1 => kk r u H1 locs1 hB1.1 (by rw [← ht]; exact hB1.2.1.weaken (hA.sub hg hS hA0)) hS1)
theorem hw_Si {ty : FieldType} {post : Int32 → (Nat → Option va_E) → Prop} (S0 : CallFix p m c cc nL s args hB own) (hK : va_K D hC tys s) (hg : hw D hC A g H) (hS : va_S A H0 H locs) (hA0 : ∀ q, H0.size ≤ q → A q) (hM : hMi l y bytes maxL ty rk D tys g H.size As post) (kd : hcS y bytes maxL (some ty) n) (hl : Cond.methodLink own index y ∈ hB) (hR : rk.frames + 1 ≤ R.frames ∧ 8 + (maxL + 11) + rk.locals ≤ R.locals)
    (hn : As.length = n) (hsize : ls.size = nL) (hst : st0 = As.reverse ++ rest) (hW : (rest.map fun v => v.category).sum ≤ 8) (hdg : decode cc pc = .ok (.invokestatic index, 3)) (hf : cells + rk.cells ≤ R.cells ∧ slots + rk.slots ≤ R.slots)
    (kk : ∀ (r : Int32) (g1 : Nat → Option va_E) (H1 : Heap) (locs1 : List Loc), post r g1 → hw D hC A g1 H1 → va_S A H0 H1 locs1 → W p l e R s m args below meth c H1 locs1 (cells + rk.cells) (slots + rk.slots) Q (F0 m (pc + 3) ls (.int r :: rest))) : W p l e R s m args below meth c H locs cells slots Q (F0 m pc ls st0) :=
  va_calli (va_runS (As := As) (rest := rest) S0 hM (h_cwS S0 kd hl hR) ⟨hPre_blind, hPre_at hK hg⟩ rfl hn hsize hst (lv_room hW) hdg hf) hS (fun q _ h => hA.sub hg hS hA0 q h) (hA.sub hg hS hA0)
    (fun r u t H1 locs1 ht hvm hp hB1 hz hk hS1 => kk r u H1 locs1 hp (by rw [← ht]; exact hB1.1.weaken (hA.sub hg hS hA0)) hS1)
theorem hw_Sv {post : (Nat → Option va_E) → Prop} (S0 : CallFix p m c cc nL s args hB own) (hK : va_K D hC tys s) (hg : hw D hC A g H) (hS : va_S A H0 H locs) (hA0 : ∀ q, H0.size ≤ q → A q) (hM : hMv l y bytes maxL rk D tys g H.size As post) (kd : hcS y bytes maxL none n) (hl : Cond.methodLink own index y ∈ hB) (hR : rk.frames + 1 ≤ R.frames ∧ 8 + (maxL + 11) + rk.locals ≤ R.locals)
    (hn : As.length = n) (hsize : ls.size = nL) (hst : st0 = As.reverse ++ rest) (hW : (rest.map fun v => v.category).sum ≤ 8) (hdg : decode cc pc = .ok (.invokestatic index, 3)) (hf : cells + rk.cells ≤ R.cells ∧ slots + rk.slots ≤ R.slots)
    (kk : ∀ (g1 : Nat → Option va_E) (H1 : Heap) (locs1 : List Loc), post g1 → hw D hC A g1 H1 → va_S A H0 H1 locs1 → W p l e R s m args below meth c H1 locs1 (cells + rk.cells) (slots + rk.slots) Q (F0 m (pc + 3) ls rest)) : W p l e R s m args below meth c H locs cells slots Q (F0 m pc ls st0) :=
  va_callv (va_runS (As := As) (rest := rest) S0 hM (h_cwS S0 kd hl hR) ⟨hPre_blind, hPre_at hK hg⟩ rfl hn hsize hst (lv_room hW) hdg hf) hS (fun q _ h => hA.sub hg hS hA0 q h) (hA.sub hg hS hA0)
    (fun u t H1 locs1 ht hvm hp hB1 hz hk hS1 => kk u H1 locs1 hp (by rw [← ht]; exact hB1.1.weaken (hA.sub hg hS hA0)) hS1)
theorem hw_I {post : (Nat → Option va_E) → Prop} (S0 : CallFix p m c cc nL s args hB own) (hK : va_K D hC tys s) (hg : hw D hC A g H) (hS : va_S A H0 H locs) (hA0 : ∀ q, H0.size ≤ q → A q) (hM : hMv l y bytes maxL rk D tys g H.size (.ref b :: As) post) (kd : hcI y bytes maxL n) (hl : Cond.methodLink own index y ∈ hB) (hR : rk.frames + 1 ≤ R.frames ∧ 8 + (maxL + 11) + rk.locals ≤ R.locals)
    (hn : As.length = n) (hsize : ls.size = nL) (hst : st0 = As.reverse ++ .ref b :: rest) (hW : (rest.map fun v => v.category).sum ≤ 8) (hdg : decode cc pc = .ok (.invokespecial index, 3)) (hf : cells + rk.cells ≤ R.cells ∧ slots + rk.slots ≤ R.slots)
    (kk : ∀ (g1 : Nat → Option va_E) (H1 : Heap) (locs1 : List Loc), post g1 → hw D hC A g1 H1 → va_S A H0 H1 locs1 → W p l e R s m args below meth c H1 locs1 (cells + rk.cells) (slots + rk.slots) Q (F0 m (pc + 3) ls rest)) : W p l e R s m args below meth c H locs cells slots Q (F0 m pc ls st0) :=
  va_callv (va_runI (As := As) (rest := rest) S0 hM (h_cwI S0 kd hl hR) ⟨hPre_blind, hPre_at hK hg⟩ rfl hn hsize hst (lv_room hW) hdg hf) hS (fun q _ h => hA.sub hg hS hA0 q h) (hA.sub hg hS hA0)
    (fun u t H1 locs1 ht hvm hp hB1 hz hk hS1 => kk u H1 locs1 hp (by rw [← ht]; exact hB1.1.weaken (hA.sub hg hS hA0)) hS1)
end HWC
end
section
/-! THE MATHEMATICS: the common of two rows, by the greedy choice over the lengths of commons of ends -/
def lcs : List Int32 → List Int32 → Nat
  | [], _ => 0
  | _ :: _, [] => 0
  | x :: xs, y :: ys => if x = y then lcs xs ys + 1 else max (lcs xs (y :: ys)) (lcs (x :: xs) ys)
termination_by a b => a.length + b.length
theorem lcs_nil (b : List Int32) : lcs [] b = 0 := by simp [lcs]
theorem lcs_nil2 (a : List Int32) : lcs a [] = 0 := by cases a <;> simp [lcs]
theorem lcs_cons (x y : Int32) (a b : List Int32) : lcs (x :: a) (y :: b) = if x = y then lcs a b + 1 else max (lcs a (y :: b)) (lcs (x :: a) b) := by rw [lcs]
theorem lcs_near (n : Nat) : ∀ (a b : List Int32), a.length + b.length ≤ n → (∀ x, lcs a b ≤ lcs (x :: a) b ∧ lcs (x :: a) b ≤ lcs a b + 1) ∧ ∀ y, lcs a b ≤ lcs a (y :: b) ∧ lcs a (y :: b) ≤ lcs a b + 1 := by
  induction n with
  | zero =>
    intro a b h
    have ha : a = [] := List.length_eq_zero_iff.mp (by omega)
    have hb : b = [] := List.length_eq_zero_iff.mp (by omega)
    subst ha; subst hb
    exact ⟨fun x => by simp [lcs_nil, lcs_nil2], fun y => by simp [lcs_nil, lcs_nil2]⟩
  | succ n ih =>
    intro a b h
    refine ⟨fun x => ?_, fun y => ?_⟩
    · cases b with
      | nil => simp [lcs_nil2]
      | cons y b =>
        rw [List.length_cons] at h
        obtain ⟨i1, i2⟩ := ih a b (by omega)
        rw [lcs_cons]
        split
        · exact ⟨(i2 y).2, Nat.succ_le_succ (i2 y).1⟩
        · have h1 := i1 x
          have h2 := i2 y
          omega
    · cases a with
      | nil => simp [lcs_nil]
      | cons x a =>
        rw [List.length_cons] at h
        obtain ⟨i1, i2⟩ := ih a b (by omega)
        rw [lcs_cons]
        split
        · exact ⟨(i1 x).2, Nat.succ_le_succ (i1 x).1⟩
        · have h1 := i1 x
          have h2 := i2 y
          omega
theorem lcs_le (a : List Int32) : ∀ b : List Int32, lcs a b ≤ a.length := by
  induction a with
  | nil => intro b; simp [lcs_nil]
  | cons x a ih =>
    intro b
    have h := ((lcs_near _ a b (Nat.le_refl _)).1 x).2
    have := ih b
    rw [List.length_cons]
    omega
/-- of the ends from place i of a and j of b on -/
def Lc (a b : List Int32) (i j : Nat) : Nat := lcs (a.drop i) (b.drop j)
theorem drop_at {a : List Int32} {i : Nat} (h : i < a.length) : a.drop i = a.getD i 0 :: a.drop (i + 1) := by
  rw [List.drop_eq_getElem_cons h]
  simp [List.getD_eq_getElem?_getD, h]
theorem Lc_endA (a b : List Int32) (j : Nat) : Lc a b a.length j = 0 := by rw [Lc, List.drop_length, lcs_nil]
theorem Lc_endB (a b : List Int32) (i : Nat) : Lc a b i b.length = 0 := by rw [Lc, List.drop_length, lcs_nil2]
theorem Lc_step {a b : List Int32} {i j : Nat} (hi : i < a.length) (hj : j < b.length) : Lc a b i j = if a.getD i 0 = b.getD j 0 then Lc a b (i + 1) (j + 1) + 1 else max (Lc a b (i + 1) j) (Lc a b i (j + 1)) := by
  rw [Lc, drop_at hi, drop_at hj, lcs_cons, ← drop_at hi, ← drop_at hj]
  rfl
theorem Lc_le (a b : List Int32) (i j : Nat) : Lc a b i j ≤ a.length - i := by
  have := lcs_le (a.drop i) (b.drop j)
  rw [List.length_drop] at this
  exact this
theorem Lc_near {a b : List Int32} {i j : Nat} (hi : i < a.length) (hj : j < b.length) : Lc a b (i + 1) j ≤ Lc a b (i + 1) (j + 1) + 1 ∧ Lc a b i (j + 1) ≤ Lc a b (i + 1) (j + 1) + 1 := by
  have h := lcs_near _ (a.drop (i + 1)) (b.drop (j + 1)) (Nat.le_refl _)
  refine ⟨?_, ?_⟩
  · rw [Lc, drop_at hj]; exact (h.2 _).2
  · rw [Lc, drop_at hi]; exact (h.1 _).2
/-- the first place of a line from i on -/
def fp (b : List Int32) (v : Int32) (i : Nat) : Option Nat := (List.range b.length).find? (fun k => decide (i ≤ k) && decide (b.getD k 0 = v))
theorem fp_of {b : List Int32} {v : Int32} {i k : Nat} (h1 : i ≤ k) (h2 : k < b.length) (h3 : b.getD k 0 = v) (h4 : ∀ q, i ≤ q → q < k → b.getD q 0 ≠ v) : fp b v i = some k := by
  rw [fp, List.find?_range_eq_some]
  refine ⟨by rw [Bool.and_eq_true]; exact ⟨decide_eq_true h1, decide_eq_true h3⟩, List.mem_range.mpr h2, fun j hj => ?_⟩
  by_cases h : i ≤ j
  · rw [decide_eq_false (h4 j h hj), Bool.and_false]; rfl
  · rw [decide_eq_false h, Bool.false_and]; rfl
theorem fp_none {b : List Int32} {v : Int32} {i : Nat} (h : ∀ q, i ≤ q → q < b.length → b.getD q 0 ≠ v) : fp b v i = none := by
  rw [fp, List.find?_eq_none]
  intro k hk
  have hk := List.mem_range.mp hk
  by_cases h9 : i ≤ k
  · rw [decide_eq_false (h k h9 hk), Bool.and_false]; exact Bool.false_ne_true
  · rw [decide_eq_false h9, Bool.false_and]; exact Bool.false_ne_true
theorem fp_spec {b : List Int32} {v : Int32} {i k : Nat} (h : fp b v i = some k) : i ≤ k ∧ k < b.length ∧ b.getD k 0 = v := by
  rw [fp, List.find?_range_eq_some] at h
  obtain ⟨h1, h2, -⟩ := h
  simp only [Bool.and_eq_true, decide_eq_true_eq] at h1
  exact ⟨h1.1, List.mem_range.mp h2, h1.2⟩
/-- the place of b that is taken with place i of a, from fr on -/
def stp (a b : List Int32) (fr i : Nat) : Option Nat := match fp b (a.getD i 0) fr with
  | some j => if Lc a b (i + 1) (j + 1) + 1 = Lc a b i fr then some j else none
  | none => none
def fro (a b : List Int32) : Nat → Nat
  | 0 => 0
  | i + 1 => match stp a b (fro a b i) i with
    | some j => j + 1
    | none => fro a b i
/-- the partner of place i of a -/
def pn (a b : List Int32) (i : Nat) : Option Nat := stp a b (fro a b i) i
/-- the pairs of the places of a ahead of i -/
def prs (a b : List Int32) : Nat → List (Nat × Nat)
  | 0 => []
  | i + 1 => prs a b i ++ (match pn a b i with
    | some j => [(i, j)]
    | none => [])
theorem stp_none {a b : List Int32} {fr i : Nat} (h : fp b (a.getD i 0) fr = none) : stp a b fr i = none := by unfold stp; rw [h]
theorem stp_some {a b : List Int32} {fr i j : Nat} (h : fp b (a.getD i 0) fr = some j) (h2 : Lc a b (i + 1) (j + 1) + 1 = Lc a b i fr) : stp a b fr i = some j := by unfold stp; rw [h]; exact if_pos h2
theorem stp_not {a b : List Int32} {fr i j : Nat} (h : fp b (a.getD i 0) fr = some j) (h2 : ¬ Lc a b (i + 1) (j + 1) + 1 = Lc a b i fr) : stp a b fr i = none := by unfold stp; rw [h]; exact if_neg h2
theorem stp_spec {a b : List Int32} {fr i j : Nat} (h : stp a b fr i = some j) : fr ≤ j ∧ j < b.length := by
  unfold stp at h
  cases e : fp b (a.getD i 0) fr with
  | none => rw [e] at h; cases h
  | some k =>
    rw [e] at h
    have hs := fp_spec e
    simp only at h
    split at h
    · cases h; exact ⟨hs.1, hs.2.1⟩
    · cases h
theorem fro_none {a b : List Int32} {i : Nat} (h : pn a b i = none) : fro a b (i + 1) = fro a b i := by
  have h : stp a b (fro a b i) i = none := h
  simp [fro, h]
theorem fro_some {a b : List Int32} {i j : Nat} (h : pn a b i = some j) : fro a b (i + 1) = j + 1 := by
  have h : stp a b (fro a b i) i = some j := h
  simp [fro, h]
theorem prs_none {a b : List Int32} {i : Nat} (h : pn a b i = none) : prs a b (i + 1) = prs a b i := by simp [prs, h]
theorem prs_some {a b : List Int32} {i j : Nat} (h : pn a b i = some j) : prs a b (i + 1) = prs a b i ++ [(i, j)] := by simp [prs, h]
theorem fro_le (a b : List Int32) (i : Nat) : fro a b i ≤ b.length := by
  induction i with
  | zero => exact Nat.zero_le _
  | succ i ih =>
    cases h : pn a b i with
    | none => rw [fro_none h]; exact ih
    | some j => rw [fro_some h]; exact (stp_spec h).2
theorem prs_len (a b : List Int32) (i : Nat) : (prs a b i).length ≤ i ∧ (prs a b i).length ≤ fro a b i := by
  induction i with
  | zero => exact ⟨Nat.le_refl _, Nat.le_refl _⟩
  | succ i ih =>
    cases h : pn a b i with
    | none => rw [fro_none h, prs_none h]; omega
    | some j =>
      rw [fro_some h, prs_some h, List.length_append, List.length_singleton]
      have := (stp_spec (show stp a b (fro a b i) i = some j from h)).1
      omega
theorem prs_mem {a b : List Int32} {i : Nat} : ∀ q ∈ prs a b i, q.1 < i ∧ q.2 < fro a b i ∧ pn a b q.1 = some q.2 := by
  induction i with
  | zero => intro q hq; cases hq
  | succ i ih =>
    intro q hq
    cases h : pn a b i with
    | none =>
      rw [prs_none h] at hq
      rw [fro_none h]
      have := ih q hq
      exact ⟨by omega, this.2⟩
    | some j =>
      rw [prs_some h] at hq
      rw [fro_some h]
      have hf := (stp_spec (show stp a b (fro a b i) i = some j from h)).1
      rcases List.mem_append.mp hq with hq | hq
      · have := ih q hq
        exact ⟨by omega, by omega, this.2.2⟩
      · cases List.mem_singleton.mp hq
        exact ⟨Nat.lt_succ_self _, Nat.lt_succ_self _, h⟩
/-- an array holds numbers -/
def rpN (f : Nat → Int32) (xs : List Nat) : Prop := ∀ k, k < xs.length → f k = nI (xs.getD k 0)
theorem rpN_nil (f : Nat → Int32) : rpN f [] := fun k h => absurd h (Nat.not_lt_zero k)
theorem rpN_snoc {f : Nat → Int32} {xs : List Nat} (h : rpN f xs) (v : Nat) : rpN (upd f xs.length (nI v)) (xs ++ [v]) := by
  intro k hk
  rw [List.length_append, List.length_singleton] at hk
  by_cases e : k = xs.length
  · subst e; rw [pk_us]; simp
  · rw [pk_un e, h k (by omega)]
    simp only [List.getD_eq_getElem?_getD]
    rw [List.getElem?_append_left (by omega)]
theorem rpN_congr {f f1 : Nat → Int32} {xs : List Nat} (h : rpN f xs) (e : ∀ k, k < xs.length → f1 k = f k) : rpN f1 xs := fun k hk => by rw [e k hk]; exact h k hk
end
section
/-! MORE ROWS of the machine over my words: Object's constructor, Math's three, numbers less one -/
set_option maxRecDepth 20000 in
theorem wO_inst : Cond.instanceMethod objectInit ∈ hB := hB_in 49 rfl (by decide +kernel)
set_option maxRecDepth 20000 in
theorem wO_code : Cond.code objectInit ⟨#[0xb1]⟩ 1 none ∈ hB := hB_in 50 rfl (by decide +kernel)
set_option maxRecDepth 20000 in
theorem wI_arr : Cond.arrayClass .int ∈ hB := hB_in 76 rfl (by decide +kernel)
set_option maxRecDepth 20000 in
theorem wJ_arr : Cond.arrayClass .long ∈ hB := hB_in 795 rfl (by decide +kernel)
set_option maxRecDepth 20000 in
theorem wM_ini : Cond.initialized "java/lang/Math" ∈ hB := hB_in 42 rfl (by decide +kernel)
set_option maxRecDepth 20000 in
theorem wM_smax : Cond.static Lib.Math.max.name ∈ hB := hB_in 413 rfl (by decide +kernel)
set_option maxRecDepth 20000 in
theorem wM_cmax : Cond.code Lib.Math.max.name Lib.Math.max.code 2 (some .int) ∈ hB := hB_in 414 rfl (by decide +kernel)
set_option maxRecDepth 20000 in
theorem wM_sabs : Cond.static Lib.Math.abs.name ∈ hB := hB_in 547 rfl (by decide +kernel)
set_option maxRecDepth 20000 in
theorem wM_cabs : Cond.code Lib.Math.abs.name Lib.Math.abs.code 1 (some .int) ∈ hB := hB_in 548 rfl (by decide +kernel)
set_option maxRecDepth 20000 in
theorem wM_smin : Cond.static Lib.Math.min.name ∈ hB := hB_in 554 rfl (by decide +kernel)
set_option maxRecDepth 20000 in
theorem wM_cmin : Cond.code Lib.Math.min.name Lib.Math.min.code 2 (some .int) ∈ hB := hB_in 555 rfl (by decide +kernel)
section HMO
variable {p : Program} {l : Launch} {e : Env} {R rm : Room} {s : State} {m : MethodId} {args : Array Value} {below : List Frame} {meth : Method} {c : Code} {H : Heap} {locs : List Loc} {cells slots : Nat} {Q : State → Prop}
variable {cc : ByteArray} {pc nL index a : Nat} {ls : Array Slot} {rest : List Value} {own : String}
theorem hw_objInit (S0 : CallFix p m c cc nL s args hB own) (hR : hRle rm R) (hl : ls.size = nL) (hk : Cond.methodLink own index objectInit ∈ hB) (hf : (Nat.ble 1 rm.frames && Nat.ble 12 rm.locals) = true) (hdg : decode cc pc = .ok (.invokespecial index, 3))
    (kk : W p l e R s m args below meth c H locs cells slots Q (F0 m (pc + 3) ls [])) : W p l e R s m args below meth c H locs cells slots Q (F0 m pc ls [.ref a]) := by
  rw [Bool.and_eq_true] at hf
  refine W.objInit S0.1 S0.2.1 S0.2.2.2.1 (S0.2.2.2.2 _ hk) (S0.2.2.2.2 _ wO_inst) (S0.2.2.2.2 _ wO_code) rfl (by rw [S0.2.2.1]; exact hl) rfl hdg (Nat.le_trans (Nat.le_of_ble_eq_true hf.1) hR.1) ?_ kk
  exact Nat.le_trans (Nat.le_of_ble_eq_true hf.2) hR.2.1
theorem hw_max (S0 : CallFix p m c cc nL s args hB own) (hR : hRle rm R) (hl : ls.size = nL) (hk : Cond.methodLink own index Lib.Math.max.name ∈ hB) (hf : (Nat.ble 1 rm.frames && Nat.ble ((rest.map fun v => v.category).sum + 13) rm.locals) = true) (hc : cells ≤ rm.cells ∧ slots ≤ rm.slots) {x y : Int32} (hdg : decode cc pc = .ok (.invokestatic index, 3))
    (kk : W p l e R s m args below meth c H locs cells slots Q (F0 m (pc + 3) ls (.int (if x < y then y else x) :: rest))) : W p l e R s m args below meth c H locs cells slots Q (F0 m pc ls (.int y :: .int x :: rest)) := by
  rw [Bool.and_eq_true] at hf
  exact va_mmax S0.1 S0.2.1 (by rw [S0.2.2.1]; exact hl.symm) S0.2.2.2.1 (S0.2.2.2.2 _ hk) (S0.2.2.2.2 _ wM_smax) (S0.2.2.2.2 _ wM_ini) (S0.2.2.2.2 _ wM_cmax) (Nat.le_trans (Nat.le_of_ble_eq_true hf.1) hR.1) (Nat.le_trans (Nat.le_of_ble_eq_true hf.2) hR.2.1) (Nat.le_trans hc.1 hR.2.2.1) (Nat.le_trans hc.2 hR.2.2.2) hdg kk
theorem hw_min (S0 : CallFix p m c cc nL s args hB own) (hR : hRle rm R) (hl : ls.size = nL) (hk : Cond.methodLink own index Lib.Math.min.name ∈ hB) (hf : (Nat.ble 1 rm.frames && Nat.ble ((rest.map fun v => v.category).sum + 13) rm.locals) = true) (hc : cells ≤ rm.cells ∧ slots ≤ rm.slots) {x y : Int32} (hdg : decode cc pc = .ok (.invokestatic index, 3))
    (kk : W p l e R s m args below meth c H locs cells slots Q (F0 m (pc + 3) ls (.int (if y < x then y else x) :: rest))) : W p l e R s m args below meth c H locs cells slots Q (F0 m pc ls (.int y :: .int x :: rest)) := by
  rw [Bool.and_eq_true] at hf
  exact va_mmin S0.1 S0.2.1 (by rw [S0.2.2.1]; exact hl.symm) S0.2.2.2.1 (S0.2.2.2.2 _ hk) (S0.2.2.2.2 _ wM_smin) (S0.2.2.2.2 _ wM_ini) (S0.2.2.2.2 _ wM_cmin) (Nat.le_trans (Nat.le_of_ble_eq_true hf.1) hR.1) (Nat.le_trans (Nat.le_of_ble_eq_true hf.2) hR.2.1) (Nat.le_trans hc.1 hR.2.2.1) (Nat.le_trans hc.2 hR.2.2.2) hdg kk
theorem hw_abs (S0 : CallFix p m c cc nL s args hB own) (hR : hRle rm R) (hl : ls.size = nL) (hk : Cond.methodLink own index Lib.Math.abs.name ∈ hB) (hf : (Nat.ble 1 rm.frames && Nat.ble ((rest.map fun v => v.category).sum + 13) rm.locals) = true) (hc : cells ≤ rm.cells ∧ slots ≤ rm.slots) {x : Int32} (hdg : decode cc pc = .ok (.invokestatic index, 3))
    (kk : W p l e R s m args below meth c H locs cells slots Q (F0 m (pc + 3) ls (.int (if 0 ≤ x then x else 0 - x) :: rest))) : W p l e R s m args below meth c H locs cells slots Q (F0 m pc ls (.int x :: rest)) := by
  rw [Bool.and_eq_true] at hf
  exact va_mabs S0.1 S0.2.1 (by rw [S0.2.2.1]; exact hl.symm) S0.2.2.2.1 (S0.2.2.2.2 _ hk) (S0.2.2.2.2 _ wM_sabs) (S0.2.2.2.2 _ wM_ini) (S0.2.2.2.2 _ wM_cabs) (Nat.le_trans (Nat.le_of_ble_eq_true hf.1) hR.1) (Nat.le_trans (Nat.le_of_ble_eq_true hf.2) hR.2.1) (Nat.le_trans hc.1 hR.2.2.1) (Nat.le_trans hc.2 hR.2.2.2) hdg kk
/-- a number on the stack by another name, deeper rows stay -/
theorem hw_eqv {x y : Value} (h : x = y) (k : W p l e R s m args below meth c H locs cells slots Q (F0 m pc ls (y :: rest))) : W p l e R s m args below meth c H locs cells slots Q (F0 m pc ls (x :: rest)) := by rw [h]; exact k
end HMO
/-- a count less one, as loops that fall hold it -/
def nJ (t : Nat) : Int32 := nI t - nI 1
theorem nJ_succ (i : Nat) : nJ (i + 1) = nI i := nI_pred i
theorem nJ_dec (i : Nat) : nI i + Int32.ofInt (-1) = nJ i := (Int32.sub_eq_add_neg (nI i) (nI 1)).symm
theorem nJ_neg {t : Nat} (h : t < 2 ^ 31) : nJ t < 0 ↔ t = 0 := by
  cases t with
  | zero => exact ⟨fun _ => rfl, fun _ => by decide +kernel⟩
  | succ i => rw [nJ_succ]; exact ⟨fun h9 => absurd h9 (nI_pos (by omega)), fun h9 => by omega⟩
theorem nI_max {x y : Nat} (hx : x < 2 ^ 31) (hy : y < 2 ^ 31) : (if nI x < nI y then nI y else nI x) = nI (max x y) := by
  by_cases h : x < y
  · rw [if_pos (nI_lt h hy), Nat.max_eq_right (by omega)]
  · rw [if_neg (nI_nlt (by omega) hx), Nat.max_eq_left (by omega)]
theorem nI_min {x y : Nat} (hx : x < 2 ^ 31) (hy : y < 2 ^ 31) : (if nI y < nI x then nI y else nI x) = nI (min x y) := by
  by_cases h : y < x
  · rw [if_pos (nI_lt h hx), Nat.min_eq_right (by omega)]
  · rw [if_neg (nI_nlt (by omega) hy), Nat.min_eq_left (by omega)]
end
section
/-! THE MATHEMATICS, on: pairs by their places, hunks -/
theorem prs_take {a b : List Int32} : ∀ {n k : Nat}, k < (prs a b n).length → ∃ i j, (prs a b n)[k]? = some (i, j) ∧ (prs a b n).take k = prs a b i ∧ pn a b i = some j ∧ i < n := by
  intro n
  induction n with
  | zero => intro k h; exact absurd h (Nat.not_lt_zero k)
  | succ n ih =>
    intro k hk
    cases h : pn a b n with
    | none =>
      rw [prs_none h] at hk ⊢
      obtain ⟨i, j, h1, h2, h3, h4⟩ := ih hk
      exact ⟨i, j, h1, h2, h3, by omega⟩
    | some j0 =>
      rw [prs_some h] at hk ⊢
      rw [List.length_append, List.length_singleton] at hk
      rcases Nat.lt_or_ge k (prs a b n).length with h9 | h9
      · obtain ⟨i, j, h1, h2, h3, h4⟩ := ih h9
        exact ⟨i, j, by rw [List.getElem?_append_left h9]; exact h1, by rw [List.take_append_of_le_length (by omega)]; exact h2, h3, by omega⟩
      · have e : k = (prs a b n).length := by omega
        subst e
        exact ⟨n, j0, by rw [List.getElem?_append_right (Nat.le_refl _), Nat.sub_self]; rfl, by rw [List.take_append_of_le_length (Nat.le_refl _), List.take_length], h, Nat.lt_succ_self n⟩
theorem prs_has {a b : List Int32} {n i j : Nat} (hi : i < n) (h : pn a b i = some j) : (i, j) ∈ prs a b n := by
  induction n with
  | zero => omega
  | succ n ih =>
    rcases Nat.lt_or_ge i n with h9 | h9
    · have := ih h9
      cases hp : pn a b n with
      | none => rw [prs_none hp]; exact this
      | some q => rw [prs_some hp]; exact List.mem_append_left _ this
    · have e : i = n := by omega
      subst e
      rw [prs_some h]
      exact List.mem_append_right _ (List.mem_singleton.mpr rfl)
theorem prs_lt {a b : List Int32} {n k k2 : Nat} {p q : Nat × Nat} (h : k < k2) (hp : (prs a b n)[k]? = some p) (hq : (prs a b n)[k2]? = some q) : p.1 < q.1 := by
  obtain ⟨i, j, h1, h2, -, -⟩ := prs_take (a := a) (b := b) (n := n) (k := k2) (List.getElem?_eq_some_iff.mp hq).1
  cases Option.some.inj (h1.symm.trans hq)
  have hm : p ∈ prs a b i := by
    rw [← h2]
    exact List.mem_of_getElem? (i := k) (by rw [List.getElem?_take_of_lt h]; exact hp)
  exact (prs_mem p hm).1
theorem rpN_at {f : Nat → Int32} {α : Type} {ps : List α} {pr : α → Nat} {k : Nat} {p : α} (h : rpN f (ps.map pr)) (hk : ps[k]? = some p) : f k = nI (pr p) := by
  have hl : k < (ps.map pr).length := by rw [List.length_map]; exact (List.getElem?_eq_some_iff.mp hk).1
  rw [h k hl]
  simp only [List.getD_eq_getElem?_getD, List.getElem?_map, hk]
  rfl
/-- a hunk: where it begins and how many lines, in a and in b; none if both are empty -/
abbrev N4 : Type := Nat × Nat × Nat × Nat
def hk1 (a i b j : Nat) : List N4 := if a < i ∨ b < j then [(a, i - a, b, j - b)] else []
def cstep (s : Nat × Nat × List N4) (p : Nat × Nat) : Nat × Nat × List N4 := (p.1 + 1, p.2 + 1, s.2.2 ++ hk1 s.1 p.1 s.2.1 p.2)
def cutp (ps : List (Nat × Nat)) : Nat × Nat × List N4 := ps.foldl cstep (0, 0, [])
theorem cutp_nil : cutp [] = (0, 0, []) := rfl
theorem cutp_snoc (ps : List (Nat × Nat)) (p : Nat × Nat) : cutp (ps ++ [p]) = cstep (cutp ps) p := by rw [cutp, cutp, List.foldl_append]; rfl
/-- the hunks of a, b -/
def hunksOf (a b : List Int32) : List N4 := (cutp (prs a b a.length)).2.2 ++ hk1 (cutp (prs a b a.length)).1 a.length (cutp (prs a b a.length)).2.1 b.length
theorem hk1_len (a i b j : Nat) : (hk1 a i b j).length ≤ 1 := by unfold hk1; split <;> simp
theorem cutp_prs (a b : List Int32) (i : Nat) : (cutp (prs a b i)).1 ≤ i ∧ (cutp (prs a b i)).2.1 = fro a b i ∧ (cutp (prs a b i)).2.2.length ≤ (prs a b i).length := by
  induction i with
  | zero => exact ⟨Nat.le_refl _, rfl, Nat.le_refl _⟩
  | succ i ih =>
    cases h : pn a b i with
    | none => rw [prs_none h, fro_none h]; omega
    | some j =>
      rw [prs_some h, fro_some h, cutp_snoc]
      refine ⟨Nat.le_refl _, rfl, ?_⟩
      have := hk1_len (cutp (prs a b i)).1 i (cutp (prs a b i)).2.1 j
      simp only [cstep, List.length_append, List.length_singleton]
      omega
theorem take_snoc {α : Type} {l : List α} {k : Nat} {p : α} (h : l[k]? = some p) : l.take (k + 1) = l.take k ++ [p] := by rw [List.take_add_one, h]; rfl
/-- numbers four by four -/
def fl4 (hs : List N4) : List Nat := hs.flatMap (fun h => [h.1, h.2.1, h.2.2.1, h.2.2.2])
theorem fl4_snoc (hs : List N4) (h : N4) : fl4 (hs ++ [h]) = (((fl4 hs ++ [h.1]) ++ [h.2.1]) ++ [h.2.2.1]) ++ [h.2.2.2] := by simp [fl4, List.flatMap_append]
theorem fl4_len (hs : List N4) : (fl4 hs).length = 4 * hs.length := by
  induction hs with
  | nil => rfl
  | cons h t ih =>
    have : fl4 (h :: t) = [h.1, h.2.1, h.2.2.1, h.2.2.2] ++ fl4 t := rfl
    rw [this, List.length_append, ih, List.length_cons]
    simp only [List.length_cons, List.length_nil]
    omega
theorem rp4_snoc {f : Nat → Int32} {hs : List N4} {n : Nat} (h : rpN f (fl4 hs)) (hn : n = hs.length) (x y z w : Nat) : rpN (upd (upd (upd (upd f (n * 4) (nI x)) (n * 4 + 1) (nI y)) (n * 4 + 2) (nI z)) (n * 4 + 3) (nI w)) (fl4 (hs ++ [(x, y, z, w)])) := by
  have hl := fl4_len hs
  rw [fl4_snoc]
  have h1 := rpN_snoc h x
  rw [hl, show 4 * hs.length = n * 4 by omega] at h1
  have h2 := rpN_snoc h1 y
  rw [List.length_append, hl, List.length_singleton, show 4 * hs.length + 1 = n * 4 + 1 by omega] at h2
  have h3 := rpN_snoc h2 z
  rw [List.length_append, List.length_append, hl, List.length_singleton, List.length_singleton, show 4 * hs.length + 1 + 1 = n * 4 + 2 by omega] at h3
  have h4 := rpN_snoc h3 w
  rw [List.length_append, List.length_append, List.length_append, hl, List.length_singleton, List.length_singleton, List.length_singleton, show 4 * hs.length + 1 + 1 + 1 = n * 4 + 3 by omega] at h4
  exact h4
theorem rp4_at {f : Nat → Int32} {hs : List N4} {k : Nat} {h : N4} (hr : rpN f (fl4 hs)) (hk : hs[k]? = some h) : f (k * 4) = nI h.1 ∧ f (k * 4 + 1) = nI h.2.1 ∧ f (k * 4 + 2) = nI h.2.2.1 ∧ f (k * 4 + 3) = nI h.2.2.2 := by
  have hl : k < hs.length := (List.getElem?_eq_some_iff.mp hk).1
  have key : ∀ (l : List N4) (k : Nat), l[k]? = some h → (fl4 l)[k * 4]? = some h.1 ∧ (fl4 l)[k * 4 + 1]? = some h.2.1 ∧ (fl4 l)[k * 4 + 2]? = some h.2.2.1 ∧ (fl4 l)[k * 4 + 3]? = some h.2.2.2 := by
    intro l
    induction l with
    | nil => intro k hk; simp at hk
    | cons z t ih =>
      intro k hk
      have e : fl4 (z :: t) = z.1 :: z.2.1 :: z.2.2.1 :: z.2.2.2 :: fl4 t := rfl
      cases k with
      | zero => simp at hk; subst hk; rw [e]; exact ⟨rfl, rfl, rfl, rfl⟩
      | succ k =>
        simp only [List.getElem?_cons_succ] at hk
        have := ih k hk
        rw [e, show (k + 1) * 4 = k * 4 + 4 by omega]
        exact this
  obtain ⟨k1, k2, k3, k4⟩ := key hs k hk
  have hl4 := fl4_len hs
  refine ⟨?_, ?_, ?_, ?_⟩
  · rw [hr _ (by omega), List.getD_eq_getElem?_getD, k1]; rfl
  · rw [hr _ (by omega), List.getD_eq_getElem?_getD, k2]; rfl
  · rw [hr _ (by omega), List.getD_eq_getElem?_getD, k3]; rfl
  · rw [hr _ (by omega), List.getD_eq_getElem?_getD, k4]; rfl
end
section
/-! THE MATHEMATICS, on: merging -/
abbrev N3 : Type := Nat × Nat × Nat
def fl3 (hs : List N3) : List Nat := hs.flatMap (fun h => [h.1, h.2.1, h.2.2])
theorem fl3_snoc (hs : List N3) (h : N3) : fl3 (hs ++ [h]) = ((fl3 hs ++ [h.1]) ++ [h.2.1]) ++ [h.2.2] := by simp [fl3, List.flatMap_append]
theorem fl3_len (hs : List N3) : (fl3 hs).length = 3 * hs.length := by
  induction hs with
  | nil => rfl
  | cons h t ih =>
    have : fl3 (h :: t) = [h.1, h.2.1, h.2.2] ++ fl3 t := rfl
    rw [this, List.length_append, ih, List.length_cons]
    simp only [List.length_cons, List.length_nil]
    omega
theorem rp3_snoc {f : Nat → Int32} {hs : List N3} {n : Nat} (h : rpN f (fl3 hs)) (hn : n = hs.length) (x y z : Nat) : rpN (upd (upd (upd f (n * 3) (nI x)) (n * 3 + 1) (nI y)) (n * 3 + 2) (nI z)) (fl3 (hs ++ [(x, y, z)])) := by
  have hl := fl3_len hs
  rw [fl3_snoc]
  have h1 := rpN_snoc h x
  rw [hl, show 3 * hs.length = n * 3 by omega] at h1
  have h2 := rpN_snoc h1 y
  rw [List.length_append, hl, List.length_singleton, show 3 * hs.length + 1 = n * 3 + 1 by omega] at h2
  have h3 := rpN_snoc h2 z
  rw [List.length_append, List.length_append, hl, List.length_singleton, List.length_singleton, show 3 * hs.length + 1 + 1 = n * 3 + 2 by omega] at h3
  exact h3
theorem rp3_at {f : Nat → Int32} {hs : List N3} {k : Nat} {h : N3} (hr : rpN f (fl3 hs)) (hk : hs[k]? = some h) : f (k * 3) = nI h.1 ∧ f (k * 3 + 1) = nI h.2.1 ∧ f (k * 3 + 2) = nI h.2.2 := by
  have hl : k < hs.length := (List.getElem?_eq_some_iff.mp hk).1
  have key : ∀ (l : List N3) (k : Nat), l[k]? = some h → (fl3 l)[k * 3]? = some h.1 ∧ (fl3 l)[k * 3 + 1]? = some h.2.1 ∧ (fl3 l)[k * 3 + 2]? = some h.2.2 := by
    intro l
    induction l with
    | nil => intro k hk; simp at hk
    | cons z t ih =>
      intro k hk
      have e : fl3 (z :: t) = z.1 :: z.2.1 :: z.2.2 :: fl3 t := rfl
      cases k with
      | zero => simp at hk; subst hk; rw [e]; exact ⟨rfl, rfl, rfl⟩
      | succ k =>
        simp only [List.getElem?_cons_succ] at hk
        have := ih k hk
        rw [e, show (k + 1) * 3 = k * 3 + 3 by omega]
        exact this
  obtain ⟨k1, k2, k3⟩ := key hs k hk
  have hl4 := fl3_len hs
  refine ⟨?_, ?_, ?_⟩
  · rw [hr _ (by omega), List.getD_eq_getElem?_getD, k1]; rfl
  · rw [hr _ (by omega), List.getD_eq_getElem?_getD, k2]; rfl
  · rw [hr _ (by omega), List.getD_eq_getElem?_getD, k3]; rfl
/-- a part is put behind -/
theorem rp_app {f f1 fo : Nat → Int32} {xs ys : List Int32} {i j : Nat} (h : rp f xs) (hy : rp fo ys) (hj : j ≤ ys.length) (h1 : ∀ q, q < xs.length → f1 q = f q) (h2 : ∀ q, q < j - i → f1 (xs.length + q) = fo (i + q)) : rp f1 (xs ++ pt ys i j) := by
  intro q hq
  rw [List.length_append, pt_len hj] at hq
  rcases Nat.lt_or_ge q xs.length with h9 | h9
  · rw [h1 q h9, h q h9]
    simp only [List.getD_eq_getElem?_getD]
    rw [List.getElem?_append_left h9]
  · have e : q = xs.length + (q - xs.length) := by omega
    have hk : q - xs.length < j - i := by omega
    have hl : i + (q - xs.length) < ys.length := by omega
    rw [e, h2 _ hk, hy _ hl, ← pt_get hj hk]
    simp only [List.getD_eq_getElem?_getD]
    rw [List.getElem?_append_right (by omega), show xs.length + (q - xs.length) - xs.length = q - xs.length by omega]
/-- what comes of the parts of three rows, and its conflicts -/
def joinP (bs lf rt : List Int32) (a i la lj ra rj : Nat) (s : List Int32 × List N3) : List Int32 × List N3 :=
  if pt lf la lj = pt rt ra rj ∨ pt rt ra rj = pt bs a i then (s.1 ++ pt lf la lj, s.2)
  else if pt lf la lj = pt bs a i then (s.1 ++ pt rt ra rj, s.2)
  else (s.1 ++ pt lf la lj ++ pt rt ra rj, s.2 ++ [(s.1.length, lj - la, rj - ra)])
theorem joinP_len {bs lf rt : List Int32} {a i la lj ra rj : Nat} (s : List Int32 × List N3) (hl : lj ≤ lf.length) (hr : rj ≤ rt.length) : (joinP bs lf rt a i la lj ra rj s).1.length ≤ s.1.length + (lj - la) + (rj - ra) ∧ s.1.length ≤ (joinP bs lf rt a i la lj ra rj s).1.length ∧ (joinP bs lf rt a i la lj ra rj s).2.length ≤ s.2.length + 1 := by
  unfold joinP
  have h1 := pt_len (i := la) hl
  have h2 := pt_len (i := ra) hr
  split
  · simp only [List.length_append]; omega
  · split
    · simp only [List.length_append]; omega
    · simp only [List.length_append, List.length_singleton]; omega
abbrev MS : Type := Nat × Nat × Nat × List Int32 × List N3
def mg (bs lf rt : List Int32) : Nat → MS
  | 0 => (0, 0, 0, [], [])
  | i + 1 => match pn bs lf i, pn bs rt i with
    | some lj, some rj => (i + 1, lj + 1, rj + 1, (joinP bs lf rt (mg bs lf rt i).1 i (mg bs lf rt i).2.1 lj (mg bs lf rt i).2.2.1 rj (mg bs lf rt i).2.2.2).1 ++ [bs.getD i 0], (joinP bs lf rt (mg bs lf rt i).1 i (mg bs lf rt i).2.1 lj (mg bs lf rt i).2.2.1 rj (mg bs lf rt i).2.2.2).2)
    | some _, none => mg bs lf rt i
    | none, _ => mg bs lf rt i
theorem mg_anchor {bs lf rt : List Int32} {i lj rj : Nat} (h1 : pn bs lf i = some lj) (h2 : pn bs rt i = some rj) : mg bs lf rt (i + 1) = (i + 1, lj + 1, rj + 1, (joinP bs lf rt (mg bs lf rt i).1 i (mg bs lf rt i).2.1 lj (mg bs lf rt i).2.2.1 rj (mg bs lf rt i).2.2.2).1 ++ [bs.getD i 0], (joinP bs lf rt (mg bs lf rt i).1 i (mg bs lf rt i).2.1 lj (mg bs lf rt i).2.2.1 rj (mg bs lf rt i).2.2.2).2) := by
  rw [mg, h1, h2]
theorem mg_skipL {bs lf rt : List Int32} {i : Nat} (h1 : pn bs lf i = none) : mg bs lf rt (i + 1) = mg bs lf rt i := by rw [mg, h1]
theorem mg_skipR {bs lf rt : List Int32} {i : Nat} (h2 : pn bs rt i = none) : mg bs lf rt (i + 1) = mg bs lf rt i := by
  rw [mg]
  cases h1 : pn bs lf i with
  | none => rfl
  | some j => rw [h2]
theorem fro_up (a b : List Int32) (i : Nat) : fro a b i ≤ fro a b (i + 1) := by
  cases h : pn a b i with
  | none => rw [fro_none h]; exact Nat.le_refl _
  | some j => rw [fro_some h]; have := (stp_spec (show stp a b (fro a b i) i = some j from h)).1; omega
theorem mg_in (bs lf rt : List Int32) (i : Nat) : (mg bs lf rt i).1 ≤ i ∧ (mg bs lf rt i).2.1 ≤ fro bs lf i ∧ (mg bs lf rt i).2.2.1 ≤ fro bs rt i ∧ (mg bs lf rt i).2.2.2.1.length ≤ (mg bs lf rt i).2.1 + (mg bs lf rt i).2.2.1 ∧ (mg bs lf rt i).2.2.2.2.length ≤ (mg bs lf rt i).1 := by
  induction i with
  | zero => exact ⟨Nat.le_refl _, Nat.le_refl _, Nat.le_refl _, Nat.le_refl _, Nat.le_refl _⟩
  | succ i ih =>
    cases h1 : pn bs lf i with
    | none =>
      rw [mg_skipL h1]
      have u1 := fro_up bs lf i
      have u2 := fro_up bs rt i
      omega
    | some lj =>
      cases h2 : pn bs rt i with
      | none =>
        rw [mg_skipR h2]
        have u1 := fro_up bs lf i
        have u2 := fro_up bs rt i
        omega
      | some rj =>
        rw [mg_anchor h1 h2, fro_some h1, fro_some h2]
        have s1 := stp_spec (show stp bs lf (fro bs lf i) i = some lj from h1)
        have s2 := stp_spec (show stp bs rt (fro bs rt i) i = some rj from h2)
        have hj := joinP_len (bs := bs) (lf := lf) (rt := rt) (a := (mg bs lf rt i).1) (i := i) (la := (mg bs lf rt i).2.1) (lj := lj) (ra := (mg bs lf rt i).2.2.1) (rj := rj) (mg bs lf rt i).2.2.2 (by omega) (by omega)
        dsimp only
        rw [List.length_append, List.length_singleton]
        omega
theorem prs_up (a b : List Int32) {i p : Nat} (h : i ≤ p) : (prs a b i).length ≤ (prs a b p).length := by
  induction p with
  | zero => rw [show i = 0 by omega]; exact Nat.le_refl _
  | succ p ih =>
    rcases Nat.lt_or_ge i (p + 1) with h9 | h9
    · have := ih (by omega)
      cases hp : pn a b p with
      | none => rw [prs_none hp]; exact this
      | some j => rw [prs_some hp, List.length_append]; omega
    · rw [show i = p + 1 by omega]; exact Nat.le_refl _
theorem mg_same {bs lf rt : List Int32} {i p : Nat} (h : i ≤ p) (e : prs bs lf i = prs bs lf p) : mg bs lf rt i = mg bs lf rt p := by
  induction p with
  | zero => rw [show i = 0 by omega]
  | succ p ih =>
    rcases Nat.lt_or_ge i (p + 1) with h9 | h9
    · cases hp : pn bs lf p with
      | none => rw [mg_skipL hp]; exact ih (by omega) (by rw [e, prs_none hp])
      | some j =>
        have h1 := prs_up bs lf (show i ≤ p by omega)
        rw [e, prs_some hp, List.length_append, List.length_singleton] at h1
        omega
    · rw [show i = p + 1 by omega]
/-- what comes of merging, and its conflicts -/
def mgF (bs lf rt : List Int32) : List Int32 × List N3 := joinP bs lf rt (mg bs lf rt bs.length).1 bs.length (mg bs lf rt bs.length).2.1 lf.length (mg bs lf rt bs.length).2.2.1 rt.length (mg bs lf rt bs.length).2.2.2
end
section
/-! THE MATHEMATICS, on: whole numbers, where a hunk fits, patching -/
def iZ (z : Int) : Int32 := Int32.ofInt z
theorem iZ_nat (n : Nat) : nI n = iZ (n : Int) := Int32.ofInt_eq_ofNat.symm
theorem iZ_add (x y : Int) : iZ x + iZ y = iZ (x + y) := (Int32.ofInt_add x y).symm
theorem iZ_sub (x y : Int) : iZ x - iZ y = iZ (x - y) := (Int32.ofInt_sub x y).symm
theorem iZ_toInt {z : Int} (h1 : -4000 < z) (h2 : z < 4000) : (iZ z).toInt = z := Int32.toInt_ofInt_of_le (by omega) (by omega)
theorem iZ_abs {z : Int} (h1 : -4000 < z) (h2 : z < 4000) : (if 0 ≤ iZ z then iZ z else 0 - iZ z) = nI z.natAbs := by
  have e := iZ_toInt h1 h2
  by_cases h : 0 ≤ z
  · have h9 : (0 : Int32) ≤ iZ z := by rw [Int32.le_iff_toInt_le, e]; simpa using h
    rw [if_pos h9, iZ_nat, Int.natAbs_of_nonneg h]
  · have h9 : ¬ (0 : Int32) ≤ iZ z := by
      rw [Int32.le_iff_toInt_le, e]
      intro h8
      exact h (by simpa using h8)
    rw [if_neg h9, show (0 : Int32) = iZ 0 from rfl, iZ_sub, iZ_nat]
    congr 1
    omega
theorem nI_subI (x y : Nat) : nI x - nI y = iZ ((x : Int) - (y : Int)) := by rw [iZ_nat, iZ_nat, iZ_sub]
theorem nI_sublt {a b x : Nat} (ha : a < 1000) (hb : b < 1000) (hx : x < 1000) : nI a - nI b < nI x ↔ a < x + b := by
  rw [nI_subI, iZ_nat, Int32.lt_iff_toInt_lt, iZ_toInt (by omega) (by omega), iZ_toInt (by omega) (by omega)]
  omega
theorem nI_subeq {a b q : Nat} (ha : a < 1000) (hb : b < 1000) (hq : q < 1000) : nI a - nI b = nI q ↔ a = q + b := by
  constructor
  · intro h
    have h1 := congrArg Int32.toInt h
    rw [nI_subI, iZ_nat, iZ_toInt (by omega) (by omega), iZ_toInt (by omega) (by omega)] at h1
    omega
  · intro h
    rw [nI_subI, iZ_nat]
    congr 1
    omega
theorem nJ_max {b : Nat} (h : b < 2 ^ 31) : (if nJ b < nI 0 then nI 0 else nJ b) = nI (b - 1) := by
  rw [nI_0]
  cases b with
  | zero => rw [if_pos ((nJ_neg (by omega)).mpr rfl)]; rfl
  | succ i => rw [if_neg (fun h9 => by have := (nJ_neg h).mp h9; omega), nJ_succ]; rfl
/-- the hunk's part of a fits in c at p, with the lines round it -/
def fitB (a : List Int32) (bg ln : Nat) (c : List Int32) (p : Nat) : Bool := decide (p + ln ≤ c.length) && ((List.range ln).all (fun k => decide (c.getD (p + k) 0 = a.getD (bg + k) 0)) && ((decide (bg = 0) || (decide (0 < p) && decide (c.getD (p - 1) 0 = a.getD (bg - 1) 0))) && (decide (bg + ln = a.length) || (decide (p + ln < c.length) && decide (c.getD (p + ln) 0 = a.getD (bg + ln) 0)))))
theorem fitB_iff {a : List Int32} {bg ln : Nat} {c : List Int32} {p : Nat} : fitB a bg ln c p = true ↔ p + ln ≤ c.length ∧ (∀ k, k < ln → c.getD (p + k) 0 = a.getD (bg + k) 0) ∧ (bg = 0 ∨ (0 < p ∧ c.getD (p - 1) 0 = a.getD (bg - 1) 0)) ∧ (bg + ln = a.length ∨ (p + ln < c.length ∧ c.getD (p + ln) 0 = a.getD (bg + ln) 0)) := by
  simp only [fitB, Bool.and_eq_true, Bool.or_eq_true, decide_eq_true_eq, List.all_eq_true, List.mem_range]
/-- line by line -/
def lnB (a : List Int32) (bg : Nat) (c : List Int32) (p k : Nat) : Prop := bg ≤ p + k ∧ p + k - bg < c.length ∧ c.getD (p + k - bg) 0 = a.getD k 0
theorem fit_lines {a : List Int32} {bg ln : Nat} {c : List Int32} {p : Nat} (h1 : p + ln ≤ c.length) (h2 : bg + ln ≤ a.length) : fitB a bg ln c p = true ↔ ∀ k, bg - 1 ≤ k → k < min (bg + ln + 1) a.length → lnB a bg c p k := by
  rw [fitB_iff]
  constructor
  · rintro ⟨-, f1, f2, f3⟩ k k1 k2
    unfold lnB
    rcases Nat.lt_or_ge k bg with h | h
    · rcases f2 with f2 | ⟨f2, f4⟩
      · omega
      · rw [show k = bg - 1 by omega, show p + (bg - 1) - bg = p - 1 by omega]
        exact ⟨by omega, by omega, f4⟩
    · rcases Nat.lt_or_ge k (bg + ln) with h9 | h9
      · have := f1 (k - bg) (by omega)
        rw [show p + (k - bg) = p + k - bg by omega, show bg + (k - bg) = k by omega] at this
        exact ⟨by omega, by omega, this⟩
      · rcases f3 with f3 | ⟨f3, f4⟩
        · omega
        · rw [show k = bg + ln by omega, show p + (bg + ln) - bg = p + ln by omega]
          exact ⟨by omega, by omega, f4⟩
  · intro f
    refine ⟨h1, fun k hk => ?_, ?_, ?_⟩
    · have := (f (bg + k) (by omega) (by omega)).2.2
      rw [show p + (bg + k) - bg = p + k by omega] at this
      exact this
    · rcases Nat.eq_zero_or_pos bg with h | h
      · exact Or.inl h
      · have := f (bg - 1) (Nat.le_refl _) (by omega)
        have h9 := this.2.2
        have h8 := this.1
        rw [show p + (bg - 1) - bg = p - 1 by omega] at h9
        exact Or.inr ⟨by omega, h9⟩
    · rcases Nat.lt_or_ge (bg + ln) a.length with h | h
      · have := f (bg + ln) (by omega) (by omega)
        have h9 := this.2.2
        have h8 := this.2.1
        rw [show p + (bg + ln) - bg = p + ln by omega] at h9 h8
        exact Or.inr ⟨h8, h9⟩
      · exact Or.inl (by omega)
/-- of the places from lo on the one nearest to w, of two the first one -/
def nrst (P : Nat → Bool) (w : Int) (lo : Nat) : Nat → Option Nat
  | 0 => none
  | n + 1 => match nrst P w lo n with
    | none => if P (lo + n) = true then some (lo + n) else none
    | some q => if (((lo + n : Nat) : Int) - w).natAbs < ((q : Int) - w).natAbs ∧ P (lo + n) = true then some (lo + n) else some q
theorem nrst_no {P : Nat → Bool} {w : Int} {lo n : Nat} (h : ¬ P (lo + n) = true) : nrst P w lo (n + 1) = nrst P w lo n := by
  rw [nrst]
  cases e : nrst P w lo n with
  | none => simp only; rw [if_neg h]
  | some q => simp only; rw [if_neg (fun h9 => h h9.2)]
theorem nrst_far {P : Nat → Bool} {w : Int} {lo n q : Nat} (e : nrst P w lo n = some q) (h : ¬ (((lo + n : Nat) : Int) - w).natAbs < ((q : Int) - w).natAbs) : nrst P w lo (n + 1) = nrst P w lo n := by
  rw [nrst, e]; simp only; rw [if_neg (fun h9 => h h9.1)]
theorem nrst_new {P : Nat → Bool} {w : Int} {lo n : Nat} (h : P (lo + n) = true) (e : nrst P w lo n = none ∨ ∃ q, nrst P w lo n = some q ∧ (((lo + n : Nat) : Int) - w).natAbs < ((q : Int) - w).natAbs) : nrst P w lo (n + 1) = some (lo + n) := by
  rw [nrst]
  rcases e with e | ⟨q, e, h2⟩
  · rw [e]; simp only; rw [if_pos h]
  · rw [e]; simp only; rw [if_pos ⟨h2, h⟩]
theorem nrst_in {P : Nat → Bool} {w : Int} {lo q : Nat} : ∀ {n : Nat}, nrst P w lo n = some q → lo ≤ q ∧ q < lo + n ∧ P q = true := by
  intro n
  induction n with
  | zero => intro h; cases h
  | succ n ih =>
    intro h
    by_cases h9 : P (lo + n) = true
    · cases e : nrst P w lo n with
      | none =>
        rw [nrst_new h9 (Or.inl e)] at h
        cases h
        exact ⟨by omega, by omega, h9⟩
      | some q2 =>
        by_cases h8 : (((lo + n : Nat) : Int) - w).natAbs < ((q2 : Int) - w).natAbs
        · rw [nrst_new h9 (Or.inr ⟨q2, e, h8⟩)] at h
          cases h
          exact ⟨by omega, by omega, h9⟩
        · rw [nrst_far e h8] at h
          have := ih h
          exact ⟨this.1, by omega, this.2.2⟩
    · rw [nrst_no h9] at h
      have := ih h
      exact ⟨this.1, by omega, this.2.2⟩
theorem nrst_ext {P : Nat → Bool} {w : Int} {lo t : Nat} (h : ∀ p, lo + t ≤ p → ¬ P p = true) : ∀ {m : Nat}, t ≤ m → nrst P w lo m = nrst P w lo t := by
  intro m
  induction m with
  | zero => intro h9; rw [show t = 0 by omega]
  | succ m ih =>
    intro h9
    rcases Nat.lt_or_ge t (m + 1) with h8 | h8
    · rw [nrst_no (h _ (by omega))]; exact ih (by omega)
    · rw [show t = m + 1 by omega]
/-- the end of where the last hunk was done, by how much it was off, what came so far, how many were rejected -/
abbrev PS : Type := Nat × Int × List Int32 × Nat
def pwh (a c : List Int32) (s : PS) (h : N4) : Option Nat := nrst (fitB a h.1 h.2.1 c) ((h.1 : Int) + s.2.1) s.1 (c.length + 1 - s.1)
def pstep (a b c : List Int32) (s : PS) (h : N4) : PS := match pwh a c s h with
  | none => (s.1, s.2.1, s.2.2.1, s.2.2.2 + 1)
  | some p => (p + h.2.1, (p : Int) - (h.1 : Int), (s.2.2.1 ++ pt c s.1 p) ++ pt b h.2.2.1 (h.2.2.1 + h.2.2.2), s.2.2.2)
def pfold (a b c : List Int32) (hs : List N4) : PS := hs.foldl (pstep a b c) (0, 0, [], 0)
theorem pfold_snoc (a b c : List Int32) (hs : List N4) (h : N4) : pfold a b c (hs ++ [h]) = pstep a b c (pfold a b c hs) h := by rw [pfold, pfold, List.foldl_append]; rfl
theorem pstep_none {a b c : List Int32} {s : PS} {h : N4} (e : pwh a c s h = none) : pstep a b c s h = (s.1, s.2.1, s.2.2.1, s.2.2.2 + 1) := by rw [pstep, e]
theorem pstep_some {a b c : List Int32} {s : PS} {h : N4} {p : Nat} (e : pwh a c s h = some p) : pstep a b c s h = (p + h.2.1, (p : Int) - (h.1 : Int), (s.2.2.1 ++ pt c s.1 p) ++ pt b h.2.2.1 (h.2.2.1 + h.2.2.2), s.2.2.2) := by rw [pstep, e]
/-- what comes of c, and how many hunks are rejected -/
def patF (a b c : List Int32) : List Int32 × Nat := ((pfold a b c (hunksOf a b)).2.2.1 ++ pt c (pfold a b c (hunksOf a b)).1 c.length, (pfold a b c (hunksOf a b)).2.2.2)
/-- how many lines of b the hunks have -/
def bsum (hs : List N4) : Nat := (hs.map (fun h => h.2.2.2)).sum
theorem bsum_app (x y : List N4) : bsum (x ++ y) = bsum x + bsum y := by simp [bsum]
def hkok (a b : List Int32) (hs : List N4) : Prop := ∀ h ∈ hs, h.1 + h.2.1 ≤ a.length ∧ h.2.2.1 + h.2.2.2 ≤ b.length
theorem hk1_ok {a b : List Int32} {x i y j : Nat} (hx : x ≤ i) (hi : i ≤ a.length) (hy : y ≤ j) (hj : j ≤ b.length) : hkok a b (hk1 x i y j) ∧ bsum (hk1 x i y j) ≤ j - y := by
  unfold hk1
  split
  · refine ⟨fun h hh => ?_, ?_⟩
    · cases List.mem_singleton.mp hh
      exact ⟨by show x + (i - x) ≤ _; omega, by show y + (j - y) ≤ _; omega⟩
    · simp [bsum]
  · exact ⟨fun h hh => (by cases hh), by simp [bsum]⟩
theorem cutp_ok (a b : List Int32) (i : Nat) (hi : i ≤ a.length) : hkok a b (cutp (prs a b i)).2.2 ∧ bsum (cutp (prs a b i)).2.2 ≤ (cutp (prs a b i)).2.1 := by
  induction i with
  | zero => exact ⟨fun h hh => (by cases hh), Nat.le_refl _⟩
  | succ i ih =>
    have ih := ih (by omega)
    have hc := cutp_prs a b i
    cases h : pn a b i with
    | none => rw [prs_none h]; exact ih
    | some j =>
      have hs := stp_spec (show stp a b (fro a b i) i = some j from h)
      have h1 := hk1_ok (a := a) (b := b) hc.1 (by omega) (show (cutp (prs a b i)).2.1 ≤ j by omega) (by omega)
      rw [prs_some h, cutp_snoc]
      refine ⟨fun h hh => (List.mem_append.mp hh).elim (ih.1 h) (h1.1 h), ?_⟩
      simp only [cstep]
      rw [bsum_app]
      omega
theorem hunks_ok (a b : List Int32) : hkok a b (hunksOf a b) ∧ bsum (hunksOf a b) ≤ b.length ∧ (hunksOf a b).length ≤ a.length + 1 := by
  have hc := cutp_prs a b a.length
  have ho := cutp_ok a b a.length (Nat.le_refl _)
  have hf := fro_le a b a.length
  have h1 := hk1_ok (a := a) (b := b) hc.1 (Nat.le_refl _) (show (cutp (prs a b a.length)).2.1 ≤ b.length by omega) (Nat.le_refl _)
  have hl := hk1_len (cutp (prs a b a.length)).1 a.length (cutp (prs a b a.length)).2.1 b.length
  have hp := (prs_len a b a.length).1
  refine ⟨fun h hh => (List.mem_append.mp hh).elim (ho.1 h) (h1.1 h), ?_, ?_⟩
  · rw [hunksOf, bsum_app]; omega
  · rw [hunksOf, List.length_append]; omega
theorem bsum_take (hs : List N4) (k : Nat) : bsum (hs.take k) ≤ bsum hs := by
  have := bsum_app (hs.take k) (hs.drop k)
  rw [List.take_append_drop] at this
  omega
theorem pfold_ok {a b c : List Int32} {hs : List N4} (hk : hkok a b hs) (ha : a.length ≤ 60) (hc : c.length ≤ 60) : (pfold a b c hs).1 ≤ c.length ∧ -60 ≤ (pfold a b c hs).2.1 ∧ (pfold a b c hs).2.1 ≤ 60 ∧ (pfold a b c hs).2.2.1.length ≤ (pfold a b c hs).1 + bsum hs ∧ (pfold a b c hs).2.2.2 ≤ hs.length := by
  have key : ∀ (n : Nat) (hs : List N4), hs.length = n → hkok a b hs → (pfold a b c hs).1 ≤ c.length ∧ -60 ≤ (pfold a b c hs).2.1 ∧ (pfold a b c hs).2.1 ≤ 60 ∧ (pfold a b c hs).2.2.1.length ≤ (pfold a b c hs).1 + bsum hs ∧ (pfold a b c hs).2.2.2 ≤ hs.length := by
    intro n
    induction n with
    | zero =>
      intro hs hl _
      cases List.length_eq_zero_iff.mp hl
      exact ⟨Nat.zero_le _, show (-60 : Int) ≤ 0 by decide, show (0 : Int) ≤ 60 by decide, Nat.zero_le _, Nat.zero_le _⟩
    | succ n ih =>
      intro hs hl hk
      have hne : hs ≠ [] := fun e => by rw [e] at hl; cases hl
      have e : hs = hs.dropLast ++ [hs.getLast hne] := (List.dropLast_concat_getLast hne).symm
      have hkl := hk (hs.getLast hne) (List.getLast_mem hne)
      have ih := ih hs.dropLast (by rw [List.length_dropLast, hl]; rfl) (fun h hh => hk h (List.dropLast_subset _ hh))
      generalize hs.dropLast = t at e ih
      generalize hs.getLast hne = h at e hkl
      subst e
      rw [pfold_snoc, bsum_app, List.length_append, List.length_singleton]
      cases e9 : pwh a c (pfold a b c t) h with
      | none =>
        rw [pstep_none e9]
        dsimp only
        omega
      | some p =>
        rw [pstep_some e9]
        have hin := nrst_in e9
        have hf := (fitB_iff.mp hin.2.2).1
        dsimp only
        rw [List.length_append, List.length_append, pt_len (by omega), pt_len (by omega), show h.2.2.1 + h.2.2.2 - h.2.2.1 = h.2.2.2 by omega, show bsum [h] = h.2.2.2 by simp [bsum]]
        omega
  exact key _ hs rfl hk
end
section
/-! THE MATHEMATICS, on: versions -/
def ofold (pv : List Nat) (ps : List (Nat × Nat)) (o : List Nat) : List Nat := ps.foldl (fun o p => o.set p.2 (pv.getD p.1 0)) o
theorem ofold_snoc (pv : List Nat) (ps : List (Nat × Nat)) (p : Nat × Nat) (o : List Nat) : ofold pv (ps ++ [p]) o = (ofold pv ps o).set p.2 (pv.getD p.1 0) := by rw [ofold, ofold, List.foldl_append]; rfl
theorem ofold_len (pv : List Nat) (ps : List (Nat × Nat)) : ∀ o : List Nat, (ofold pv ps o).length = o.length := by
  induction ps with
  | nil => intro o; rfl
  | cons p t ih => intro o; show (ofold pv t (o.set p.2 (pv.getD p.1 0))).length = _; rw [ih, List.length_set]
/-- the origins of the lines of a new version xs, behind the versions vs, of which the last one's lines are nw -/
def orig (vs : List (List Nat)) (nw xs : List Int32) : List Nat := ofold (vs.getD (vs.length - 1) []) (prs nw xs nw.length) (List.replicate xs.length vs.length)
theorem orig_len (vs : List (List Nat)) (nw xs : List Int32) : (orig vs nw xs).length = xs.length := by rw [orig, ofold_len, List.length_replicate]
theorem getD_set {o : List Nat} {j x : Nat} (hj : j < o.length) (k : Nat) : (o.set j x).getD k 0 = if k = j then x else o.getD k 0 := by
  simp only [List.getD_eq_getElem?_getD, List.getElem?_set]
  by_cases h : j = k
  · subst h; simp [hj]
  · simp [h, Ne.symm h]
theorem getD_rep {n v k : Nat} (h : k < n) : (List.replicate n v).getD k 0 = v := by simp [List.getD_eq_getElem?_getD, h]
/-- an array of 30 times 60 holds the origins, an array of 30 the sizes -/
def rpV (f : Nat → Int32) (vs : List (List Nat)) : Prop := ∀ v k, v < vs.length → k < (vs.getD v []).length → f (v * 60 + k) = nI ((vs.getD v []).getD k 0)
def rpS (f : Nat → Int32) (vs : List (List Nat)) : Prop := ∀ v, v < vs.length → f v = nI (vs.getD v []).length
theorem vgetD_l {vs : List (List Nat)} {o : List Nat} {v : Nat} (h : v < vs.length) : (vs ++ [o]).getD v [] = vs.getD v [] := by
  simp only [List.getD_eq_getElem?_getD]; rw [List.getElem?_append_left h]
theorem vgetD_r (vs : List (List Nat)) (o : List Nat) : (vs ++ [o]).getD vs.length [] = o := by simp [List.getD_eq_getElem?_getD]
theorem rpV_snoc {f f1 : Nat → Int32} {vs : List (List Nat)} {o : List Nat} (h : rpV f vs) (hl : ∀ v, v < vs.length → (vs.getD v []).length ≤ 60) (h1 : ∀ q, q < vs.length * 60 → f1 q = f q) (h2 : ∀ k, k < o.length → f1 (vs.length * 60 + k) = nI (o.getD k 0)) : rpV f1 (vs ++ [o]) := by
  intro v k hv hk
  rw [List.length_append, List.length_singleton] at hv
  rcases Nat.lt_or_ge v vs.length with h9 | h9
  · rw [vgetD_l h9] at hk ⊢
    have h60 := hl v h9
    have hle : (v + 1) * 60 ≤ vs.length * 60 := Nat.mul_le_mul_right 60 h9
    rw [h1 _ (by omega)]
    exact h v k h9 hk
  · have e : v = vs.length := by omega
    subst e
    rw [vgetD_r] at hk ⊢
    exact h2 k hk
theorem rpS_snoc {f : Nat → Int32} {vs : List (List Nat)} {o : List Nat} (h : rpS f vs) : rpS (upd f vs.length (nI o.length)) (vs ++ [o]) := by
  intro v hv
  rw [List.length_append, List.length_singleton] at hv
  rcases Nat.lt_or_ge v vs.length with h9 | h9
  · rw [pk_un (by omega), vgetD_l h9]; exact h v h9
  · have e : v = vs.length := by omega
    subst e
    rw [pk_us, vgetD_r]
/-- the versions as they stand: the last one's lines are nw -/
def vok (vs : List (List Nat)) (nw : List Int32) : Prop := vs.length ≤ 30 ∧ nw.length ≤ 60 ∧ (∀ v, v < vs.length → (vs.getD v []).length ≤ 60) ∧ (vs.length = 0 → nw = []) ∧ (0 < vs.length → (vs.getD (vs.length - 1) []).length = nw.length)
theorem vok_snoc {vs : List (List Nat)} {nw xs : List Int32} (h : vok vs nw) (hv : vs.length < 30) (hx : xs.length ≤ 60) : vok (vs ++ [orig vs nw xs]) xs := by
  obtain ⟨h1, h2, h3, h4, h5⟩ := h
  refine ⟨by rw [List.length_append, List.length_singleton]; omega, hx, fun v h9 => ?_, fun h9 => ?_, fun _ => ?_⟩
  · rw [List.length_append, List.length_singleton] at h9
    rcases Nat.lt_or_ge v vs.length with h8 | h8
    · rw [vgetD_l h8]; exact h3 v h8
    · rw [show v = vs.length by omega, vgetD_r, orig_len]; exact hx
  · rw [List.length_append, List.length_singleton] at h9; omega
  · rw [List.length_append, List.length_singleton, Nat.add_sub_cancel, vgetD_r, orig_len]
end
section
/-! ROWS of lines -/
abbrev hT (cI cR cJ : ClassId) : List (ClassId × FieldType) := [(cI, .int), (cR, .object "MergeRows$Row"), (cJ, .long)]
set_option maxRecDepth 100000 in
set_option maxHeartbeats 4000000 in
theorem c_Ro_add (l : Launch) (D : va_G) (cI cR cJ : ClassId) (g : Nat → Option va_E) (sz : Nat) (r la n cap : Nat) (f : Nat → Int32) (v : Int32) (h0 : g r = some (.inr (5, [.ref la, .int (nI n)]))) (h1 : g la = some (.inl (cI, cap, .inl f))) (hn : n < cap) (hcap : cap < 4000) : hMv l yRo_add cRo_add 2 (hRm 0 0 0 0) D (hT cI cR cJ) g sz [.ref r, .int v] (fun g1 => hfr g g1 [r, la] ∧ g1 r = some (.inr (5, [.ref la, .int (nI (n + 1))])) ∧ g1 la = some (.inl (cI, cap, .inl (upd f n v)))) := by
  refine hMv_of (by decide +kernel) (Nat.le_of_ble_eq_true rfl) ?_
  intro pX eX RX sX mX argsX belowX methX cX QX AX hR S0 hnm hsz hg hK hS hA0 hend ls hl
  have hl : lv_has ls 2 [(0, .ref r), (1, .int v)] := hl
  have fr : hfr g g [r, la] := hfr.rf
  refine lv_aload_n S0.1 S0.2.1 dRo_add_0 rfl (lv_at hl 0 rfl) ?_
  refine hw_get S0 hK hg h0 rfl inRo 1 (by decide) lf_Ro_15 rfl rfl dRo_add_1 ?_
  refine lv_aload_n S0.1 S0.2.1 dRo_add_4 rfl (lv_at hl 0 rfl) ?_
  refine hw_get S0 hK hg h0 rfl inRo 0 (by decide) lf_Ro_9 rfl rfl dRo_add_5 ?_
  refine hw_alen S0 hK hg h1 0 rfl dRo_add_8 ?_
  refine lv_icmp_ge (tgt := 32) S0.1 S0.2.1 dRo_add_9 (by decide) (fun c_9 => ?_) (fun c_9 => ?_)
  · skip
    have c_9 : cap ≤ n := (nI_leI (by omega) (by omega)).mp c_9
    exact absurd hn (by omega)
  · skip
    have c_9 : ¬ (cap ≤ n) := fun h => c_9 ((nI_leI (by omega) (by omega)).mpr h)
    refine lv_aload_n S0.1 S0.2.1 dRo_add_12 rfl (lv_at hl 0 rfl) ?_
    refine hw_get S0 hK hg h0 rfl inRo 0 (by decide) lf_Ro_9 rfl rfl dRo_add_13 ?_
    refine lv_aload_n S0.1 S0.2.1 dRo_add_16 rfl (lv_at hl 0 rfl) ?_
    refine hw_get S0 hK hg h0 rfl inRo 1 (by decide) lf_Ro_15 rfl rfl dRo_add_17 ?_
    refine lv_iload_n S0.1 S0.2.1 dRo_add_20 rfl (lv_at hl 1 rfl) ?_
    refine hw_iast S0 hK hg hS h1 0 rfl (by omega) (by omega) dRo_add_21 (fun H locs hg hS => ?_)
    obtain ⟨g_1, eg_1⟩ : ∃ z, z = hs g la (.inl (cI, cap, .inl (upd f n v))) := ⟨_, rfl⟩
    have hg : hw D hC AX g_1 H := by rw [eg_1]; exact hg
    have f1_0 : g_1 r = some (.inr (5, [.ref la, .int (nI n)])) := by rw [eg_1, hs_n _ _ (h_ne h0 h1 (fun h => by cases h))]; exact h0
    have f1_1 : g_1 la = some (.inl (cI, cap, .inl (upd f n v))) := by rw [eg_1]; exact hs_s _ _ _
    have fr := fr.put eg_1 (by simp)
    refine lv_aload_n S0.1 S0.2.1 dRo_add_22 rfl (lv_at hl 0 rfl) ?_
    refine lv_dup S0.1 S0.2.1 dRo_add_23 rfl ?_
    refine hw_get S0 hK hg f1_0 rfl inRo 1 (by decide) lf_Ro_15 rfl rfl dRo_add_24 ?_
    refine lv_iconst (v := nI 1) S0.1 S0.2.1 dRo_add_27 (by decide) ?_
    refine lv_iadd S0.1 S0.2.1 dRo_add_28 ?_
    refine hw_top (nI (n + 1)) (nI_add _ _) ?_
    refine hw_put S0 hK hg hS f1_0 rfl inRo tyRo tokRo nmRo 1 (by decide) lf_Ro_15 rfl rfl rfl rfl (Nat.le_of_ble_eq_true rfl) dRo_add_29 (fun H locs hg hS => ?_)
    obtain ⟨g_2, eg_2⟩ : ∃ z, z = hs g_1 r (.inr (5, [.ref la, .int (nI (n + 1))])) := ⟨_, rfl⟩
    have hg : hw D hC AX g_2 H := by rw [eg_2]; exact hg
    have f2_0 : g_2 la = some (.inl (cI, cap, .inl (upd f n v))) := by rw [eg_2, hs_n _ _ (h_ne f1_1 f1_0 (fun h => by cases h))]; exact f1_1
    have f2_1 : g_2 r = some (.inr (5, [.ref la, .int (nI (n + 1))])) := by rw [eg_2]; exact hs_s _ _ _
    have fr := fr.put eg_2 (by simp)
    exact hend _ _ _ _ _ _ _ (by decide) (by decide) (⟨fr, f2_1, f2_0⟩) hg hS dRo_add_32
set_option maxRecDepth 100000 in
set_option maxHeartbeats 4000000 in
theorem c_Ro_hasAt (l : Launch) (D : va_G) (cI cR cJ : ClassId) (g : Nat → Option va_E) (sz : Nat) (r la n cap : Nat) (f : Nat → Int32) (p v : Int32) (h0 : g r = some (.inr (5, [.ref la, .int (nI n)]))) (h1 : g la = some (.inl (cI, cap, .inl f))) (hn : n ≤ cap) (hcap : cap < 4000) : hMi l yRo_hasAt cRo_hasAt 3 .boolean (hRm 0 0 0 0) D (hT cI cR cJ) g sz [.ref r, .int p, .int v] (fun o g1 => g1 = g ∧ ((o = 1 ∧ ∃ k : Nat, k < n ∧ p = nI k ∧ f k = v) ∨ (o = 0 ∧ ¬ ∃ k : Nat, k < n ∧ p = nI k ∧ f k = v))) := by
  refine hMi_of (by decide +kernel) (Nat.le_of_ble_eq_true rfl) ?_
  intro pX eX RX sX mX argsX belowX methX cX QX AX hR S0 hnm hsz hg hK hS hA0 hend ls hl
  have hl : lv_has ls 3 [(0, .ref r), (1, .int p), (2, .int v)] := hl
  refine lv_iload_n S0.1 S0.2.1 dRo_hasAt_0 rfl (lv_at hl 1 rfl) ?_
  refine lv_if_lt (tgt := 26) S0.1 S0.2.1 dRo_hasAt_1 (by decide) (fun c_1 => ?_) (fun c_1 => ?_)
  · skip
    refine lv_iconst (v := nI 0) S0.1 S0.2.1 dRo_hasAt_26 (by decide) ?_
    refine hend _ _ _ _ _ _ _ _ (by decide) (by decide) rfl ⟨rfl, ?_⟩ hg hS dRo_hasAt_27
    exact Or.inr ⟨rfl, fun ⟨k, hk, hp, _⟩ => by rw [hp] at c_1; exact nI_pos (by omega) c_1⟩
  · skip
    obtain ⟨k, hk, rfl⟩ := nI_of c_1
    refine lv_iload_n S0.1 S0.2.1 dRo_hasAt_4 rfl (lv_at hl 1 rfl) ?_
    refine lv_aload_n S0.1 S0.2.1 dRo_hasAt_5 rfl (lv_at hl 0 rfl) ?_
    refine hw_get S0 hK hg h0 rfl inRo 1 (by decide) lf_Ro_15 rfl rfl dRo_hasAt_6 ?_
    refine lv_icmp_ge (tgt := 26) S0.1 S0.2.1 dRo_hasAt_9 (by decide) (fun c_9 => ?_) (fun c_9 => ?_)
    · skip
      have c_9 : n ≤ k := (nI_leI (by omega) (by omega)).mp c_9
      refine lv_iconst (v := nI 0) S0.1 S0.2.1 dRo_hasAt_26 (by decide) ?_
      refine hend _ _ _ _ _ _ _ _ (by decide) (by decide) rfl ⟨rfl, ?_⟩ hg hS dRo_hasAt_27
      exact Or.inr ⟨rfl, fun ⟨k1, hk1, hp, _⟩ => by have := (nI_eq (by omega) (by omega)).mp hp; omega⟩
    · skip
      have c_9 : ¬ (n ≤ k) := fun h => c_9 ((nI_leI (by omega) (by omega)).mpr h)
      refine lv_aload_n S0.1 S0.2.1 dRo_hasAt_12 rfl (lv_at hl 0 rfl) ?_
      refine hw_get S0 hK hg h0 rfl inRo 0 (by decide) lf_Ro_9 rfl rfl dRo_hasAt_13 ?_
      refine lv_iload_n S0.1 S0.2.1 dRo_hasAt_16 rfl (lv_at hl 1 rfl) ?_
      refine hw_iald S0 hK hg h1 0 rfl (by omega) (by omega) dRo_hasAt_17 ?_
      refine lv_iload_n S0.1 S0.2.1 dRo_hasAt_18 rfl (lv_at hl 2 rfl) ?_
      refine lv_icmp_ne (tgt := 26) S0.1 S0.2.1 dRo_hasAt_19 (by decide) (fun c_19 => ?_) (fun c_19 => ?_)
      · skip
        refine lv_iconst (v := nI 0) S0.1 S0.2.1 dRo_hasAt_26 (by decide) ?_
        refine hend _ _ _ _ _ _ _ _ (by decide) (by decide) rfl ⟨rfl, ?_⟩ hg hS dRo_hasAt_27
        exact Or.inr ⟨rfl, fun ⟨k1, hk1, hp, hf⟩ => c_19 (by have := (nI_eq (by omega) (by omega)).mp hp; subst this; exact hf)⟩
      · skip
        refine lv_iconst (v := nI 1) S0.1 S0.2.1 dRo_hasAt_22 (by decide) ?_
        refine lv_goto (tgt := 27) S0.1 S0.2.1 dRo_hasAt_23 (by decide) ?_
        refine hend _ _ _ _ _ _ _ _ (by decide) (by decide) rfl ⟨rfl, ?_⟩ hg hS dRo_hasAt_27
        exact Or.inl ⟨rfl, k, by omega, rfl, c_19⟩
set_option maxRecDepth 100000 in
set_option maxHeartbeats 4000000 in
theorem c_Ro_firstPlaceOf (l : Launch) (D : va_G) (cI cR cJ : ClassId) (g : Nat → Option va_E) (sz : Nat) (r la n cap i : Nat) (f : Nat → Int32) (v : Int32) (h0 : g r = some (.inr (5, [.ref la, .int (nI n)]))) (h1 : g la = some (.inl (cI, cap, .inl f))) (hi : i ≤ n) (hn : n ≤ cap) (hcap : cap < 4000) : hMi l yRo_firstPlaceOf cRo_firstPlaceOf 4 .int (hRm 0 0 0 0) D (hT cI cR cJ) g sz [.ref r, .int v, .int (nI i)] (fun o g1 => g1 = g ∧ ((∃ k : Nat, o = nI k ∧ i ≤ k ∧ k < n ∧ f k = v ∧ ∀ q, i ≤ q → q < k → f q ≠ v) ∨ (o = -1 ∧ ∀ q, i ≤ q → q < n → f q ≠ v))) := by
  refine hMi_of (by decide +kernel) (Nat.le_of_ble_eq_true rfl) ?_
  intro pX eX RX sX mX argsX belowX methX cX QX AX hR S0 hnm hsz hg hK hS hA0 hend ls hl
  have hl : lv_has ls 4 [(0, .ref r), (1, .int v), (2, .int (nI i))] := hl
  refine lv_iload_n S0.1 S0.2.1 dRo_firstPlaceOf_0 rfl (lv_at hl 2 rfl) ?_
  refine lv_istore_n (lv' := [(3, .int (nI i)), (0, .ref r), (1, .int v), (2, .int (nI i))]) S0.1 S0.2.1 dRo_firstPlaceOf_1 rfl hl (by decide) rfl (fun ls hl => ?_)
  have loop_2 : ∀ (n_2 : Nat) (k : Nat) (H : Heap) (locs : List Loc) (ls : Array Slot), n - k < n_2 → (i ≤ k ∧ k ≤ n) → (∀ q, i ≤ q → q < k → f q ≠ v) → hw D hC AX g H → va_S AX sX.heap H locs → lv_has ls 4 [(0, .ref r), (1, .int v), (3, .int (nI k))] → W pX l eX RX sX mX argsX belowX methX cX H locs 0 0 QX (F0 mX 2 ls []) := by
    intro n_2
    induction n_2 with
    | zero => intros; omega
    | succ n_2 ih_2 =>
      intro k H locs ls hm_2 hk hno hg hS hl
      refine lv_iload_n S0.1 S0.2.1 dRo_firstPlaceOf_2 rfl (lv_at hl 2 rfl) ?_
      refine lv_aload_n S0.1 S0.2.1 dRo_firstPlaceOf_3 rfl (lv_at hl 0 rfl) ?_
      refine hw_get S0 hK hg h0 rfl inRo 1 (by decide) lf_Ro_15 rfl rfl dRo_firstPlaceOf_4 ?_
      refine lv_icmp_ge (tgt := 28) S0.1 S0.2.1 dRo_firstPlaceOf_7 (by decide) (fun c_7 => ?_) (fun c_7 => ?_)
      · skip
        have c_7 : n ≤ k := (nI_leI (by omega) (by omega)).mp c_7
        refine lv_iconst (v := (-1)) S0.1 S0.2.1 dRo_firstPlaceOf_28 (by decide) ?_
        exact hend _ _ _ _ _ _ _ _ (by decide) (by decide) rfl (⟨rfl, Or.inr ⟨rfl, fun q h1 h2 => hno q h1 (by omega)⟩⟩) hg hS dRo_firstPlaceOf_29
      · skip
        have c_7 : ¬ (n ≤ k) := fun h => c_7 ((nI_leI (by omega) (by omega)).mpr h)
        refine lv_aload_n S0.1 S0.2.1 dRo_firstPlaceOf_10 rfl (lv_at hl 0 rfl) ?_
        refine hw_get S0 hK hg h0 rfl inRo 0 (by decide) lf_Ro_9 rfl rfl dRo_firstPlaceOf_11 ?_
        refine lv_iload_n S0.1 S0.2.1 dRo_firstPlaceOf_14 rfl (lv_at hl 2 rfl) ?_
        refine hw_iald S0 hK hg h1 0 rfl (by omega) (by omega) dRo_firstPlaceOf_15 ?_
        refine lv_iload_n S0.1 S0.2.1 dRo_firstPlaceOf_16 rfl (lv_at hl 1 rfl) ?_
        refine lv_icmp_ne (tgt := 22) S0.1 S0.2.1 dRo_firstPlaceOf_17 (by decide) (fun c_17 => ?_) (fun c_17 => ?_)
        · skip
          refine lv_iinc (v := nI (k + 1)) (lv' := [(3, .int (nI (k + 1))), (0, .ref r), (1, .int v)]) S0.1 S0.2.1 dRo_firstPlaceOf_22 hl (k := 2) rfl (by exact nI_add _ 1) (by decide) rfl (fun ls hl => ?_)
          refine lv_goto (tgt := 2) S0.1 S0.2.1 dRo_firstPlaceOf_25 (by decide) ?_
          exact ih_2 (k + 1) _ _ _ (by omega) (⟨by omega, by omega⟩) (fun q h1 h2 => by rcases Nat.lt_or_ge q k with h | h; exact hno q h1 h; rw [show q = k by omega]; exact c_17) hg hS (lv_sub hl [1, 2, 0] rfl)
        · skip
          refine lv_iload_n S0.1 S0.2.1 dRo_firstPlaceOf_20 rfl (lv_at hl 2 rfl) ?_
          exact hend _ _ _ _ _ _ _ _ (by decide) (by decide) rfl (⟨rfl, Or.inl ⟨k, rfl, hk.1, by omega, c_17, hno⟩⟩) hg hS dRo_firstPlaceOf_21
  exact loop_2 _ i _ _ _ (Nat.lt_succ_self _) (⟨Nat.le_refl _, hi⟩) (fun q h1 h2 => by omega) hg hS (lv_sub hl [1, 2, 0] rfl)
set_option maxRecDepth 100000 in
set_option maxHeartbeats 4000000 in
theorem c_Ro_addPart (l : Launch) (D : va_G) (cI cR cJ : ClassId) (g : Nat → Option va_E) (sz : Nat) (r la n cap o lo mo capo i j : Nat) (f fo : Nat → Int32) (h0 : g r = some (.inr (5, [.ref la, .int (nI n)]))) (h1 : g la = some (.inl (cI, cap, .inl f))) (h2 : g o = some (.inr (5, [.ref lo, .int (nI mo)]))) (h3 : g lo = some (.inl (cI, capo, .inl fo))) (hor : o ≠ r) (hol : lo ≠ la) (hij : i ≤ j) (hj : j ≤ capo) (hn : n + (j - i) ≤ cap) (hcap : cap < 4000) (hco : capo < 4000) : hMv l yRo_addPart cRo_addPart 5 (hRm 1 21 0 0) D (hT cI cR cJ) g sz [.ref r, .ref o, .int (nI i), .int (nI j)] (fun g1 => hfr g g1 [r, la] ∧ g1 r = some (.inr (5, [.ref la, .int (nI (n + (j - i)))])) ∧ ∃ f1, g1 la = some (.inl (cI, cap, .inl f1)) ∧ (∀ q, q < n → f1 q = f q) ∧ ∀ q, q < j - i → f1 (n + q) = fo (i + q)) := by
  refine hMv_of (by decide +kernel) (Nat.le_of_ble_eq_true rfl) ?_
  intro pX eX RX sX mX argsX belowX methX cX QX AX hR S0 hnm hsz hg hK hS hA0 hend ls hl
  have hl : lv_has ls 5 [(0, .ref r), (1, .ref o), (2, .int (nI i)), (3, .int (nI j))] := hl
  have fr : hfr g g [r, la] := hfr.rf
  refine lv_iload_n S0.1 S0.2.1 dRo_addPart_0 rfl (lv_at hl 2 rfl) ?_
  refine lv_istore (lv' := [(4, .int (nI i)), (0, .ref r), (1, .ref o), (2, .int (nI i)), (3, .int (nI j))]) S0.1 S0.2.1 dRo_addPart_1 hl (by decide) rfl (fun ls hl => ?_)
  have loop_3 : ∀ (n_3 : Nat) (t : Nat) (fl : Nat → Int32) (gl : Nat → Option va_E) (H : Heap) (locs : List Loc) (ls : Array Slot), j - (i + t) < n_3 → (i + t ≤ j) → (∀ q, q < n → fl q = f q) → (∀ q, q < t → fl (n + q) = fo (i + q)) → (hfr g gl [r, la]) → (gl r = some (.inr (5, [.ref la, .int (nI (n + t))]))) → (gl la = some (.inl (cI, cap, .inl fl))) → hw D hC AX gl H → va_S AX sX.heap H locs → lv_has ls 5 [(0, .ref r), (1, .ref o), (3, .int (nI j)), (4, .int (nI (i + t)))] → W pX l eX RX sX mX argsX belowX methX cX H locs 0 0 QX (F0 mX 3 ls []) := by
    intro n_3
    induction n_3 with
    | zero => intros; omega
    | succ n_3 ih_3 =>
      intro t fl gl H locs ls hm_3 ht hf1 hf2 fr e0 e1 hg hS hl
      have q3_o := fr.at (h_nm hor (h_nm (h_ne h2 h1 (fun h => by cases h)) h_n0)) h2
      have q3_lo := fr.at (h_nm (h_ne h3 h0 (fun h => by cases h)) (h_nm hol h_n0)) h3
      refine lv_iload S0.1 S0.2.1 dRo_addPart_3 (lv_at hl 3 rfl) ?_
      refine lv_iload_n S0.1 S0.2.1 dRo_addPart_5 rfl (lv_at hl 2 rfl) ?_
      refine lv_icmp_ge (tgt := 26) S0.1 S0.2.1 dRo_addPart_6 (by decide) (fun c_6 => ?_) (fun c_6 => ?_)
      · skip
        have c_6 : j ≤ (i + t) := (nI_leI (by omega) (by omega)).mp c_6
        have et : t = j - i := by omega
        subst et
        exact hend _ _ _ _ _ _ _ (by decide) (by decide) (⟨fr, e0, fl, e1, hf1, hf2⟩) hg hS dRo_addPart_26
      · skip
        have c_6 : ¬ (j ≤ (i + t)) := fun h => c_6 ((nI_leI (by omega) (by omega)).mpr h)
        refine lv_aload_n S0.1 S0.2.1 dRo_addPart_9 rfl (lv_at hl 0 rfl) ?_
        refine lv_aload_n S0.1 S0.2.1 dRo_addPart_10 rfl (lv_at hl 1 rfl) ?_
        refine hw_get S0 hK hg q3_o rfl inRo 0 (by decide) lf_Ro_9 rfl rfl dRo_addPart_11 ?_
        refine lv_iload S0.1 S0.2.1 dRo_addPart_14 (lv_at hl 3 rfl) ?_
        refine hw_iald S0 hK hg q3_lo 0 rfl (by omega) (by omega) dRo_addPart_16 ?_
        refine hw_Vv (As := [.int (fo (i + t))]) (rest := []) S0 hK hg hS hA0 e0 rfl (c_Ro_add l D cI cR cJ gl _ r la (n + t) cap fl (fo (i + t)) e0 e1 (by omega) hcap) kRo_add lm_Ro_19 (hR.call rfl) rfl hl.1 rfl (Nat.le_of_ble_eq_true rfl) dRo_addPart_17 (hR.new (by decide) (by decide)) (fun g_1 H locs hp_17 hg hS => ?_)
        obtain ⟨fr1, a0, a1⟩ := hp_17
        have k1_0 := fr1.at (h_nm hor (h_nm (h_ne q3_o e1 (fun h => by cases h)) h_n0)) q3_o
        have k1_1 := fr1.at (h_nm (h_ne q3_lo e0 (fun h => by cases h)) (h_nm hol h_n0)) q3_lo
        have fr := fr.call fr1 (by simp)
        refine lv_iinc (v := nI (i + t + 1)) (lv' := [(4, .int (nI (i + t + 1))), (0, .ref r), (1, .ref o), (3, .int (nI j))]) S0.1 S0.2.1 dRo_addPart_20 hl (k := 3) rfl (by exact nI_add _ 1) (by decide) rfl (fun ls hl => ?_)
        refine lv_goto (tgt := 3) S0.1 S0.2.1 dRo_addPart_23 (by decide) ?_
        exact ih_3 (t + 1) (upd fl (n + t) (fo (i + t))) g_1 _ _ _ (by omega) (by omega) (fun q h => by rw [pk_un (by omega)]; exact hf1 q h) (fun q h => by rcases Nat.lt_or_ge q t with h9 | h9; rw [pk_un (by omega)]; exact hf2 q h9; rw [show q = t by omega, pk_us]) fr a0 a1 hg hS (lv_sub hl [1, 2, 3, 0] rfl)
  exact loop_3 _ 0 f g _ _ _ (Nat.lt_succ_self _) (by omega) (fun q _ => rfl) (fun q h => absurd h (Nat.not_lt_zero q)) fr h0 h1 hg hS (lv_sub hl [1, 2, 4, 0] rfl)
set_option maxRecDepth 100000 in
set_option maxHeartbeats 4000000 in
theorem c_Ro_become (l : Launch) (D : va_G) (cI cR cJ : ClassId) (g : Nat → Option va_E) (sz : Nat) (r la n cap o lo mo capo : Nat) (f fo : Nat → Int32) (h0 : g r = some (.inr (5, [.ref la, .int (nI n)]))) (h1 : g la = some (.inl (cI, cap, .inl f))) (h2 : g o = some (.inr (5, [.ref lo, .int (nI mo)]))) (h3 : g lo = some (.inl (cI, capo, .inl fo))) (hor : o ≠ r) (hol : lo ≠ la) (hj : mo ≤ capo) (hn : mo ≤ cap) (hcap : cap < 4000) (hco : capo < 4000) : hMv l yRo_become cRo_become 2 (hRm 2 45 0 0) D (hT cI cR cJ) g sz [.ref r, .ref o] (fun g1 => hfr g g1 [r, la] ∧ g1 r = some (.inr (5, [.ref la, .int (nI mo)])) ∧ ∃ f1, g1 la = some (.inl (cI, cap, .inl f1)) ∧ ∀ q, q < mo → f1 q = fo q) := by
  refine hMv_of (by decide +kernel) (Nat.le_of_ble_eq_true rfl) ?_
  intro pX eX RX sX mX argsX belowX methX cX QX AX hR S0 hnm hsz hg hK hS hA0 hend ls hl
  have hl : lv_has ls 2 [(0, .ref r), (1, .ref o)] := hl
  have fr : hfr g g [r, la] := hfr.rf
  refine lv_aload_n S0.1 S0.2.1 dRo_become_0 rfl (lv_at hl 0 rfl) ?_
  refine lv_iconst (v := nI 0) S0.1 S0.2.1 dRo_become_1 (by decide) ?_
  refine hw_put S0 hK hg hS h0 rfl inRo tyRo tokRo nmRo 1 (by decide) lf_Ro_15 rfl rfl rfl rfl (Nat.le_of_ble_eq_true rfl) dRo_become_2 (fun H locs hg hS => ?_)
  obtain ⟨g_1, eg_1⟩ : ∃ z, z = hs g r (.inr (5, [.ref la, .int (nI 0)])) := ⟨_, rfl⟩
  have hg : hw D hC AX g_1 H := by rw [eg_1]; exact hg
  have f1_0 : g_1 la = some (.inl (cI, cap, .inl f)) := by rw [eg_1, hs_n _ _ (h_ne h1 h0 (fun h => by cases h))]; exact h1
  have f1_1 : g_1 o = some (.inr (5, [.ref lo, .int (nI mo)])) := by rw [eg_1, hs_n _ _ hor]; exact h2
  have f1_2 : g_1 lo = some (.inl (cI, capo, .inl fo)) := by rw [eg_1, hs_n _ _ (h_ne h3 h0 (fun h => by cases h))]; exact h3
  have f1_3 : g_1 r = some (.inr (5, [.ref la, .int (nI 0)])) := by rw [eg_1]; exact hs_s _ _ _
  have fr := fr.put eg_1 (by simp)
  refine lv_aload_n S0.1 S0.2.1 dRo_become_5 rfl (lv_at hl 0 rfl) ?_
  refine lv_aload_n S0.1 S0.2.1 dRo_become_6 rfl (lv_at hl 1 rfl) ?_
  refine lv_iconst (v := nI 0) S0.1 S0.2.1 dRo_become_7 (by decide) ?_
  refine lv_aload_n S0.1 S0.2.1 dRo_become_8 rfl (lv_at hl 1 rfl) ?_
  refine hw_get S0 hK hg f1_1 rfl inRo 1 (by decide) lf_Ro_15 rfl rfl dRo_become_9 ?_
  refine hw_Vv (As := [.ref o, .int (nI 0), .int (nI mo)]) (rest := []) S0 hK hg hS hA0 f1_3 rfl (c_Ro_addPart l D cI cR cJ g_1 _ r la 0 cap o lo mo capo 0 mo f fo f1_3 f1_0 f1_1 f1_2 hor hol (by omega) hj (by omega) hcap hco) kRo_addPart lm_Ro_23 (hR.call rfl) rfl hl.1 rfl (Nat.le_of_ble_eq_true rfl) dRo_become_12 (hR.new (by decide) (by decide)) (fun g_2 H locs hp_12 hg hS => ?_)
  obtain ⟨fr1, a0, f1, a1, a2, a3⟩ := hp_12
  have fr := fr.call fr1 (by simp)
  simp only [Nat.zero_add, Nat.sub_zero] at a0 a3
  exact hend _ _ _ _ _ _ _ (by decide) (by decide) (⟨fr, a0, f1, a1, a3⟩) hg hS dRo_become_15
end
section
/-! THE COMMON of two rows -/
theorem ms_eq {a b : List Int32} {fi : Nat → Int32} {i j : Nat} (hi : i < a.length) (hj : j < b.length) (hrow : ∀ x y, i + 1 ≤ x → x ≤ a.length → y ≤ b.length → fi (x * 61 + y) = nI (Lc a b x y)) (h : a.getD i 0 = b.getD j 0) : nI 1 + fi (i * 61 + j + 61 + 1) = nI (Lc a b i j) := by
  rw [show i * 61 + j + 61 + 1 = (i + 1) * 61 + (j + 1) by omega, hrow (i + 1) (j + 1) (by omega) (by omega) (by omega), Lc_step hi hj, if_pos h, nI_add, Nat.add_comm]
theorem ms_ne {a b : List Int32} {fi : Nat → Int32} {i j : Nat} (hi : i < a.length) (hj : j < b.length) (ha : a.length ≤ 60) (hrow : ∀ x y, i + 1 ≤ x → x ≤ a.length → y ≤ b.length → fi (x * 61 + y) = nI (Lc a b x y)) (hin : ∀ y, j + 1 ≤ y → y ≤ b.length → fi (i * 61 + y) = nI (Lc a b i y)) (h : ¬ a.getD i 0 = b.getD j 0) : (if fi (i * 61 + j + 61) < fi (i * 61 + j + 1) then fi (i * 61 + j + 1) else fi (i * 61 + j + 61)) = nI (Lc a b i j) := by
  have h1 := Lc_le a b (i + 1) j
  have h2 := Lc_le a b i (j + 1)
  rw [show i * 61 + j + 61 = (i + 1) * 61 + j by omega, show i * 61 + j + 1 = i * 61 + (j + 1) by omega, hrow (i + 1) j (by omega) (by omega) (by omega), hin (j + 1) (by omega) (by omega), nI_max (by omega) (by omega), Lc_step hi hj, if_neg h]
theorem ms_step {a b : List Int32} {fi : Nat → Int32} {i j : Nat} {v : Int32} (hi : i < a.length) (hj : j < b.length) (hb : b.length ≤ 60) (hv : v = nI (Lc a b i j)) (hrow : ∀ x y, i + 1 ≤ x → x ≤ a.length → y ≤ b.length → fi (x * 61 + y) = nI (Lc a b x y)) (hcol : ∀ x, x ≤ a.length → fi (x * 61 + b.length) = nI 0) (hin : ∀ y, j + 1 ≤ y → y ≤ b.length → fi (i * 61 + y) = nI (Lc a b i y)) :
    (∀ x y, i + 1 ≤ x → x ≤ a.length → y ≤ b.length → upd fi (i * 61 + j) v (x * 61 + y) = nI (Lc a b x y)) ∧ (∀ x, x ≤ a.length → upd fi (i * 61 + j) v (x * 61 + b.length) = nI 0) ∧ ∀ y, j ≤ y → y ≤ b.length → upd fi (i * 61 + j) v (i * 61 + y) = nI (Lc a b i y) := by
  refine ⟨fun x y h1 h2 h3 => ?_, fun x h1 => ?_, fun y h1 h2 => ?_⟩
  · rw [pk_un (by omega)]; exact hrow x y h1 h2 h3
  · rw [pk_un (by omega)]; exact hcol x h1
  · by_cases e : y = j
    · subst e; rw [pk_us]; exact hv
    · rw [pk_un (by omega)]; exact hin y (by omega) h2
theorem nI_m1 {k : Nat} (h : k < 2 ^ 31) : ¬ nI k = -1 := fun e => nI_pos h (by rw [e]; decide +kernel)
set_option maxRecDepth 100000 in
set_option maxHeartbeats 4000000 in
theorem c_Co_clearEnds (l : Launch) (D : va_G) (cI cR cJ : ClassId) (g : Nat → Option va_E) (sz : Nat) (cm pa pb len ea eb : Nat) (cnt : Int32) (fl : Nat → Int32) (h0 : g cm = some (.inr (0, [.ref pa, .ref pb, .int cnt, .ref len]))) (h1 : g len = some (.inl (cI, 3721, .inl fl))) (ha : ea ≤ 60) (hb : eb ≤ 60) : hMv l yCo_clearEnds cCo_clearEnds 4 (hRm 0 0 0 0) D (hT cI cR cJ) g sz [.ref cm, .int (nI ea), .int (nI eb)] (fun g1 => hfr g g1 [len] ∧ ∃ f1, g1 len = some (.inl (cI, 3721, .inl f1)) ∧ (∀ x, x ≤ ea → f1 (x * 61 + eb) = nI 0) ∧ ∀ y, y ≤ eb → f1 (ea * 61 + y) = nI 0) := by
  refine hMv_of (by decide +kernel) (Nat.le_of_ble_eq_true rfl) ?_
  intro pX eX RX sX mX argsX belowX methX cX QX AX hR S0 hnm hsz hg hK hS hA0 hend ls hl
  have hl : lv_has ls 4 [(0, .ref cm), (1, .int (nI ea)), (2, .int (nI eb))] := hl
  have fr : hfr g g [len] := hfr.rf
  refine lv_iconst (v := nI 0) S0.1 S0.2.1 dCo_clearEnds_0 (by decide) ?_
  refine lv_istore_n (lv' := [(3, .int (nI 0)), (0, .ref cm), (1, .int (nI ea)), (2, .int (nI eb))]) S0.1 S0.2.1 dCo_clearEnds_1 rfl hl (by decide) rfl (fun ls hl => ?_)
  have loop_2 : ∀ (n_2 : Nat) (x : Nat) (fx : Nat → Int32) (gl : Nat → Option va_E) (H : Heap) (locs : List Loc) (ls : Array Slot), ea + 1 - x < n_2 → (x ≤ ea + 1) → (∀ q, q < x → fx (q * 61 + eb) = nI 0) → (hfr g gl [len]) → (gl len = some (.inl (cI, 3721, .inl fx))) → hw D hC AX gl H → va_S AX sX.heap H locs → lv_has ls 4 [(0, .ref cm), (1, .int (nI ea)), (2, .int (nI eb)), (3, .int (nI x))] → W pX l eX RX sX mX argsX belowX methX cX H locs 0 0 QX (F0 mX 2 ls []) := by
    intro n_2
    induction n_2 with
    | zero => intros; omega
    | succ n_2 ih_2 =>
      intro x fx gl H locs ls hm_2 hx hz fr e1 hg hS hl
      have q2_cm := fr.at (h_nm (h_ne h0 h1 (fun h => by cases h)) h_n0) h0
      refine lv_iload_n S0.1 S0.2.1 dCo_clearEnds_2 rfl (lv_at hl 3 rfl) ?_
      refine lv_iload_n S0.1 S0.2.1 dCo_clearEnds_3 rfl (lv_at hl 1 rfl) ?_
      refine lv_icmp_gt (tgt := 25) S0.1 S0.2.1 dCo_clearEnds_4 (by decide) (fun c_4 => ?_) (fun c_4 => ?_)
      · skip
        have c_4 : ea < x := (nI_ltI (by omega) (by omega)).mp c_4
        refine lv_iconst (v := nI 0) S0.1 S0.2.1 dCo_clearEnds_25 (by decide) ?_
        refine lv_istore_n (lv' := [(3, .int (nI 0)), (0, .ref cm), (1, .int (nI ea)), (2, .int (nI eb))]) S0.1 S0.2.1 dCo_clearEnds_26 rfl hl (by decide) rfl (fun ls hl => ?_)
        have loop_27 : ∀ (n_27 : Nat) (y : Nat) (fy : Nat → Int32) (gm : Nat → Option va_E) (H : Heap) (locs : List Loc) (ls : Array Slot), eb + 1 - y < n_27 → (y ≤ eb + 1) → (∀ q, q ≤ ea → fy (q * 61 + eb) = nI 0) → (∀ q, q < y → fy (ea * 61 + q) = nI 0) → (hfr g gm [len]) → (gm len = some (.inl (cI, 3721, .inl fy))) → hw D hC AX gm H → va_S AX sX.heap H locs → lv_has ls 4 [(0, .ref cm), (1, .int (nI ea)), (2, .int (nI eb)), (3, .int (nI y))] → W pX l eX RX sX mX argsX belowX methX cX H locs 0 0 QX (F0 mX 27 ls []) := by
          intro n_27
          induction n_27 with
          | zero => intros; omega
          | succ n_27 ih_27 =>
            intro y fy gm H locs ls hm_27 hy hz1 hz2 fr e2 hg hS hl
            have q27_cm := fr.at (h_nm (h_ne q2_cm e1 (fun h => by cases h)) h_n0) h0
            refine lv_iload_n S0.1 S0.2.1 dCo_clearEnds_27 rfl (lv_at hl 3 rfl) ?_
            refine lv_iload_n S0.1 S0.2.1 dCo_clearEnds_28 rfl (lv_at hl 2 rfl) ?_
            refine lv_icmp_gt (tgt := 50) S0.1 S0.2.1 dCo_clearEnds_29 (by decide) (fun c_29 => ?_) (fun c_29 => ?_)
            · skip
              have c_29 : eb < y := (nI_ltI (by omega) (by omega)).mp c_29
              exact hend _ _ _ _ _ _ _ (by decide) (by decide) (⟨fr, fy, e2, hz1, fun q h => hz2 q (by omega)⟩) hg hS dCo_clearEnds_50
            · skip
              have c_29 : ¬ (eb < y) := fun h => c_29 ((nI_ltI (by omega) (by omega)).mpr h)
              refine lv_aload_n S0.1 S0.2.1 dCo_clearEnds_32 rfl (lv_at hl 0 rfl) ?_
              refine hw_get S0 hK hg q27_cm rfl inCo 3 (by decide) lf_Co_22 rfl rfl dCo_clearEnds_33 ?_
              refine lv_iload_n S0.1 S0.2.1 dCo_clearEnds_36 rfl (lv_at hl 1 rfl) ?_
              refine lv_bipush (v := nI 61) S0.1 S0.2.1 dCo_clearEnds_37 (by decide) ?_
              refine lv_imul S0.1 S0.2.1 dCo_clearEnds_39 ?_
              refine hw_top (nI (ea * 61)) (pk_mul _ _) ?_
              refine lv_iload_n S0.1 S0.2.1 dCo_clearEnds_40 rfl (lv_at hl 3 rfl) ?_
              refine lv_iadd S0.1 S0.2.1 dCo_clearEnds_41 ?_
              refine hw_top (nI ((ea * 61) + y)) (nI_add _ _) ?_
              refine lv_iconst (v := nI 0) S0.1 S0.2.1 dCo_clearEnds_42 (by decide) ?_
              refine hw_iast S0 hK hg hS e2 0 rfl (by omega) (by omega) dCo_clearEnds_43 (fun H locs hg hS => ?_)
              obtain ⟨g_1, eg_1⟩ : ∃ z, z = hs gm len (.inl (cI, 3721, .inl (upd fy ((ea * 61) + y) (nI 0)))) := ⟨_, rfl⟩
              have hg : hw D hC AX g_1 H := by rw [eg_1]; exact hg
              have f1_0 : g_1 cm = some (.inr (0, [.ref pa, .ref pb, .int cnt, .ref len])) := by rw [eg_1, hs_n _ _ (h_ne q27_cm e2 (fun h => by cases h))]; exact q27_cm
              have f1_1 : g_1 len = some (.inl (cI, 3721, .inl (upd fy ((ea * 61) + y) (nI 0)))) := by rw [eg_1]; exact hs_s _ _ _
              have fr := fr.put eg_1 (by simp)
              refine lv_iinc (v := nI (y + 1)) (lv' := [(3, .int (nI (y + 1))), (0, .ref cm), (1, .int (nI ea)), (2, .int (nI eb))]) S0.1 S0.2.1 dCo_clearEnds_44 hl (k := 3) rfl (by exact nI_add _ 1) (by decide) rfl (fun ls hl => ?_)
              refine lv_goto (tgt := 27) S0.1 S0.2.1 dCo_clearEnds_47 (by decide) ?_
              exact ih_27 (y + 1) (upd fy ((ea * 61) + y) (nI 0)) g_1 _ _ _ (by omega) (by omega) (fun q h => by by_cases h9 : q * 61 + eb = ea * 61 + y; rw [h9, pk_us]; rw [pk_un h9]; exact hz1 q h) (fun q h => by rcases Nat.lt_or_ge q y with h9 | h9; rw [pk_un (by omega)]; exact hz2 q h9; rw [show q = y by omega, pk_us]) fr f1_1 hg hS (lv_sub hl [1, 2, 3, 0] rfl)
        exact loop_27 _ 0 fx gl _ _ _ (Nat.lt_succ_self _) (by omega) (fun q h => hz q (by omega)) (fun q h => absurd h (Nat.not_lt_zero q)) fr e1 hg hS (lv_sub hl [1, 2, 3, 0] rfl)
      · skip
        have c_4 : ¬ (ea < x) := fun h => c_4 ((nI_ltI (by omega) (by omega)).mpr h)
        refine lv_aload_n S0.1 S0.2.1 dCo_clearEnds_7 rfl (lv_at hl 0 rfl) ?_
        refine hw_get S0 hK hg q2_cm rfl inCo 3 (by decide) lf_Co_22 rfl rfl dCo_clearEnds_8 ?_
        refine lv_iload_n S0.1 S0.2.1 dCo_clearEnds_11 rfl (lv_at hl 3 rfl) ?_
        refine lv_bipush (v := nI 61) S0.1 S0.2.1 dCo_clearEnds_12 (by decide) ?_
        refine lv_imul S0.1 S0.2.1 dCo_clearEnds_14 ?_
        refine hw_top (nI (x * 61)) (pk_mul _ _) ?_
        refine lv_iload_n S0.1 S0.2.1 dCo_clearEnds_15 rfl (lv_at hl 2 rfl) ?_
        refine lv_iadd S0.1 S0.2.1 dCo_clearEnds_16 ?_
        refine hw_top (nI ((x * 61) + eb)) (nI_add _ _) ?_
        refine lv_iconst (v := nI 0) S0.1 S0.2.1 dCo_clearEnds_17 (by decide) ?_
        refine hw_iast S0 hK hg hS e1 0 rfl (by omega) (by omega) dCo_clearEnds_18 (fun H locs hg hS => ?_)
        obtain ⟨g_2, eg_2⟩ : ∃ z, z = hs gl len (.inl (cI, 3721, .inl (upd fx ((x * 61) + eb) (nI 0)))) := ⟨_, rfl⟩
        have hg : hw D hC AX g_2 H := by rw [eg_2]; exact hg
        have f2_0 : g_2 cm = some (.inr (0, [.ref pa, .ref pb, .int cnt, .ref len])) := by rw [eg_2, hs_n _ _ (h_ne q2_cm e1 (fun h => by cases h))]; exact q2_cm
        have f2_1 : g_2 len = some (.inl (cI, 3721, .inl (upd fx ((x * 61) + eb) (nI 0)))) := by rw [eg_2]; exact hs_s _ _ _
        have fr := fr.put eg_2 (by simp)
        refine lv_iinc (v := nI (x + 1)) (lv' := [(3, .int (nI (x + 1))), (0, .ref cm), (1, .int (nI ea)), (2, .int (nI eb))]) S0.1 S0.2.1 dCo_clearEnds_19 hl (k := 3) rfl (by exact nI_add _ 1) (by decide) rfl (fun ls hl => ?_)
        refine lv_goto (tgt := 2) S0.1 S0.2.1 dCo_clearEnds_22 (by decide) ?_
        exact ih_2 (x + 1) (upd fx ((x * 61) + eb) (nI 0)) g_2 _ _ _ (by omega) (by omega) (fun q h => by rcases Nat.lt_or_ge q x with h9 | h9; rw [pk_un (by omega)]; exact hz q h9; rw [show q = x by omega, pk_us]) fr f2_1 hg hS (lv_sub hl [1, 2, 3, 0] rfl)
  exact loop_2 _ 0 fl g _ _ _ (Nat.lt_succ_self _) (by omega) (fun q h => absurd h (Nat.not_lt_zero q)) fr h1 hg hS (lv_sub hl [1, 2, 3, 0] rfl)
set_option maxRecDepth 100000 in
set_option maxHeartbeats 4000000 in
theorem c_Co_measure (l : Launch) (D : va_G) (cI cR cJ : ClassId) (g : Nat → Option va_E) (sz : Nat) (cm pa pb len ra la ca rb lb cb : Nat) (cnt : Int32) (a b : List Int32) (fa fb fl : Nat → Int32) (h0 : g cm = some (.inr (0, [.ref pa, .ref pb, .int cnt, .ref len]))) (h1 : g len = some (.inl (cI, 3721, .inl fl))) (h2 : g ra = some (.inr (5, [.ref la, .int (nI a.length)]))) (h3 : g la = some (.inl (cI, ca, .inl fa))) (h4 : g rb = some (.inr (5, [.ref lb, .int (nI b.length)]))) (h5 : g lb = some (.inl (cI, cb, .inl fb))) (ea : rp fa a) (eb : rp fb b) (hla : la ≠ len) (hlb : lb ≠ len) (hna : a.length ≤ 60) (hnb : b.length ≤ 60) (hca : a.length ≤ ca) (hcb : b.length ≤ cb) (hca4 : ca < 4000) (hcb4 : cb < 4000) : hMv l yCo_measure cCo_measure 6 (hRm 1 23 0 0) D (hT cI cR cJ) g sz [.ref cm, .ref ra, .ref rb] (fun g1 => hfr g g1 [len] ∧ ∃ f1, g1 len = some (.inl (cI, 3721, .inl f1)) ∧ ∀ x y, x ≤ a.length → y ≤ b.length → f1 (x * 61 + y) = nI (Lc a b x y)) := by
  refine hMv_of (by decide +kernel) (Nat.le_of_ble_eq_true rfl) ?_
  intro pX eX RX sX mX argsX belowX methX cX QX AX hR S0 hnm hsz hg hK hS hA0 hend ls hl
  have hl : lv_has ls 6 [(0, .ref cm), (1, .ref ra), (2, .ref rb)] := hl
  have fr : hfr g g [len] := hfr.rf
  refine lv_aload_n S0.1 S0.2.1 dCo_measure_0 rfl (lv_at hl 0 rfl) ?_
  refine lv_aload_n S0.1 S0.2.1 dCo_measure_1 rfl (lv_at hl 1 rfl) ?_
  refine hw_get S0 hK hg h2 rfl inRo 1 (by decide) lf_Co_29 rfl rfl dCo_measure_2 ?_
  refine lv_aload_n S0.1 S0.2.1 dCo_measure_5 rfl (lv_at hl 2 rfl) ?_
  refine hw_get S0 hK hg h4 rfl inRo 1 (by decide) lf_Co_29 rfl rfl dCo_measure_6 ?_
  refine hw_Vv (As := [.int (nI a.length), .int (nI b.length)]) (rest := []) S0 hK hg hS hA0 h0 rfl (c_Co_clearEnds l D cI cR cJ g _ cm pa pb len a.length b.length cnt fl h0 h1 hna hnb) kCo_clearEnds lm_Co_47 (hR.call rfl) rfl hl.1 rfl (Nat.le_of_ble_eq_true rfl) dCo_measure_9 (hR.new (by decide) (by decide)) (fun g_1 H locs hp_9 hg hS => ?_)
  obtain ⟨fr1, f1, a1, a2, a3⟩ := hp_9
  have k1_0 := fr1.at (h_nm (h_ne h0 h1 (fun h => by cases h)) h_n0) h0
  have k1_1 := fr1.at (h_nm (h_ne h2 h1 (fun h => by cases h)) h_n0) h2
  have k1_2 := fr1.at (h_nm hla h_n0) h3
  have k1_3 := fr1.at (h_nm (h_ne h4 h1 (fun h => by cases h)) h_n0) h4
  have k1_4 := fr1.at (h_nm hlb h_n0) h5
  have fr := fr.call fr1 (by simp)
  refine lv_aload_n S0.1 S0.2.1 dCo_measure_12 rfl (lv_at hl 1 rfl) ?_
  refine hw_get S0 hK hg k1_1 rfl inRo 1 (by decide) lf_Co_29 rfl rfl dCo_measure_13 ?_
  refine lv_iconst (v := nI 1) S0.1 S0.2.1 dCo_measure_16 (by decide) ?_
  refine lv_isub S0.1 S0.2.1 dCo_measure_17 ?_
  refine lv_istore_n (lv' := [(3, .int ((nI a.length) - (nI 1))), (0, .ref cm), (1, .ref ra), (2, .ref rb)]) S0.1 S0.2.1 dCo_measure_18 rfl hl (by decide) rfl (fun ls hl => ?_)
  have loop_19 : ∀ (n_19 : Nat) (t : Nat) (fo : Nat → Int32) (gl : Nat → Option va_E) (H : Heap) (locs : List Loc) (ls : Array Slot), t < n_19 → (t ≤ a.length) → (∀ x y, t ≤ x → x ≤ a.length → y ≤ b.length → fo (x * 61 + y) = nI (Lc a b x y)) → (∀ x, x ≤ a.length → fo (x * 61 + b.length) = nI 0) → (hfr g gl [len]) → (gl len = some (.inl (cI, 3721, .inl fo))) → hw D hC AX gl H → va_S AX sX.heap H locs → lv_has ls 6 [(0, .ref cm), (1, .ref ra), (2, .ref rb), (3, .int (nJ t))] → W pX l eX RX sX mX argsX belowX methX cX H locs 0 0 QX (F0 mX 19 ls []) := by
    intro n_19
    induction n_19 with
    | zero => intros; omega
    | succ n_19 ih_19 =>
      intro t fo gl H locs ls hm_19 ht hrow hcol fr e1 hg hS hl
      have q19_cm := fr.at (h_nm (h_ne k1_0 a1 (fun h => by cases h)) h_n0) h0
      have q19_ra := fr.at (h_nm (h_ne k1_1 a1 (fun h => by cases h)) h_n0) h2
      have q19_la := fr.at (h_nm hla h_n0) h3
      have q19_rb := fr.at (h_nm (h_ne k1_3 a1 (fun h => by cases h)) h_n0) h4
      have q19_lb := fr.at (h_nm hlb h_n0) h5
      refine lv_iload_n S0.1 S0.2.1 dCo_measure_19 rfl (lv_at hl 3 rfl) ?_
      refine lv_if_lt (tgt := 119) S0.1 S0.2.1 dCo_measure_20 (by decide) (fun c_20 => ?_) (fun c_20 => ?_)
      · skip
        have c_20 : t = 0 := (nJ_neg (by omega)).mp c_20
        exact hend _ _ _ _ _ _ _ (by decide) (by decide) (⟨fr, fo, e1, fun x y h1 h2 => hrow x y (by omega) h1 h2⟩) hg hS dCo_measure_119
      · skip
        obtain ⟨i, rfl⟩ : ∃ i, t = i + 1 := ⟨t - 1, by have : ¬ t = 0 := fun h => c_20 ((nJ_neg (by omega)).mpr h); omega⟩
        rw [nJ_succ] at hl
        refine lv_aload_n S0.1 S0.2.1 dCo_measure_23 rfl (lv_at hl 2 rfl) ?_
        refine hw_get S0 hK hg q19_rb rfl inRo 1 (by decide) lf_Co_29 rfl rfl dCo_measure_24 ?_
        refine lv_iconst (v := nI 1) S0.1 S0.2.1 dCo_measure_27 (by decide) ?_
        refine lv_isub S0.1 S0.2.1 dCo_measure_28 ?_
        refine lv_istore (lv' := [(4, .int ((nI b.length) - (nI 1))), (0, .ref cm), (1, .ref ra), (2, .ref rb), (3, .int (nI i))]) S0.1 S0.2.1 dCo_measure_29 hl (by decide) rfl (fun ls hl => ?_)
        have loop_31 : ∀ (n_31 : Nat) (u : Nat) (fi : Nat → Int32) (gi : Nat → Option va_E) (H : Heap) (locs : List Loc) (ls : Array Slot), u < n_31 → (u ≤ b.length) → (∀ x y, i + 1 ≤ x → x ≤ a.length → y ≤ b.length → fi (x * 61 + y) = nI (Lc a b x y)) → (∀ x, x ≤ a.length → fi (x * 61 + b.length) = nI 0) → (∀ y, u ≤ y → y ≤ b.length → fi (i * 61 + y) = nI (Lc a b i y)) → (hfr g gi [len]) → (gi len = some (.inl (cI, 3721, .inl fi))) → hw D hC AX gi H → va_S AX sX.heap H locs → lv_has ls 6 [(0, .ref cm), (1, .ref ra), (2, .ref rb), (3, .int (nI i)), (4, .int (nJ u))] → W pX l eX RX sX mX argsX belowX methX cX H locs 0 0 QX (F0 mX 31 ls []) := by
          intro n_31
          induction n_31 with
          | zero => intros; omega
          | succ n_31 ih_31 =>
            intro u fi gi H locs ls hm_31 hu hrow hcol hin fr e2 hg hS hl
            have q31_cm := fr.at (h_nm (h_ne q19_cm e1 (fun h => by cases h)) h_n0) h0
            have q31_ra := fr.at (h_nm (h_ne q19_ra e1 (fun h => by cases h)) h_n0) h2
            have q31_la := fr.at (h_nm hla h_n0) h3
            have q31_rb := fr.at (h_nm (h_ne q19_rb e1 (fun h => by cases h)) h_n0) h4
            have q31_lb := fr.at (h_nm hlb h_n0) h5
            refine lv_iload S0.1 S0.2.1 dCo_measure_31 (lv_at hl 4 rfl) ?_
            refine lv_if_lt (tgt := 113) S0.1 S0.2.1 dCo_measure_33 (by decide) (fun c_33 => ?_) (fun c_33 => ?_)
            · skip
              have c_33 : u = 0 := (nJ_neg (by omega)).mp c_33
              refine lv_iinc (v := nJ i) (lv' := [(3, .int (nJ i)), (0, .ref cm), (1, .ref ra), (2, .ref rb), (4, .int (nJ u))]) S0.1 S0.2.1 dCo_measure_113 hl (k := 3) rfl (by exact nJ_dec _) (by decide) rfl (fun ls hl => ?_)
              refine lv_goto (tgt := 19) S0.1 S0.2.1 dCo_measure_116 (by decide) ?_
              exact ih_19 i fi gi _ _ _ (by omega) (by omega) (fun x y h1 h2 h3 => by by_cases e : x = i; rw [e]; exact hin y (by omega) h3; exact hrow x y (by omega) h2 h3) hcol fr e2 hg hS (lv_sub hl [1, 2, 3, 0] rfl)
            · skip
              obtain ⟨j, rfl⟩ : ∃ j, u = j + 1 := ⟨u - 1, by have : ¬ u = 0 := fun h => c_33 ((nJ_neg (by omega)).mpr h); omega⟩
              rw [nJ_succ] at hl
              refine lv_iload_n S0.1 S0.2.1 dCo_measure_36 rfl (lv_at hl 3 rfl) ?_
              refine lv_bipush (v := nI 61) S0.1 S0.2.1 dCo_measure_37 (by decide) ?_
              refine lv_imul S0.1 S0.2.1 dCo_measure_39 ?_
              refine hw_top (nI (i * 61)) (pk_mul _ _) ?_
              refine lv_iload S0.1 S0.2.1 dCo_measure_40 (lv_at hl 4 rfl) ?_
              refine lv_iadd S0.1 S0.2.1 dCo_measure_42 ?_
              refine hw_top (nI ((i * 61) + j)) (nI_add _ _) ?_
              refine lv_istore (lv' := [(5, .int (nI ((i * 61) + j))), (0, .ref cm), (1, .ref ra), (2, .ref rb), (3, .int (nI i)), (4, .int (nI j))]) S0.1 S0.2.1 dCo_measure_43 hl (by decide) rfl (fun ls hl => ?_)
              refine lv_aload_n S0.1 S0.2.1 dCo_measure_45 rfl (lv_at hl 1 rfl) ?_
              refine hw_get S0 hK hg q31_cm rfl inCo 3 (by decide) lf_Co_22 rfl rfl dCo_measure_46 ?_
              refine lv_iload S0.1 S0.2.1 dCo_measure_49 (lv_at hl 0 rfl) ?_
              refine lv_aload_n S0.1 S0.2.1 dCo_measure_51 rfl (lv_at hl 2 rfl) ?_
              refine hw_get S0 hK hg q31_ra rfl inRo 0 (by decide) lf_Co_32 rfl rfl dCo_measure_52 ?_
              refine lv_iload_n S0.1 S0.2.1 dCo_measure_55 rfl (lv_at hl 4 rfl) ?_
              refine hw_iald S0 hK hg q31_la 0 rfl (by omega) (by omega) dCo_measure_56 ?_
              refine lv_aload_n S0.1 S0.2.1 dCo_measure_57 rfl (lv_at hl 3 rfl) ?_
              refine hw_get S0 hK hg q31_rb rfl inRo 0 (by decide) lf_Co_32 rfl rfl dCo_measure_58 ?_
              refine lv_iload S0.1 S0.2.1 dCo_measure_61 (lv_at hl 5 rfl) ?_
              refine hw_iald S0 hK hg q31_lb 0 rfl (by omega) (by omega) dCo_measure_63 ?_
              refine lv_icmp_ne (tgt := 84) S0.1 S0.2.1 dCo_measure_64 (by decide) (fun c_64 => ?_) (fun c_64 => ?_)
              · skip
                rw [ea i (by omega), eb j (by omega)] at c_64
                refine lv_aload_n S0.1 S0.2.1 dCo_measure_84 rfl (lv_at hl 1 rfl) ?_
                refine hw_get S0 hK hg q31_cm rfl inCo 3 (by decide) lf_Co_22 rfl rfl dCo_measure_85 ?_
                refine lv_iload S0.1 S0.2.1 dCo_measure_88 (lv_at hl 0 rfl) ?_
                refine lv_bipush (v := nI 61) S0.1 S0.2.1 dCo_measure_90 (by decide) ?_
                refine lv_iadd S0.1 S0.2.1 dCo_measure_92 ?_
                refine hw_top (nI (((i * 61) + j) + 61)) (nI_add _ _) ?_
                refine hw_iald S0 hK hg e2 0 rfl (by omega) (by omega) dCo_measure_93 ?_
                refine lv_aload_n S0.1 S0.2.1 dCo_measure_94 rfl (lv_at hl 1 rfl) ?_
                refine hw_get S0 hK hg q31_cm rfl inCo 3 (by decide) lf_Co_22 rfl rfl dCo_measure_95 ?_
                refine lv_iload S0.1 S0.2.1 dCo_measure_98 (lv_at hl 0 rfl) ?_
                refine lv_iconst (v := nI 1) S0.1 S0.2.1 dCo_measure_100 (by decide) ?_
                refine lv_iadd S0.1 S0.2.1 dCo_measure_101 ?_
                refine hw_top (nI (((i * 61) + j) + 1)) (nI_add _ _) ?_
                refine hw_iald S0 hK hg e2 0 rfl (by omega) (by omega) dCo_measure_102 ?_
                refine hw_max S0 hR hl.1 lm_Co_50 rfl ⟨Nat.zero_le _, Nat.zero_le _⟩ dCo_measure_103 ?_
                refine hw_iast S0 hK hg hS e2 0 rfl (by omega) (by omega) dCo_measure_106 (fun H locs hg hS => ?_)
                obtain ⟨g_2, eg_2⟩ : ∃ z, z = hs gi len (.inl (cI, 3721, .inl (upd fi ((i * 61) + j) (if fi (((i * 61) + j) + 61) < fi (((i * 61) + j) + 1) then fi (((i * 61) + j) + 1) else fi (((i * 61) + j) + 61))))) := ⟨_, rfl⟩
                have hg : hw D hC AX g_2 H := by rw [eg_2]; exact hg
                have f2_0 : g_2 cm = some (.inr (0, [.ref pa, .ref pb, .int cnt, .ref len])) := by rw [eg_2, hs_n _ _ (h_ne q31_cm e2 (fun h => by cases h))]; exact q31_cm
                have f2_1 : g_2 ra = some (.inr (5, [.ref la, .int (nI a.length)])) := by rw [eg_2, hs_n _ _ (h_ne q31_ra e2 (fun h => by cases h))]; exact q31_ra
                have f2_2 : g_2 la = some (.inl (cI, ca, .inl fa)) := by rw [eg_2, hs_n _ _ hla]; exact q31_la
                have f2_3 : g_2 rb = some (.inr (5, [.ref lb, .int (nI b.length)])) := by rw [eg_2, hs_n _ _ (h_ne q31_rb e2 (fun h => by cases h))]; exact q31_rb
                have f2_4 : g_2 lb = some (.inl (cI, cb, .inl fb)) := by rw [eg_2, hs_n _ _ hlb]; exact q31_lb
                have f2_5 : g_2 len = some (.inl (cI, 3721, .inl (upd fi ((i * 61) + j) (if fi (((i * 61) + j) + 61) < fi (((i * 61) + j) + 1) then fi (((i * 61) + j) + 1) else fi (((i * 61) + j) + 61))))) := by rw [eg_2]; exact hs_s _ _ _
                have fr := fr.put eg_2 (by simp)
                refine lv_iinc (v := nJ j) (lv' := [(4, .int (nJ j)), (5, .int (nI ((i * 61) + j))), (0, .ref cm), (1, .ref ra), (2, .ref rb), (3, .int (nI i))]) S0.1 S0.2.1 dCo_measure_107 hl (k := 5) rfl (by exact nJ_dec _) (by decide) rfl (fun ls hl => ?_)
                refine lv_goto (tgt := 31) S0.1 S0.2.1 dCo_measure_110 (by decide) ?_
                have st := ms_step (a := a) (b := b) (by omega) (by omega) hnb (ms_ne (by omega) (by omega) hna hrow hin c_64) hrow hcol hin
                exact ih_31 j (upd fi ((i * 61) + j) (if fi (((i * 61) + j) + 61) < fi (((i * 61) + j) + 1) then fi (((i * 61) + j) + 1) else fi (((i * 61) + j) + 61))) g_2 _ _ _ (by omega) (by omega) st.1 st.2.1 st.2.2 fr f2_5 hg hS (lv_sub hl [2, 3, 4, 5, 0] rfl)
              · skip
                rw [ea i (by omega), eb j (by omega)] at c_64
                refine lv_iconst (v := nI 1) S0.1 S0.2.1 dCo_measure_67 (by decide) ?_
                refine lv_aload_n S0.1 S0.2.1 dCo_measure_68 rfl (lv_at hl 1 rfl) ?_
                refine hw_get S0 hK hg q31_cm rfl inCo 3 (by decide) lf_Co_22 rfl rfl dCo_measure_69 ?_
                refine lv_iload S0.1 S0.2.1 dCo_measure_72 (lv_at hl 0 rfl) ?_
                refine lv_bipush (v := nI 61) S0.1 S0.2.1 dCo_measure_74 (by decide) ?_
                refine lv_iadd S0.1 S0.2.1 dCo_measure_76 ?_
                refine hw_top (nI (((i * 61) + j) + 61)) (nI_add _ _) ?_
                refine lv_iconst (v := nI 1) S0.1 S0.2.1 dCo_measure_77 (by decide) ?_
                refine lv_iadd S0.1 S0.2.1 dCo_measure_78 ?_
                refine hw_top (nI ((((i * 61) + j) + 61) + 1)) (nI_add _ _) ?_
                refine hw_iald S0 hK hg e2 0 rfl (by omega) (by omega) dCo_measure_79 ?_
                refine lv_iadd S0.1 S0.2.1 dCo_measure_80 ?_
                refine lv_goto (tgt := 106) S0.1 S0.2.1 dCo_measure_81 (by decide) ?_
                refine hw_iast S0 hK hg hS e2 0 rfl (by omega) (by omega) dCo_measure_106 (fun H locs hg hS => ?_)
                obtain ⟨g_3, eg_3⟩ : ∃ z, z = hs gi len (.inl (cI, 3721, .inl (upd fi ((i * 61) + j) ((nI 1) + (fi ((((i * 61) + j) + 61) + 1)))))) := ⟨_, rfl⟩
                have hg : hw D hC AX g_3 H := by rw [eg_3]; exact hg
                have f3_0 : g_3 cm = some (.inr (0, [.ref pa, .ref pb, .int cnt, .ref len])) := by rw [eg_3, hs_n _ _ (h_ne q31_cm e2 (fun h => by cases h))]; exact q31_cm
                have f3_1 : g_3 ra = some (.inr (5, [.ref la, .int (nI a.length)])) := by rw [eg_3, hs_n _ _ (h_ne q31_ra e2 (fun h => by cases h))]; exact q31_ra
                have f3_2 : g_3 la = some (.inl (cI, ca, .inl fa)) := by rw [eg_3, hs_n _ _ hla]; exact q31_la
                have f3_3 : g_3 rb = some (.inr (5, [.ref lb, .int (nI b.length)])) := by rw [eg_3, hs_n _ _ (h_ne q31_rb e2 (fun h => by cases h))]; exact q31_rb
                have f3_4 : g_3 lb = some (.inl (cI, cb, .inl fb)) := by rw [eg_3, hs_n _ _ hlb]; exact q31_lb
                have f3_5 : g_3 len = some (.inl (cI, 3721, .inl (upd fi ((i * 61) + j) ((nI 1) + (fi ((((i * 61) + j) + 61) + 1)))))) := by rw [eg_3]; exact hs_s _ _ _
                have fr := fr.put eg_3 (by simp)
                refine lv_iinc (v := nJ j) (lv' := [(4, .int (nJ j)), (5, .int (nI ((i * 61) + j))), (0, .ref cm), (1, .ref ra), (2, .ref rb), (3, .int (nI i))]) S0.1 S0.2.1 dCo_measure_107 hl (k := 5) rfl (by exact nJ_dec _) (by decide) rfl (fun ls hl => ?_)
                refine lv_goto (tgt := 31) S0.1 S0.2.1 dCo_measure_110 (by decide) ?_
                have st := ms_step (a := a) (b := b) (by omega) (by omega) hnb (ms_eq (by omega) (by omega) hrow c_64) hrow hcol hin
                exact ih_31 j (upd fi ((i * 61) + j) ((nI 1) + (fi ((((i * 61) + j) + 61) + 1)))) g_3 _ _ _ (by omega) (by omega) st.1 st.2.1 st.2.2 fr f3_5 hg hS (lv_sub hl [2, 3, 4, 5, 0] rfl)
        exact loop_31 _ b.length fo gl _ _ _ (Nat.lt_succ_self _) (Nat.le_refl _) (fun x y h1 h2 h3 => hrow x y h1 h2 h3) hcol (fun y h1 h2 => by rw [show y = b.length by omega, hcol i (by omega), Lc_endB]) fr e1 hg hS (lv_sub hl [1, 2, 3, 4, 0] rfl)
  exact loop_19 _ a.length f1 g_1 _ _ _ (Nat.lt_succ_self _) (Nat.le_refl _) (fun x y h1 h2 h3 => by rw [show x = a.length by omega, a3 y h3, Lc_endA]) a2 fr a1 hg hS (lv_sub hl [1, 2, 3, 0] rfl)
set_option maxRecDepth 100000 in
set_option maxHeartbeats 4000000 in
theorem c_Co_losesNoPair (l : Launch) (D : va_G) (cI cR cJ : ClassId) (g : Nat → Option va_E) (sz : Nat) (cm pa pb len i fr j : Nat) (cnt : Int32) (a b : List Int32) (fl : Nat → Int32) (h0 : g cm = some (.inr (0, [.ref pa, .ref pb, .int cnt, .ref len]))) (h1 : g len = some (.inl (cI, 3721, .inl fl))) (hsp : ∀ x y, x ≤ a.length → y ≤ b.length → fl (x * 61 + y) = nI (Lc a b x y)) (hi : i < a.length) (hj : j < b.length) (hf : fr ≤ b.length) (hna : a.length ≤ 60) (hnb : b.length ≤ 60) : hMi l yCo_losesNoPair cCo_losesNoPair 5 .boolean (hRm 0 0 0 0) D (hT cI cR cJ) g sz [.ref cm, .int (nI i), .int (nI fr), .int (nI j)] (fun o g1 => g1 = g ∧ ((o = nI 1 ∧ Lc a b (i + 1) (j + 1) + 1 = Lc a b i fr) ∨ (o = nI 0 ∧ ¬ Lc a b (i + 1) (j + 1) + 1 = Lc a b i fr))) := by
  refine hMi_of (by decide +kernel) (Nat.le_of_ble_eq_true rfl) ?_
  intro pX eX RX sX mX argsX belowX methX cX QX AX hR S0 hnm hsz hg hK hS hA0 hend ls hl
  have hl : lv_has ls 5 [(0, .ref cm), (1, .int (nI i)), (2, .int (nI fr)), (3, .int (nI j))] := hl
  have b1 := Lc_le a b (i + 1) (j + 1)
  have b2 := Lc_le a b i fr
  have e1 : fl (i * 61 + fr) = nI (Lc a b i fr) := hsp i fr (by omega) hf
  have e2 : fl ((i + 1) * 61 + j + 1) = nI (Lc a b (i + 1) (j + 1)) := hsp (i + 1) (j + 1) (by omega) (by omega)
  refine lv_aload_n S0.1 S0.2.1 dCo_losesNoPair_0 rfl (lv_at hl 0 rfl) ?_
  refine hw_get S0 hK hg h0 rfl inCo 3 (by decide) lf_Co_22 rfl rfl dCo_losesNoPair_1 ?_
  refine lv_iload_n S0.1 S0.2.1 dCo_losesNoPair_4 rfl (lv_at hl 1 rfl) ?_
  refine lv_bipush (v := nI 61) S0.1 S0.2.1 dCo_losesNoPair_5 (by decide) ?_
  refine lv_imul S0.1 S0.2.1 dCo_losesNoPair_7 ?_
  refine hw_top (nI (i * 61)) (pk_mul _ _) ?_
  refine lv_iload_n S0.1 S0.2.1 dCo_losesNoPair_8 rfl (lv_at hl 2 rfl) ?_
  refine lv_iadd S0.1 S0.2.1 dCo_losesNoPair_9 ?_
  refine hw_top (nI ((i * 61) + fr)) (nI_add _ _) ?_
  refine hw_iald S0 hK hg h1 0 rfl (by omega) (by omega) dCo_losesNoPair_10 ?_
  refine lv_istore (lv' := [(4, .int (fl ((i * 61) + fr))), (0, .ref cm), (1, .int (nI i)), (2, .int (nI fr)), (3, .int (nI j))]) S0.1 S0.2.1 dCo_losesNoPair_11 hl (by decide) rfl (fun ls hl => ?_)
  refine lv_iconst (v := nI 1) S0.1 S0.2.1 dCo_losesNoPair_13 (by decide) ?_
  refine lv_aload_n S0.1 S0.2.1 dCo_losesNoPair_14 rfl (lv_at hl 1 rfl) ?_
  refine hw_get S0 hK hg h0 rfl inCo 3 (by decide) lf_Co_22 rfl rfl dCo_losesNoPair_15 ?_
  refine lv_iload_n S0.1 S0.2.1 dCo_losesNoPair_18 rfl (lv_at hl 2 rfl) ?_
  refine lv_iconst (v := nI 1) S0.1 S0.2.1 dCo_losesNoPair_19 (by decide) ?_
  refine lv_iadd S0.1 S0.2.1 dCo_losesNoPair_20 ?_
  refine hw_top (nI (i + 1)) (nI_add _ _) ?_
  refine lv_bipush (v := nI 61) S0.1 S0.2.1 dCo_losesNoPair_21 (by decide) ?_
  refine lv_imul S0.1 S0.2.1 dCo_losesNoPair_23 ?_
  refine hw_top (nI ((i + 1) * 61)) (pk_mul _ _) ?_
  refine lv_iload_n S0.1 S0.2.1 dCo_losesNoPair_24 rfl (lv_at hl 4 rfl) ?_
  refine lv_iadd S0.1 S0.2.1 dCo_losesNoPair_25 ?_
  refine hw_top (nI (((i + 1) * 61) + j)) (nI_add _ _) ?_
  refine lv_iconst (v := nI 1) S0.1 S0.2.1 dCo_losesNoPair_26 (by decide) ?_
  refine lv_iadd S0.1 S0.2.1 dCo_losesNoPair_27 ?_
  refine hw_top (nI ((((i + 1) * 61) + j) + 1)) (nI_add _ _) ?_
  refine hw_iald S0 hK hg h1 0 rfl (by omega) (by omega) dCo_losesNoPair_28 ?_
  refine lv_iadd S0.1 S0.2.1 dCo_losesNoPair_29 ?_
  refine lv_iload S0.1 S0.2.1 dCo_losesNoPair_30 (lv_at hl 0 rfl) ?_
  refine lv_icmp_ne (tgt := 39) S0.1 S0.2.1 dCo_losesNoPair_32 (by decide) (fun c_32 => ?_) (fun c_32 => ?_)
  · skip
    refine lv_iconst (v := nI 0) S0.1 S0.2.1 dCo_losesNoPair_39 (by decide) ?_
    exact hend _ _ _ _ _ _ _ _ (by decide) (by decide) rfl (⟨rfl, Or.inr ⟨rfl, fun h => c_32 (by rw [e1, e2, nI_add, Nat.add_comm, h])⟩⟩) hg hS dCo_losesNoPair_40
  · skip
    refine lv_iconst (v := nI 1) S0.1 S0.2.1 dCo_losesNoPair_35 (by decide) ?_
    refine lv_goto (tgt := 40) S0.1 S0.2.1 dCo_losesNoPair_36 (by decide) ?_
    exact hend _ _ _ _ _ _ _ _ (by decide) (by decide) rfl (⟨rfl, Or.inl ⟨rfl, by rw [e1, e2, nI_add] at c_32; have := (nI_eq (by omega) (by omega)).mp c_32; omega⟩⟩) hg hS dCo_losesNoPair_40
set_option maxRecDepth 100000 in
set_option maxHeartbeats 4000000 in
theorem c_Co_addPair (l : Launch) (D : va_G) (cI cR cJ : ClassId) (g : Nat → Option va_E) (sz : Nat) (cm pa pb len i j n : Nat) (fA fB : Nat → Int32) (h0 : g cm = some (.inr (0, [.ref pa, .ref pb, .int (nI n), .ref len]))) (h1 : g pa = some (.inl (cI, 60, .inl fA))) (h2 : g pb = some (.inl (cI, 60, .inl fB))) (hab : pa ≠ pb) (hn : n < 60) : hMv l yCo_addPair cCo_addPair 3 (hRm 0 0 0 0) D (hT cI cR cJ) g sz [.ref cm, .int (nI i), .int (nI j)] (fun g1 => hfr g g1 [cm, pa, pb] ∧ g1 cm = some (.inr (0, [.ref pa, .ref pb, .int (nI (n + 1)), .ref len])) ∧ g1 pa = some (.inl (cI, 60, .inl (upd fA n (nI i)))) ∧ g1 pb = some (.inl (cI, 60, .inl (upd fB n (nI j))))) := by
  refine hMv_of (by decide +kernel) (Nat.le_of_ble_eq_true rfl) ?_
  intro pX eX RX sX mX argsX belowX methX cX QX AX hR S0 hnm hsz hg hK hS hA0 hend ls hl
  have hl : lv_has ls 3 [(0, .ref cm), (1, .int (nI i)), (2, .int (nI j))] := hl
  have fr : hfr g g [cm, pa, pb] := hfr.rf
  refine lv_aload_n S0.1 S0.2.1 dCo_addPair_0 rfl (lv_at hl 0 rfl) ?_
  refine hw_get S0 hK hg h0 rfl inCo 2 (by decide) lf_Co_18 rfl rfl dCo_addPair_1 ?_
  refine lv_bipush (v := nI 60) S0.1 S0.2.1 dCo_addPair_4 (by decide) ?_
  refine lv_icmp_ge (tgt := 39) S0.1 S0.2.1 dCo_addPair_6 (by decide) (fun c_6 => ?_) (fun c_6 => ?_)
  · skip
    have c_6 : 60 ≤ n := (nI_leI (by omega) (by omega)).mp c_6
    exact absurd hn (by omega)
  · skip
    have c_6 : ¬ (60 ≤ n) := fun h => c_6 ((nI_leI (by omega) (by omega)).mpr h)
    refine lv_aload_n S0.1 S0.2.1 dCo_addPair_9 rfl (lv_at hl 0 rfl) ?_
    refine hw_get S0 hK hg h0 rfl inCo 0 (by decide) lf_Co_9 rfl rfl dCo_addPair_10 ?_
    refine lv_aload_n S0.1 S0.2.1 dCo_addPair_13 rfl (lv_at hl 0 rfl) ?_
    refine hw_get S0 hK hg h0 rfl inCo 2 (by decide) lf_Co_18 rfl rfl dCo_addPair_14 ?_
    refine lv_iload_n S0.1 S0.2.1 dCo_addPair_17 rfl (lv_at hl 1 rfl) ?_
    refine hw_iast S0 hK hg hS h1 0 rfl (by omega) (by omega) dCo_addPair_18 (fun H locs hg hS => ?_)
    obtain ⟨g_1, eg_1⟩ : ∃ z, z = hs g pa (.inl (cI, 60, .inl (upd fA n (nI i)))) := ⟨_, rfl⟩
    have hg : hw D hC AX g_1 H := by rw [eg_1]; exact hg
    have f1_0 : g_1 cm = some (.inr (0, [.ref pa, .ref pb, .int (nI n), .ref len])) := by rw [eg_1, hs_n _ _ (h_ne h0 h1 (fun h => by cases h))]; exact h0
    have f1_1 : g_1 pb = some (.inl (cI, 60, .inl fB)) := by rw [eg_1, hs_n _ _ (Ne.symm hab)]; exact h2
    have f1_2 : g_1 pa = some (.inl (cI, 60, .inl (upd fA n (nI i)))) := by rw [eg_1]; exact hs_s _ _ _
    have fr := fr.put eg_1 (by simp)
    refine lv_aload_n S0.1 S0.2.1 dCo_addPair_19 rfl (lv_at hl 0 rfl) ?_
    refine hw_get S0 hK hg f1_0 rfl inCo 1 (by decide) lf_Co_15 rfl rfl dCo_addPair_20 ?_
    refine lv_aload_n S0.1 S0.2.1 dCo_addPair_23 rfl (lv_at hl 0 rfl) ?_
    refine hw_get S0 hK hg f1_0 rfl inCo 2 (by decide) lf_Co_18 rfl rfl dCo_addPair_24 ?_
    refine lv_iload_n S0.1 S0.2.1 dCo_addPair_27 rfl (lv_at hl 2 rfl) ?_
    refine hw_iast S0 hK hg hS f1_1 0 rfl (by omega) (by omega) dCo_addPair_28 (fun H locs hg hS => ?_)
    obtain ⟨g_2, eg_2⟩ : ∃ z, z = hs g_1 pb (.inl (cI, 60, .inl (upd fB n (nI j)))) := ⟨_, rfl⟩
    have hg : hw D hC AX g_2 H := by rw [eg_2]; exact hg
    have f2_0 : g_2 cm = some (.inr (0, [.ref pa, .ref pb, .int (nI n), .ref len])) := by rw [eg_2, hs_n _ _ (h_ne f1_0 f1_1 (fun h => by cases h))]; exact f1_0
    have f2_1 : g_2 pa = some (.inl (cI, 60, .inl (upd fA n (nI i)))) := by rw [eg_2, hs_n _ _ hab]; exact f1_2
    have f2_2 : g_2 pb = some (.inl (cI, 60, .inl (upd fB n (nI j)))) := by rw [eg_2]; exact hs_s _ _ _
    have fr := fr.put eg_2 (by simp)
    refine lv_aload_n S0.1 S0.2.1 dCo_addPair_29 rfl (lv_at hl 0 rfl) ?_
    refine lv_dup S0.1 S0.2.1 dCo_addPair_30 rfl ?_
    refine hw_get S0 hK hg f2_0 rfl inCo 2 (by decide) lf_Co_18 rfl rfl dCo_addPair_31 ?_
    refine lv_iconst (v := nI 1) S0.1 S0.2.1 dCo_addPair_34 (by decide) ?_
    refine lv_iadd S0.1 S0.2.1 dCo_addPair_35 ?_
    refine hw_top (nI (n + 1)) (nI_add _ _) ?_
    refine hw_put S0 hK hg hS f2_0 rfl inCo tyCo tokCo nmCo 2 (by decide) lf_Co_18 rfl rfl rfl rfl (Nat.le_of_ble_eq_true rfl) dCo_addPair_36 (fun H locs hg hS => ?_)
    obtain ⟨g_3, eg_3⟩ : ∃ z, z = hs g_2 cm (.inr (0, [.ref pa, .ref pb, .int (nI (n + 1)), .ref len])) := ⟨_, rfl⟩
    have hg : hw D hC AX g_3 H := by rw [eg_3]; exact hg
    have f3_0 : g_3 pa = some (.inl (cI, 60, .inl (upd fA n (nI i)))) := by rw [eg_3, hs_n _ _ (h_ne f2_1 f2_0 (fun h => by cases h))]; exact f2_1
    have f3_1 : g_3 pb = some (.inl (cI, 60, .inl (upd fB n (nI j)))) := by rw [eg_3, hs_n _ _ (h_ne f2_2 f2_0 (fun h => by cases h))]; exact f2_2
    have f3_2 : g_3 cm = some (.inr (0, [.ref pa, .ref pb, .int (nI (n + 1)), .ref len])) := by rw [eg_3]; exact hs_s _ _ _
    have fr := fr.put eg_3 (by simp)
    exact hend _ _ _ _ _ _ _ (by decide) (by decide) (⟨fr, f3_2, f3_0, f3_1⟩) hg hS dCo_addPair_39
set_option maxRecDepth 100000 in
set_option maxHeartbeats 4000000 in
theorem c_Co_find (l : Launch) (D : va_G) (cI cR cJ : ClassId) (g : Nat → Option va_E) (sz : Nat) (cm pa pb len ra la ca rb lb cb : Nat) (cnt : Int32) (a b : List Int32) (fa fb fl : Nat → Int32) (h0 : g cm = some (.inr (0, [.ref pa, .ref pb, .int cnt, .ref len]))) (h1 : g len = some (.inl (cI, 3721, .inl fl))) (h2 : g ra = some (.inr (5, [.ref la, .int (nI a.length)]))) (h3 : g la = some (.inl (cI, ca, .inl fa))) (h4 : g rb = some (.inr (5, [.ref lb, .int (nI b.length)]))) (h5 : g lb = some (.inl (cI, cb, .inl fb))) (ea : rp fa a) (eb : rp fb b) (hla : la ≠ len) (hlb : lb ≠ len) (hna : a.length ≤ 60) (hnb : b.length ≤ 60) (hca : a.length ≤ ca) (hcb : b.length ≤ cb) (hca4 : ca < 4000) (hcb4 : cb < 4000) (fp0 fq0 : Nat → Int32) (h6 : g pa = some (.inl (cI, 60, .inl fp0))) (h7 : g pb = some (.inl (cI, 60, .inl fq0))) (hap : la ≠ pa) (haq : la ≠ pb) (hbp : lb ≠ pa) (hbq : lb ≠ pb) (hpq : pa ≠ pb) (hpl : pa ≠ len) (hql : pb ≠ len) : hMv l yCo_find cCo_find 6 (hRm 2 48 0 0) D (hT cI cR cJ) g sz [.ref cm, .ref ra, .ref rb] (fun g1 => hfr g g1 [cm, pa, pb, len] ∧ ∃ fA fB fL : Nat → Int32, g1 cm = some (.inr (0, [.ref pa, .ref pb, .int (nI (prs a b a.length).length), .ref len])) ∧ g1 pa = some (.inl (cI, 60, .inl fA)) ∧ g1 pb = some (.inl (cI, 60, .inl fB)) ∧ g1 len = some (.inl (cI, 3721, .inl fL)) ∧ rpN fA ((prs a b a.length).map Prod.fst) ∧ rpN fB ((prs a b a.length).map Prod.snd)) := by
  refine hMv_of (by decide +kernel) (Nat.le_of_ble_eq_true rfl) ?_
  intro pX eX RX sX mX argsX belowX methX cX QX AX hR S0 hnm hsz hg hK hS hA0 hend ls hl
  have hl : lv_has ls 6 [(0, .ref cm), (1, .ref ra), (2, .ref rb)] := hl
  have fr : hfr g g [cm, pa, pb, len] := hfr.rf
  refine lv_aload_n S0.1 S0.2.1 dCo_find_0 rfl (lv_at hl 0 rfl) ?_
  refine lv_aload_n S0.1 S0.2.1 dCo_find_1 rfl (lv_at hl 1 rfl) ?_
  refine lv_aload_n S0.1 S0.2.1 dCo_find_2 rfl (lv_at hl 2 rfl) ?_
  refine hw_Vv (As := [.ref ra, .ref rb]) (rest := []) S0 hK hg hS hA0 h0 rfl (c_Co_measure l D cI cR cJ g _ cm pa pb len ra la ca rb lb cb cnt a b fa fb fl h0 h1 h2 h3 h4 h5 ea eb hla hlb hna hnb hca hcb hca4 hcb4) kCo_measure lm_Co_25 (hR.call rfl) rfl hl.1 rfl (Nat.le_of_ble_eq_true rfl) dCo_find_3 (hR.new (by decide) (by decide)) (fun g_1 H locs hp_3 hg hS => ?_)
  obtain ⟨fr1, f1, a1, hsp⟩ := hp_3
  have k1_0 := fr1.at (h_nm (h_ne h0 h1 (fun h => by cases h)) h_n0) h0
  have k1_1 := fr1.at (h_nm (h_ne h2 h1 (fun h => by cases h)) h_n0) h2
  have k1_2 := fr1.at (h_nm hla h_n0) h3
  have k1_3 := fr1.at (h_nm (h_ne h4 h1 (fun h => by cases h)) h_n0) h4
  have k1_4 := fr1.at (h_nm hlb h_n0) h5
  have k1_5 := fr1.at (h_nm hpl h_n0) h6
  have k1_6 := fr1.at (h_nm hql h_n0) h7
  have fr := fr.call fr1 (by simp)
  refine lv_aload_n S0.1 S0.2.1 dCo_find_6 rfl (lv_at hl 0 rfl) ?_
  refine lv_iconst (v := nI 0) S0.1 S0.2.1 dCo_find_7 (by decide) ?_
  refine hw_put S0 hK hg hS k1_0 rfl inCo tyCo tokCo nmCo 2 (by decide) lf_Co_18 rfl rfl rfl rfl (Nat.le_of_ble_eq_true rfl) dCo_find_8 (fun H locs hg hS => ?_)
  obtain ⟨g_2, eg_2⟩ : ∃ z, z = hs g_1 cm (.inr (0, [.ref pa, .ref pb, .int (nI 0), .ref len])) := ⟨_, rfl⟩
  have hg : hw D hC AX g_2 H := by rw [eg_2]; exact hg
  have f2_0 : g_2 ra = some (.inr (5, [.ref la, .int (nI a.length)])) := by rw [eg_2, hs_n _ _ (h_ne k1_1 k1_0 (fun h => by simp at h))]; exact k1_1
  have f2_1 : g_2 la = some (.inl (cI, ca, .inl fa)) := by rw [eg_2, hs_n _ _ (h_ne k1_2 k1_0 (fun h => by cases h))]; exact k1_2
  have f2_2 : g_2 rb = some (.inr (5, [.ref lb, .int (nI b.length)])) := by rw [eg_2, hs_n _ _ (h_ne k1_3 k1_0 (fun h => by simp at h))]; exact k1_3
  have f2_3 : g_2 lb = some (.inl (cI, cb, .inl fb)) := by rw [eg_2, hs_n _ _ (h_ne k1_4 k1_0 (fun h => by cases h))]; exact k1_4
  have f2_4 : g_2 pa = some (.inl (cI, 60, .inl fp0)) := by rw [eg_2, hs_n _ _ (h_ne k1_5 k1_0 (fun h => by cases h))]; exact k1_5
  have f2_5 : g_2 pb = some (.inl (cI, 60, .inl fq0)) := by rw [eg_2, hs_n _ _ (h_ne k1_6 k1_0 (fun h => by cases h))]; exact k1_6
  have f2_6 : g_2 len = some (.inl (cI, 3721, .inl f1)) := by rw [eg_2, hs_n _ _ (h_ne a1 k1_0 (fun h => by cases h))]; exact a1
  have f2_7 : g_2 cm = some (.inr (0, [.ref pa, .ref pb, .int (nI 0), .ref len])) := by rw [eg_2]; exact hs_s _ _ _
  have fr := fr.put eg_2 (by simp)
  refine lv_iconst (v := nI 0) S0.1 S0.2.1 dCo_find_11 (by decide) ?_
  refine lv_istore_n (lv' := [(3, .int (nI 0)), (0, .ref cm), (1, .ref ra), (2, .ref rb)]) S0.1 S0.2.1 dCo_find_12 rfl hl (by decide) rfl (fun ls hl => ?_)
  refine lv_iconst (v := nI 0) S0.1 S0.2.1 dCo_find_13 (by decide) ?_
  refine lv_istore (lv' := [(4, .int (nI 0)), (3, .int (nI 0)), (0, .ref cm), (1, .ref ra), (2, .ref rb)]) S0.1 S0.2.1 dCo_find_14 hl (by decide) rfl (fun ls hl => ?_)
  have loop_16 : ∀ (n_16 : Nat) (i : Nat) (fr_ : Nat) (n : Nat) (fA : Nat → Int32) (fB : Nat → Int32) (gl : Nat → Option va_E) (H : Heap) (locs : List Loc) (ls : Array Slot), a.length - i < n_16 → (i ≤ a.length) → (fr_ = fro a b i) → (n = (prs a b i).length) → (rpN fA ((prs a b i).map Prod.fst)) → (rpN fB ((prs a b i).map Prod.snd)) → (hfr g gl [cm, pa, pb, len]) → (gl cm = some (.inr (0, [.ref pa, .ref pb, .int (nI n), .ref len]))) → (gl pa = some (.inl (cI, 60, .inl fA))) → (gl pb = some (.inl (cI, 60, .inl fB))) → (gl len = some (.inl (cI, 3721, .inl f1))) → hw D hC AX gl H → va_S AX sX.heap H locs → lv_has ls 6 [(0, .ref cm), (1, .ref ra), (2, .ref rb), (3, .int (nI fr_)), (4, .int (nI i))] → W pX l eX RX sX mX argsX belowX methX cX H locs 0 0 QX (F0 mX 16 ls []) := by
    intro n_16
    induction n_16 with
    | zero => intros; omega
    | succ n_16 ih_16 =>
      intro i fr_ n fA fB gl H locs ls hm_16 hi hf hn hA hB fr e0 e1 e2 e3 hg hS hl
      have q16_ra := fr.at (h_nm (h_ne f2_0 f2_7 (fun h => by simp at h)) (h_nm (h_ne f2_0 f2_4 (fun h => by cases h)) (h_nm (h_ne f2_0 f2_5 (fun h => by cases h)) (h_nm (h_ne f2_0 f2_6 (fun h => by cases h)) h_n0)))) h2
      have q16_la := fr.at (h_nm (h_ne f2_1 f2_7 (fun h => by cases h)) (h_nm hap (h_nm haq (h_nm hla h_n0)))) h3
      have q16_rb := fr.at (h_nm (h_ne f2_2 f2_7 (fun h => by simp at h)) (h_nm (h_ne f2_2 f2_4 (fun h => by cases h)) (h_nm (h_ne f2_2 f2_5 (fun h => by cases h)) (h_nm (h_ne f2_2 f2_6 (fun h => by cases h)) h_n0)))) h4
      have q16_lb := fr.at (h_nm (h_ne f2_3 f2_7 (fun h => by cases h)) (h_nm hbp (h_nm hbq (h_nm hlb h_n0)))) h5
      refine lv_iload S0.1 S0.2.1 dCo_find_16 (lv_at hl 4 rfl) ?_
      refine lv_aload_n S0.1 S0.2.1 dCo_find_18 rfl (lv_at hl 1 rfl) ?_
      refine hw_get S0 hK hg q16_ra rfl inRo 1 (by decide) lf_Co_29 rfl rfl dCo_find_19 ?_
      refine lv_icmp_ge (tgt := 76) S0.1 S0.2.1 dCo_find_22 (by decide) (fun c_22 => ?_) (fun c_22 => ?_)
      · skip
        have c_22 : a.length ≤ i := (nI_leI (by omega) (by omega)).mp c_22
        have ei : i = a.length := by omega
        subst ei
        subst hn
        exact hend _ _ _ _ _ _ _ (by decide) (by decide) (⟨fr, fA, fB, f1, e0, e1, e2, e3, hA, hB⟩) hg hS dCo_find_76
      · skip
        have c_22 : ¬ (a.length ≤ i) := fun h => c_22 ((nI_leI (by omega) (by omega)).mpr h)
        refine lv_aload_n S0.1 S0.2.1 dCo_find_25 rfl (lv_at hl 2 rfl) ?_
        refine lv_aload_n S0.1 S0.2.1 dCo_find_26 rfl (lv_at hl 1 rfl) ?_
        refine hw_get S0 hK hg q16_ra rfl inRo 0 (by decide) lf_Co_32 rfl rfl dCo_find_27 ?_
        refine lv_iload S0.1 S0.2.1 dCo_find_30 (lv_at hl 4 rfl) ?_
        refine hw_iald S0 hK hg q16_la 0 rfl (by omega) (by omega) dCo_find_32 ?_
        refine lv_iload_n S0.1 S0.2.1 dCo_find_33 rfl (lv_at hl 3 rfl) ?_
        refine hw_Vi (As := [.int (fa i), .int (nI fr_)]) (rest := []) S0 hK hg hS hA0 q16_rb rfl (c_Ro_firstPlaceOf l D cI cR cJ gl _ rb lb b.length cb fr_ fb (fa i) q16_rb q16_lb (by rw [hf]; exact fro_le a b i) hcb hcb4) kRo_firstPlaceOf lm_Co_35 (hR.call rfl) rfl hl.1 rfl (Nat.le_of_ble_eq_true rfl) dCo_find_34 (hR.new (by decide) (by decide)) (fun r_34 g_3 H locs hp_34 hg hS => ?_)
        rw [hp_34.1] at hg
        replace hp_34 := hp_34.2
        rcases hp_34 with ⟨k, hr, hk1, hk2, hk3, hk4⟩ | ⟨hr, hno⟩
        · skip
          subst hr
          have hfp : fp b (a.getD i 0) (fro a b i) = some k := fp_of (by omega) hk2 (by rw [← eb k hk2, hk3, ea i (by omega)]) (fun q h1 h2 => by rw [← eb q (by omega), ← ea i (by omega)]; exact hk4 q (by omega) h2)
          refine lv_istore (lv' := [(5, .int (nI k)), (0, .ref cm), (1, .ref ra), (2, .ref rb), (3, .int (nI fr_)), (4, .int (nI i))]) S0.1 S0.2.1 dCo_find_37 hl (by decide) rfl (fun ls hl => ?_)
          refine lv_iload S0.1 S0.2.1 dCo_find_39 (lv_at hl 0 rfl) ?_
          refine lv_iconst (v := (-1)) S0.1 S0.2.1 dCo_find_41 (by decide) ?_
          refine lv_icmp_eq (tgt := 70) S0.1 S0.2.1 dCo_find_42 (by decide) (fun c_42 => ?_) (fun c_42 => ?_)
          · skip
            exact absurd c_42 (nI_m1 (by omega))
          · skip
            refine lv_aload_n S0.1 S0.2.1 dCo_find_45 rfl (lv_at hl 1 rfl) ?_
            refine lv_iload S0.1 S0.2.1 dCo_find_46 (lv_at hl 5 rfl) ?_
            refine lv_iload_n S0.1 S0.2.1 dCo_find_48 rfl (lv_at hl 4 rfl) ?_
            refine lv_iload S0.1 S0.2.1 dCo_find_49 (lv_at hl 0 rfl) ?_
            refine hw_Vi (As := [.int (nI i), .int (nI fr_), .int (nI k)]) (rest := []) S0 hK hg hS hA0 e0 rfl (c_Co_losesNoPair l D cI cR cJ gl _ cm pa pb len i fr_ k (nI n) a b f1 e0 e3 hsp (by omega) hk2 (by rw [hf]; exact fro_le a b i) hna hnb) kCo_losesNoPair lm_Co_39 (hR.call rfl) rfl hl.1 rfl (Nat.le_of_ble_eq_true rfl) dCo_find_51 (hR.new (by decide) (by decide)) (fun r_51 g_4 H locs hp_51 hg hS => ?_)
            rw [hp_51.1] at hg
            replace hp_51 := hp_51.2
            rcases hp_51 with ⟨ho, hcd⟩ | ⟨ho, hcd⟩
            · skip
              subst ho
              have hpn : pn a b i = some k := stp_some hfp (by rw [← hf]; exact hcd)
              refine lv_if_eq (tgt := 70) S0.1 S0.2.1 dCo_find_54 (by decide) (fun c_54 => ?_) (fun c_54 => ?_)
              · skip
                rw [← nI_0] at c_54
                have c_54 : 1 = 0 := (nI_eq (by omega) (by omega)).mp c_54
                exact absurd c_54 (by decide)
              · skip
                rw [← nI_0] at c_54
                have c_54 : ¬ (1 = 0) := fun h => c_54 ((nI_eq (by omega) (by omega)).mpr h)
                refine lv_aload_n S0.1 S0.2.1 dCo_find_57 rfl (lv_at hl 1 rfl) ?_
                refine lv_iload S0.1 S0.2.1 dCo_find_58 (lv_at hl 5 rfl) ?_
                refine lv_iload S0.1 S0.2.1 dCo_find_60 (lv_at hl 0 rfl) ?_
                refine hw_Vv (As := [.int (nI i), .int (nI k)]) (rest := []) S0 hK hg hS hA0 e0 rfl (c_Co_addPair l D cI cR cJ gl _ cm pa pb len i k n fA fB e0 e1 e2 hpq (by have := (prs_len a b i).1; omega)) kCo_addPair lm_Co_43 (hR.call rfl) rfl hl.1 rfl (Nat.le_of_ble_eq_true rfl) dCo_find_62 (hR.new (by decide) (by decide)) (fun g_5 H locs hp_62 hg hS => ?_)
                obtain ⟨fr2, a4, a5, a6⟩ := hp_62
                have k5_0 := fr2.at (h_nm (h_ne q16_ra e0 (fun h => by simp at h)) (h_nm (h_ne q16_ra e1 (fun h => by cases h)) (h_nm (h_ne q16_ra e2 (fun h => by cases h)) h_n0))) q16_ra
                have k5_1 := fr2.at (h_nm (h_ne q16_la e0 (fun h => by cases h)) (h_nm hap (h_nm haq h_n0))) q16_la
                have k5_2 := fr2.at (h_nm (h_ne q16_rb e0 (fun h => by simp at h)) (h_nm (h_ne q16_rb e1 (fun h => by cases h)) (h_nm (h_ne q16_rb e2 (fun h => by cases h)) h_n0))) q16_rb
                have k5_3 := fr2.at (h_nm (h_ne q16_lb e0 (fun h => by cases h)) (h_nm hbp (h_nm hbq h_n0))) q16_lb
                have k5_4 := fr2.at (h_nm (h_ne e3 e0 (fun h => by cases h)) (h_nm (Ne.symm hpl) (h_nm (Ne.symm hql) h_n0))) e3
                have fr := fr.call fr2 (by simp)
                refine lv_iload S0.1 S0.2.1 dCo_find_65 (lv_at hl 0 rfl) ?_
                refine lv_iconst (v := nI 1) S0.1 S0.2.1 dCo_find_67 (by decide) ?_
                refine lv_iadd S0.1 S0.2.1 dCo_find_68 ?_
                refine hw_top (nI (k + 1)) (nI_add _ _) ?_
                refine lv_istore_n (lv' := [(3, .int (nI (k + 1))), (5, .int (nI k)), (0, .ref cm), (1, .ref ra), (2, .ref rb), (4, .int (nI i))]) S0.1 S0.2.1 dCo_find_69 rfl hl (by decide) rfl (fun ls hl => ?_)
                refine lv_iinc (v := nI (i + 1)) (lv' := [(4, .int (nI (i + 1))), (3, .int (nI (k + 1))), (5, .int (nI k)), (0, .ref cm), (1, .ref ra), (2, .ref rb)]) S0.1 S0.2.1 dCo_find_70 hl (k := 5) rfl (by exact nI_add _ 1) (by decide) rfl (fun ls hl => ?_)
                refine lv_goto (tgt := 16) S0.1 S0.2.1 dCo_find_73 (by decide) ?_
                exact ih_16 (i + 1) (k + 1) (n + 1) (upd fA n (nI i)) (upd fB n (nI k)) g_5 _ _ _ (by omega) (by omega) (by rw [fro_some hpn]) (by rw [prs_some hpn, List.length_append, hn]; rfl) (by rw [prs_some hpn, List.map_append]; have := rpN_snoc hA i; rw [List.length_map, ← hn] at this; exact this) (by rw [prs_some hpn, List.map_append]; have := rpN_snoc hB k; rw [List.length_map, ← hn] at this; exact this) fr a4 a5 a6 k5_4 hg hS (lv_sub hl [3, 4, 5, 1, 0] rfl)
            · skip
              subst ho
              have hpn : pn a b i = none := stp_not hfp (by rw [← hf]; exact hcd)
              refine lv_if_eq (tgt := 70) S0.1 S0.2.1 dCo_find_54 (by decide) (fun c_54 => ?_) (fun c_54 => ?_)
              · skip
                rw [← nI_0] at c_54
                have c_54 : 0 = 0 := (nI_eq (by omega) (by omega)).mp c_54
                refine lv_iinc (v := nI (i + 1)) (lv' := [(4, .int (nI (i + 1))), (5, .int (nI k)), (0, .ref cm), (1, .ref ra), (2, .ref rb), (3, .int (nI fr_))]) S0.1 S0.2.1 dCo_find_70 hl (k := 5) rfl (by exact nI_add _ 1) (by decide) rfl (fun ls hl => ?_)
                refine lv_goto (tgt := 16) S0.1 S0.2.1 dCo_find_73 (by decide) ?_
                exact ih_16 (i + 1) fr_ n fA fB gl _ _ _ (by omega) (by omega) (by rw [fro_none hpn]; exact hf) (by rw [prs_none hpn]; exact hn) (by rw [prs_none hpn]; exact hA) (by rw [prs_none hpn]; exact hB) fr e0 e1 e2 e3 hg hS (lv_sub hl [2, 3, 4, 5, 0] rfl)
              · skip
                rw [← nI_0] at c_54
                have c_54 : ¬ (0 = 0) := fun h => c_54 ((nI_eq (by omega) (by omega)).mpr h)
                exact absurd rfl c_54
        · skip
          subst hr
          have hpn : pn a b i = none := stp_none (fp_none (fun q h1 h2 => by rw [← eb q h2, ← ea i (by omega)]; exact hno q (by omega) h2))
          refine lv_istore (lv' := [(5, .int (-1)), (0, .ref cm), (1, .ref ra), (2, .ref rb), (3, .int (nI fr_)), (4, .int (nI i))]) S0.1 S0.2.1 dCo_find_37 hl (by decide) rfl (fun ls hl => ?_)
          refine lv_iload S0.1 S0.2.1 dCo_find_39 (lv_at hl 0 rfl) ?_
          refine lv_iconst (v := (-1)) S0.1 S0.2.1 dCo_find_41 (by decide) ?_
          refine lv_icmp_eq (tgt := 70) S0.1 S0.2.1 dCo_find_42 (by decide) (fun c_42 => ?_) (fun c_42 => ?_)
          · skip
            refine lv_iinc (v := nI (i + 1)) (lv' := [(4, .int (nI (i + 1))), (5, .int (-1)), (0, .ref cm), (1, .ref ra), (2, .ref rb), (3, .int (nI fr_))]) S0.1 S0.2.1 dCo_find_70 hl (k := 5) rfl (by exact nI_add _ 1) (by decide) rfl (fun ls hl => ?_)
            refine lv_goto (tgt := 16) S0.1 S0.2.1 dCo_find_73 (by decide) ?_
            exact ih_16 (i + 1) fr_ n fA fB gl _ _ _ (by omega) (by omega) (by rw [fro_none hpn]; exact hf) (by rw [prs_none hpn]; exact hn) (by rw [prs_none hpn]; exact hA) (by rw [prs_none hpn]; exact hB) fr e0 e1 e2 e3 hg hS (lv_sub hl [2, 3, 4, 5, 0] rfl)
          · skip
            exact absurd rfl c_42
  exact loop_16 _ 0 0 0 fp0 fq0 g_2 _ _ _ (Nat.lt_succ_self _) (Nat.zero_le _) rfl rfl (rpN_nil _) (rpN_nil _) fr f2_7 f2_4 f2_5 f2_6 hg hS (lv_sub hl [2, 3, 4, 1, 0] rfl)
end
section
/-! HUNKS -/
set_option maxRecDepth 100000 in
set_option maxHeartbeats 4000000 in
theorem c_Hu_addUnlessEmpty (l : Launch) (D : va_G) (cI cR cJ : ClassId) (g : Nat → Option va_E) (sz : Nat) (hu ce cm n x0 x1 y0 y1 : Nat) (f : Nat → Int32) (hk_ : List N4) (h0 : g hu = some (.inr (1, [.ref ce, .int (nI n), .ref cm]))) (h1 : g ce = some (.inl (cI, 244, .inl f))) (hn : n = hk_.length) (hn6 : n < 61) (hr : rpN f (fl4 hk_)) (hx : x0 ≤ x1) (hy : y0 ≤ y1) (hx6 : x1 ≤ 60) (hy6 : y1 ≤ 60) : hMv l yHu_addUnlessEmpty cHu_addUnlessEmpty 6 (hRm 0 0 0 0) D (hT cI cR cJ) g sz [.ref hu, .int (nI x0), .int (nI x1), .int (nI y0), .int (nI y1)] (fun g1 => hfr g g1 [hu, ce] ∧ ∃ f1 : Nat → Int32, g1 hu = some (.inr (1, [.ref ce, .int (nI (hk_ ++ hk1 x0 x1 y0 y1).length), .ref cm])) ∧ g1 ce = some (.inl (cI, 244, .inl f1)) ∧ rpN f1 (fl4 (hk_ ++ hk1 x0 x1 y0 y1))) := by
  refine hMv_of (by decide +kernel) (Nat.le_of_ble_eq_true rfl) ?_
  intro pX eX RX sX mX argsX belowX methX cX QX AX hR S0 hnm hsz hg hK hS hA0 hend ls hl
  have hl : lv_has ls 6 [(0, .ref hu), (1, .int (nI x0)), (2, .int (nI x1)), (3, .int (nI y0)), (4, .int (nI y1))] := hl
  have fr : hfr g g [hu, ce] := hfr.rf
  refine lv_iload_n S0.1 S0.2.1 dHu_addUnlessEmpty_0 rfl (lv_at hl 1 rfl) ?_
  refine lv_iload_n S0.1 S0.2.1 dHu_addUnlessEmpty_1 rfl (lv_at hl 2 rfl) ?_
  refine lv_icmp_lt (tgt := 11) S0.1 S0.2.1 dHu_addUnlessEmpty_2 (by decide) (fun c_2 => ?_) (fun c_2 => ?_)
  · skip
    have c_2 : x0 < x1 := (nI_ltI (by omega) (by omega)).mp c_2
    refine lv_aload_n S0.1 S0.2.1 dHu_addUnlessEmpty_11 rfl (lv_at hl 0 rfl) ?_
    refine hw_get S0 hK hg h0 rfl inHu 1 (by decide) lf_Hu_15 rfl rfl dHu_addUnlessEmpty_12 ?_
    refine lv_bipush (v := nI 61) S0.1 S0.2.1 dHu_addUnlessEmpty_15 (by decide) ?_
    refine lv_icmp_ge (tgt := 83) S0.1 S0.2.1 dHu_addUnlessEmpty_17 (by decide) (fun c_17 => ?_) (fun c_17 => ?_)
    · skip
      have c_17 : 61 ≤ n := (nI_leI (by omega) (by omega)).mp c_17
      exact absurd hn6 (by omega)
    · skip
      have c_17 : ¬ (61 ≤ n) := fun h => c_17 ((nI_leI (by omega) (by omega)).mpr h)
      refine lv_aload_n S0.1 S0.2.1 dHu_addUnlessEmpty_20 rfl (lv_at hl 0 rfl) ?_
      refine hw_get S0 hK hg h0 rfl inHu 1 (by decide) lf_Hu_15 rfl rfl dHu_addUnlessEmpty_21 ?_
      refine lv_iconst (v := nI 4) S0.1 S0.2.1 dHu_addUnlessEmpty_24 (by decide) ?_
      refine lv_imul S0.1 S0.2.1 dHu_addUnlessEmpty_25 ?_
      refine hw_top (nI (n * 4)) (pk_mul _ _) ?_
      refine lv_istore (lv' := [(5, .int (nI (n * 4))), (0, .ref hu), (1, .int (nI x0)), (2, .int (nI x1)), (3, .int (nI y0)), (4, .int (nI y1))]) S0.1 S0.2.1 dHu_addUnlessEmpty_26 hl (by decide) rfl (fun ls hl => ?_)
      refine lv_aload_n S0.1 S0.2.1 dHu_addUnlessEmpty_28 rfl (lv_at hl 1 rfl) ?_
      refine hw_get S0 hK hg h0 rfl inHu 0 (by decide) lf_Hu_11 rfl rfl dHu_addUnlessEmpty_29 ?_
      refine lv_iload S0.1 S0.2.1 dHu_addUnlessEmpty_32 (lv_at hl 0 rfl) ?_
      refine lv_iconst (v := nI 0) S0.1 S0.2.1 dHu_addUnlessEmpty_34 (by decide) ?_
      refine lv_iadd S0.1 S0.2.1 dHu_addUnlessEmpty_35 ?_
      refine hw_top (nI ((n * 4) + 0)) (nI_add _ _) ?_
      refine lv_iload_n S0.1 S0.2.1 dHu_addUnlessEmpty_36 rfl (lv_at hl 2 rfl) ?_
      refine hw_iast S0 hK hg hS h1 0 rfl (by omega) (by omega) dHu_addUnlessEmpty_37 (fun H locs hg hS => ?_)
      obtain ⟨g_1, eg_1⟩ : ∃ z, z = hs g ce (.inl (cI, 244, .inl (upd f ((n * 4) + 0) (nI x0)))) := ⟨_, rfl⟩
      have hg : hw D hC AX g_1 H := by rw [eg_1]; exact hg
      have f1_0 : g_1 hu = some (.inr (1, [.ref ce, .int (nI n), .ref cm])) := by rw [eg_1, hs_n _ _ (h_ne h0 h1 (fun h => by cases h))]; exact h0
      have f1_1 : g_1 ce = some (.inl (cI, 244, .inl (upd f ((n * 4) + 0) (nI x0)))) := by rw [eg_1]; exact hs_s _ _ _
      have fr := fr.put eg_1 (by simp)
      refine lv_aload_n S0.1 S0.2.1 dHu_addUnlessEmpty_38 rfl (lv_at hl 1 rfl) ?_
      refine hw_get S0 hK hg f1_0 rfl inHu 0 (by decide) lf_Hu_11 rfl rfl dHu_addUnlessEmpty_39 ?_
      refine lv_iload S0.1 S0.2.1 dHu_addUnlessEmpty_42 (lv_at hl 0 rfl) ?_
      refine lv_iconst (v := nI 1) S0.1 S0.2.1 dHu_addUnlessEmpty_44 (by decide) ?_
      refine lv_iadd S0.1 S0.2.1 dHu_addUnlessEmpty_45 ?_
      refine hw_top (nI ((n * 4) + 1)) (nI_add _ _) ?_
      refine lv_iload_n S0.1 S0.2.1 dHu_addUnlessEmpty_46 rfl (lv_at hl 3 rfl) ?_
      refine lv_iload_n S0.1 S0.2.1 dHu_addUnlessEmpty_47 rfl (lv_at hl 2 rfl) ?_
      refine lv_isub S0.1 S0.2.1 dHu_addUnlessEmpty_48 ?_
      refine hw_top (nI (x1 - x0)) (pk_sub (by omega)) ?_
      refine hw_iast S0 hK hg hS f1_1 0 rfl (by omega) (by omega) dHu_addUnlessEmpty_49 (fun H locs hg hS => ?_)
      obtain ⟨g_2, eg_2⟩ : ∃ z, z = hs g_1 ce (.inl (cI, 244, .inl (upd (upd f ((n * 4) + 0) (nI x0)) ((n * 4) + 1) (nI (x1 - x0))))) := ⟨_, rfl⟩
      have hg : hw D hC AX g_2 H := by rw [eg_2]; exact hg
      have f2_0 : g_2 hu = some (.inr (1, [.ref ce, .int (nI n), .ref cm])) := by rw [eg_2, hs_n _ _ (h_ne f1_0 f1_1 (fun h => by cases h))]; exact f1_0
      have f2_1 : g_2 ce = some (.inl (cI, 244, .inl (upd (upd f ((n * 4) + 0) (nI x0)) ((n * 4) + 1) (nI (x1 - x0))))) := by rw [eg_2]; exact hs_s _ _ _
      have fr := fr.put eg_2 (by simp)
      refine lv_aload_n S0.1 S0.2.1 dHu_addUnlessEmpty_50 rfl (lv_at hl 1 rfl) ?_
      refine hw_get S0 hK hg f2_0 rfl inHu 0 (by decide) lf_Hu_11 rfl rfl dHu_addUnlessEmpty_51 ?_
      refine lv_iload S0.1 S0.2.1 dHu_addUnlessEmpty_54 (lv_at hl 0 rfl) ?_
      refine lv_iconst (v := nI 2) S0.1 S0.2.1 dHu_addUnlessEmpty_56 (by decide) ?_
      refine lv_iadd S0.1 S0.2.1 dHu_addUnlessEmpty_57 ?_
      refine hw_top (nI ((n * 4) + 2)) (nI_add _ _) ?_
      refine lv_iload_n S0.1 S0.2.1 dHu_addUnlessEmpty_58 rfl (lv_at hl 4 rfl) ?_
      refine hw_iast S0 hK hg hS f2_1 0 rfl (by omega) (by omega) dHu_addUnlessEmpty_59 (fun H locs hg hS => ?_)
      obtain ⟨g_3, eg_3⟩ : ∃ z, z = hs g_2 ce (.inl (cI, 244, .inl (upd (upd (upd f ((n * 4) + 0) (nI x0)) ((n * 4) + 1) (nI (x1 - x0))) ((n * 4) + 2) (nI y0)))) := ⟨_, rfl⟩
      have hg : hw D hC AX g_3 H := by rw [eg_3]; exact hg
      have f3_0 : g_3 hu = some (.inr (1, [.ref ce, .int (nI n), .ref cm])) := by rw [eg_3, hs_n _ _ (h_ne f2_0 f2_1 (fun h => by cases h))]; exact f2_0
      have f3_1 : g_3 ce = some (.inl (cI, 244, .inl (upd (upd (upd f ((n * 4) + 0) (nI x0)) ((n * 4) + 1) (nI (x1 - x0))) ((n * 4) + 2) (nI y0)))) := by rw [eg_3]; exact hs_s _ _ _
      have fr := fr.put eg_3 (by simp)
      refine lv_aload_n S0.1 S0.2.1 dHu_addUnlessEmpty_60 rfl (lv_at hl 1 rfl) ?_
      refine hw_get S0 hK hg f3_0 rfl inHu 0 (by decide) lf_Hu_11 rfl rfl dHu_addUnlessEmpty_61 ?_
      refine lv_iload S0.1 S0.2.1 dHu_addUnlessEmpty_64 (lv_at hl 0 rfl) ?_
      refine lv_iconst (v := nI 3) S0.1 S0.2.1 dHu_addUnlessEmpty_66 (by decide) ?_
      refine lv_iadd S0.1 S0.2.1 dHu_addUnlessEmpty_67 ?_
      refine hw_top (nI ((n * 4) + 3)) (nI_add _ _) ?_
      refine lv_iload S0.1 S0.2.1 dHu_addUnlessEmpty_68 (lv_at hl 5 rfl) ?_
      refine lv_iload_n S0.1 S0.2.1 dHu_addUnlessEmpty_70 rfl (lv_at hl 4 rfl) ?_
      refine lv_isub S0.1 S0.2.1 dHu_addUnlessEmpty_71 ?_
      refine hw_top (nI (y1 - y0)) (pk_sub (by omega)) ?_
      refine hw_iast S0 hK hg hS f3_1 0 rfl (by omega) (by omega) dHu_addUnlessEmpty_72 (fun H locs hg hS => ?_)
      obtain ⟨g_4, eg_4⟩ : ∃ z, z = hs g_3 ce (.inl (cI, 244, .inl (upd (upd (upd (upd f ((n * 4) + 0) (nI x0)) ((n * 4) + 1) (nI (x1 - x0))) ((n * 4) + 2) (nI y0)) ((n * 4) + 3) (nI (y1 - y0))))) := ⟨_, rfl⟩
      have hg : hw D hC AX g_4 H := by rw [eg_4]; exact hg
      have f4_0 : g_4 hu = some (.inr (1, [.ref ce, .int (nI n), .ref cm])) := by rw [eg_4, hs_n _ _ (h_ne f3_0 f3_1 (fun h => by cases h))]; exact f3_0
      have f4_1 : g_4 ce = some (.inl (cI, 244, .inl (upd (upd (upd (upd f ((n * 4) + 0) (nI x0)) ((n * 4) + 1) (nI (x1 - x0))) ((n * 4) + 2) (nI y0)) ((n * 4) + 3) (nI (y1 - y0))))) := by rw [eg_4]; exact hs_s _ _ _
      have fr := fr.put eg_4 (by simp)
      refine lv_aload_n S0.1 S0.2.1 dHu_addUnlessEmpty_73 rfl (lv_at hl 1 rfl) ?_
      refine lv_dup S0.1 S0.2.1 dHu_addUnlessEmpty_74 rfl ?_
      refine hw_get S0 hK hg f4_0 rfl inHu 1 (by decide) lf_Hu_15 rfl rfl dHu_addUnlessEmpty_75 ?_
      refine lv_iconst (v := nI 1) S0.1 S0.2.1 dHu_addUnlessEmpty_78 (by decide) ?_
      refine lv_iadd S0.1 S0.2.1 dHu_addUnlessEmpty_79 ?_
      refine hw_top (nI (n + 1)) (nI_add _ _) ?_
      refine hw_put S0 hK hg hS f4_0 rfl inHu tyHu tokHu nmHu 1 (by decide) lf_Hu_15 rfl rfl rfl rfl (Nat.le_of_ble_eq_true rfl) dHu_addUnlessEmpty_80 (fun H locs hg hS => ?_)
      obtain ⟨g_5, eg_5⟩ : ∃ z, z = hs g_4 hu (.inr (1, [.ref ce, .int (nI (n + 1)), .ref cm])) := ⟨_, rfl⟩
      have hg : hw D hC AX g_5 H := by rw [eg_5]; exact hg
      have f5_0 : g_5 ce = some (.inl (cI, 244, .inl (upd (upd (upd (upd f ((n * 4) + 0) (nI x0)) ((n * 4) + 1) (nI (x1 - x0))) ((n * 4) + 2) (nI y0)) ((n * 4) + 3) (nI (y1 - y0))))) := by rw [eg_5, hs_n _ _ (h_ne f4_1 f4_0 (fun h => by cases h))]; exact f4_1
      have f5_1 : g_5 hu = some (.inr (1, [.ref ce, .int (nI (n + 1)), .ref cm])) := by rw [eg_5]; exact hs_s _ _ _
      have fr := fr.put eg_5 (by simp)
      have e : hk1 x0 x1 y0 y1 = [(x0, x1 - x0, y0, y1 - y0)] := if_pos (by omega)
      exact hend _ _ _ _ _ _ _ (by decide) (by decide) (by rw [e, List.length_append, ← hn]; exact ⟨fr, _, f5_1, f5_0, rp4_snoc hr hn x0 (x1 - x0) y0 (y1 - y0)⟩) hg hS dHu_addUnlessEmpty_83
  · skip
    have c_2 : ¬ (x0 < x1) := fun h => c_2 ((nI_ltI (by omega) (by omega)).mpr h)
    refine lv_iload_n S0.1 S0.2.1 dHu_addUnlessEmpty_5 rfl (lv_at hl 3 rfl) ?_
    refine lv_iload S0.1 S0.2.1 dHu_addUnlessEmpty_6 (lv_at hl 4 rfl) ?_
    refine lv_icmp_ge (tgt := 83) S0.1 S0.2.1 dHu_addUnlessEmpty_8 (by decide) (fun c_8 => ?_) (fun c_8 => ?_)
    · skip
      have c_8 : y1 ≤ y0 := (nI_leI (by omega) (by omega)).mp c_8
      have e : hk1 x0 x1 y0 y1 = [] := if_neg (by omega)
      exact hend _ _ _ _ _ _ _ (by decide) (by decide) (by rw [e, List.append_nil, ← hn]; exact ⟨fr, f, h0, h1, hr⟩) hg hS dHu_addUnlessEmpty_83
    · skip
      have c_8 : ¬ (y1 ≤ y0) := fun h => c_8 ((nI_leI (by omega) (by omega)).mpr h)
      refine lv_aload_n S0.1 S0.2.1 dHu_addUnlessEmpty_11 rfl (lv_at hl 0 rfl) ?_
      refine hw_get S0 hK hg h0 rfl inHu 1 (by decide) lf_Hu_15 rfl rfl dHu_addUnlessEmpty_12 ?_
      refine lv_bipush (v := nI 61) S0.1 S0.2.1 dHu_addUnlessEmpty_15 (by decide) ?_
      refine lv_icmp_ge (tgt := 83) S0.1 S0.2.1 dHu_addUnlessEmpty_17 (by decide) (fun c_17 => ?_) (fun c_17 => ?_)
      · skip
        have c_17 : 61 ≤ n := (nI_leI (by omega) (by omega)).mp c_17
        exact absurd hn6 (by omega)
      · skip
        have c_17 : ¬ (61 ≤ n) := fun h => c_17 ((nI_leI (by omega) (by omega)).mpr h)
        refine lv_aload_n S0.1 S0.2.1 dHu_addUnlessEmpty_20 rfl (lv_at hl 0 rfl) ?_
        refine hw_get S0 hK hg h0 rfl inHu 1 (by decide) lf_Hu_15 rfl rfl dHu_addUnlessEmpty_21 ?_
        refine lv_iconst (v := nI 4) S0.1 S0.2.1 dHu_addUnlessEmpty_24 (by decide) ?_
        refine lv_imul S0.1 S0.2.1 dHu_addUnlessEmpty_25 ?_
        refine hw_top (nI (n * 4)) (pk_mul _ _) ?_
        refine lv_istore (lv' := [(5, .int (nI (n * 4))), (0, .ref hu), (1, .int (nI x0)), (2, .int (nI x1)), (3, .int (nI y0)), (4, .int (nI y1))]) S0.1 S0.2.1 dHu_addUnlessEmpty_26 hl (by decide) rfl (fun ls hl => ?_)
        refine lv_aload_n S0.1 S0.2.1 dHu_addUnlessEmpty_28 rfl (lv_at hl 1 rfl) ?_
        refine hw_get S0 hK hg h0 rfl inHu 0 (by decide) lf_Hu_11 rfl rfl dHu_addUnlessEmpty_29 ?_
        refine lv_iload S0.1 S0.2.1 dHu_addUnlessEmpty_32 (lv_at hl 0 rfl) ?_
        refine lv_iconst (v := nI 0) S0.1 S0.2.1 dHu_addUnlessEmpty_34 (by decide) ?_
        refine lv_iadd S0.1 S0.2.1 dHu_addUnlessEmpty_35 ?_
        refine hw_top (nI ((n * 4) + 0)) (nI_add _ _) ?_
        refine lv_iload_n S0.1 S0.2.1 dHu_addUnlessEmpty_36 rfl (lv_at hl 2 rfl) ?_
        refine hw_iast S0 hK hg hS h1 0 rfl (by omega) (by omega) dHu_addUnlessEmpty_37 (fun H locs hg hS => ?_)
        obtain ⟨g_6, eg_6⟩ : ∃ z, z = hs g ce (.inl (cI, 244, .inl (upd f ((n * 4) + 0) (nI x0)))) := ⟨_, rfl⟩
        have hg : hw D hC AX g_6 H := by rw [eg_6]; exact hg
        have f6_0 : g_6 hu = some (.inr (1, [.ref ce, .int (nI n), .ref cm])) := by rw [eg_6, hs_n _ _ (h_ne h0 h1 (fun h => by cases h))]; exact h0
        have f6_1 : g_6 ce = some (.inl (cI, 244, .inl (upd f ((n * 4) + 0) (nI x0)))) := by rw [eg_6]; exact hs_s _ _ _
        have fr := fr.put eg_6 (by simp)
        refine lv_aload_n S0.1 S0.2.1 dHu_addUnlessEmpty_38 rfl (lv_at hl 1 rfl) ?_
        refine hw_get S0 hK hg f6_0 rfl inHu 0 (by decide) lf_Hu_11 rfl rfl dHu_addUnlessEmpty_39 ?_
        refine lv_iload S0.1 S0.2.1 dHu_addUnlessEmpty_42 (lv_at hl 0 rfl) ?_
        refine lv_iconst (v := nI 1) S0.1 S0.2.1 dHu_addUnlessEmpty_44 (by decide) ?_
        refine lv_iadd S0.1 S0.2.1 dHu_addUnlessEmpty_45 ?_
        refine hw_top (nI ((n * 4) + 1)) (nI_add _ _) ?_
        refine lv_iload_n S0.1 S0.2.1 dHu_addUnlessEmpty_46 rfl (lv_at hl 3 rfl) ?_
        refine lv_iload_n S0.1 S0.2.1 dHu_addUnlessEmpty_47 rfl (lv_at hl 2 rfl) ?_
        refine lv_isub S0.1 S0.2.1 dHu_addUnlessEmpty_48 ?_
        refine hw_top (nI (x1 - x0)) (pk_sub (by omega)) ?_
        refine hw_iast S0 hK hg hS f6_1 0 rfl (by omega) (by omega) dHu_addUnlessEmpty_49 (fun H locs hg hS => ?_)
        obtain ⟨g_7, eg_7⟩ : ∃ z, z = hs g_6 ce (.inl (cI, 244, .inl (upd (upd f ((n * 4) + 0) (nI x0)) ((n * 4) + 1) (nI (x1 - x0))))) := ⟨_, rfl⟩
        have hg : hw D hC AX g_7 H := by rw [eg_7]; exact hg
        have f7_0 : g_7 hu = some (.inr (1, [.ref ce, .int (nI n), .ref cm])) := by rw [eg_7, hs_n _ _ (h_ne f6_0 f6_1 (fun h => by cases h))]; exact f6_0
        have f7_1 : g_7 ce = some (.inl (cI, 244, .inl (upd (upd f ((n * 4) + 0) (nI x0)) ((n * 4) + 1) (nI (x1 - x0))))) := by rw [eg_7]; exact hs_s _ _ _
        have fr := fr.put eg_7 (by simp)
        refine lv_aload_n S0.1 S0.2.1 dHu_addUnlessEmpty_50 rfl (lv_at hl 1 rfl) ?_
        refine hw_get S0 hK hg f7_0 rfl inHu 0 (by decide) lf_Hu_11 rfl rfl dHu_addUnlessEmpty_51 ?_
        refine lv_iload S0.1 S0.2.1 dHu_addUnlessEmpty_54 (lv_at hl 0 rfl) ?_
        refine lv_iconst (v := nI 2) S0.1 S0.2.1 dHu_addUnlessEmpty_56 (by decide) ?_
        refine lv_iadd S0.1 S0.2.1 dHu_addUnlessEmpty_57 ?_
        refine hw_top (nI ((n * 4) + 2)) (nI_add _ _) ?_
        refine lv_iload_n S0.1 S0.2.1 dHu_addUnlessEmpty_58 rfl (lv_at hl 4 rfl) ?_
        refine hw_iast S0 hK hg hS f7_1 0 rfl (by omega) (by omega) dHu_addUnlessEmpty_59 (fun H locs hg hS => ?_)
        obtain ⟨g_8, eg_8⟩ : ∃ z, z = hs g_7 ce (.inl (cI, 244, .inl (upd (upd (upd f ((n * 4) + 0) (nI x0)) ((n * 4) + 1) (nI (x1 - x0))) ((n * 4) + 2) (nI y0)))) := ⟨_, rfl⟩
        have hg : hw D hC AX g_8 H := by rw [eg_8]; exact hg
        have f8_0 : g_8 hu = some (.inr (1, [.ref ce, .int (nI n), .ref cm])) := by rw [eg_8, hs_n _ _ (h_ne f7_0 f7_1 (fun h => by cases h))]; exact f7_0
        have f8_1 : g_8 ce = some (.inl (cI, 244, .inl (upd (upd (upd f ((n * 4) + 0) (nI x0)) ((n * 4) + 1) (nI (x1 - x0))) ((n * 4) + 2) (nI y0)))) := by rw [eg_8]; exact hs_s _ _ _
        have fr := fr.put eg_8 (by simp)
        refine lv_aload_n S0.1 S0.2.1 dHu_addUnlessEmpty_60 rfl (lv_at hl 1 rfl) ?_
        refine hw_get S0 hK hg f8_0 rfl inHu 0 (by decide) lf_Hu_11 rfl rfl dHu_addUnlessEmpty_61 ?_
        refine lv_iload S0.1 S0.2.1 dHu_addUnlessEmpty_64 (lv_at hl 0 rfl) ?_
        refine lv_iconst (v := nI 3) S0.1 S0.2.1 dHu_addUnlessEmpty_66 (by decide) ?_
        refine lv_iadd S0.1 S0.2.1 dHu_addUnlessEmpty_67 ?_
        refine hw_top (nI ((n * 4) + 3)) (nI_add _ _) ?_
        refine lv_iload S0.1 S0.2.1 dHu_addUnlessEmpty_68 (lv_at hl 5 rfl) ?_
        refine lv_iload_n S0.1 S0.2.1 dHu_addUnlessEmpty_70 rfl (lv_at hl 4 rfl) ?_
        refine lv_isub S0.1 S0.2.1 dHu_addUnlessEmpty_71 ?_
        refine hw_top (nI (y1 - y0)) (pk_sub (by omega)) ?_
        refine hw_iast S0 hK hg hS f8_1 0 rfl (by omega) (by omega) dHu_addUnlessEmpty_72 (fun H locs hg hS => ?_)
        obtain ⟨g_9, eg_9⟩ : ∃ z, z = hs g_8 ce (.inl (cI, 244, .inl (upd (upd (upd (upd f ((n * 4) + 0) (nI x0)) ((n * 4) + 1) (nI (x1 - x0))) ((n * 4) + 2) (nI y0)) ((n * 4) + 3) (nI (y1 - y0))))) := ⟨_, rfl⟩
        have hg : hw D hC AX g_9 H := by rw [eg_9]; exact hg
        have f9_0 : g_9 hu = some (.inr (1, [.ref ce, .int (nI n), .ref cm])) := by rw [eg_9, hs_n _ _ (h_ne f8_0 f8_1 (fun h => by cases h))]; exact f8_0
        have f9_1 : g_9 ce = some (.inl (cI, 244, .inl (upd (upd (upd (upd f ((n * 4) + 0) (nI x0)) ((n * 4) + 1) (nI (x1 - x0))) ((n * 4) + 2) (nI y0)) ((n * 4) + 3) (nI (y1 - y0))))) := by rw [eg_9]; exact hs_s _ _ _
        have fr := fr.put eg_9 (by simp)
        refine lv_aload_n S0.1 S0.2.1 dHu_addUnlessEmpty_73 rfl (lv_at hl 1 rfl) ?_
        refine lv_dup S0.1 S0.2.1 dHu_addUnlessEmpty_74 rfl ?_
        refine hw_get S0 hK hg f9_0 rfl inHu 1 (by decide) lf_Hu_15 rfl rfl dHu_addUnlessEmpty_75 ?_
        refine lv_iconst (v := nI 1) S0.1 S0.2.1 dHu_addUnlessEmpty_78 (by decide) ?_
        refine lv_iadd S0.1 S0.2.1 dHu_addUnlessEmpty_79 ?_
        refine hw_top (nI (n + 1)) (nI_add _ _) ?_
        refine hw_put S0 hK hg hS f9_0 rfl inHu tyHu tokHu nmHu 1 (by decide) lf_Hu_15 rfl rfl rfl rfl (Nat.le_of_ble_eq_true rfl) dHu_addUnlessEmpty_80 (fun H locs hg hS => ?_)
        obtain ⟨g_10, eg_10⟩ : ∃ z, z = hs g_9 hu (.inr (1, [.ref ce, .int (nI (n + 1)), .ref cm])) := ⟨_, rfl⟩
        have hg : hw D hC AX g_10 H := by rw [eg_10]; exact hg
        have f10_0 : g_10 ce = some (.inl (cI, 244, .inl (upd (upd (upd (upd f ((n * 4) + 0) (nI x0)) ((n * 4) + 1) (nI (x1 - x0))) ((n * 4) + 2) (nI y0)) ((n * 4) + 3) (nI (y1 - y0))))) := by rw [eg_10, hs_n _ _ (h_ne f9_1 f9_0 (fun h => by cases h))]; exact f9_1
        have f10_1 : g_10 hu = some (.inr (1, [.ref ce, .int (nI (n + 1)), .ref cm])) := by rw [eg_10]; exact hs_s _ _ _
        have fr := fr.put eg_10 (by simp)
        have e : hk1 x0 x1 y0 y1 = [(x0, x1 - x0, y0, y1 - y0)] := if_pos (by omega)
        exact hend _ _ _ _ _ _ _ (by decide) (by decide) (by rw [e, List.length_append, ← hn]; exact ⟨fr, _, f10_1, f10_0, rp4_snoc hr hn x0 (x1 - x0) y0 (y1 - y0)⟩) hg hS dHu_addUnlessEmpty_83
set_option maxRecDepth 100000 in
set_option maxHeartbeats 4000000 in
theorem c_Hu_find (l : Launch) (D : va_G) (cI cR cJ : ClassId) (g : Nat → Option va_E) (sz : Nat) (cm pa pb len ra la ca rb lb cb : Nat) (cnt : Int32) (a b : List Int32) (fa fb fl : Nat → Int32) (h0 : g cm = some (.inr (0, [.ref pa, .ref pb, .int cnt, .ref len]))) (h1 : g len = some (.inl (cI, 3721, .inl fl))) (h2 : g ra = some (.inr (5, [.ref la, .int (nI a.length)]))) (h3 : g la = some (.inl (cI, ca, .inl fa))) (h4 : g rb = some (.inr (5, [.ref lb, .int (nI b.length)]))) (h5 : g lb = some (.inl (cI, cb, .inl fb))) (ea : rp fa a) (eb : rp fb b) (hla : la ≠ len) (hlb : lb ≠ len) (hna : a.length ≤ 60) (hnb : b.length ≤ 60) (hca : a.length ≤ ca) (hcb : b.length ≤ cb) (hca4 : ca < 4000) (hcb4 : cb < 4000) (fp0 fq0 : Nat → Int32) (h6 : g pa = some (.inl (cI, 60, .inl fp0))) (h7 : g pb = some (.inl (cI, 60, .inl fq0))) (hap : la ≠ pa) (haq : la ≠ pb) (hbp : lb ≠ pa) (hbq : lb ≠ pb) (hpq : pa ≠ pb) (hpl : pa ≠ len) (hql : pb ≠ len) (hu ce : Nat) (hc0 : Int32) (fc0 : Nat → Int32) (h8 : g hu = some (.inr (1, [.ref ce, .int hc0, .ref cm]))) (h9 : g ce = some (.inl (cI, 244, .inl fc0))) (hac : la ≠ ce) (hbc : lb ≠ ce) (hpc : pa ≠ ce) (hqc : pb ≠ ce) (hlc : len ≠ ce) : hMv l yHu_find cHu_find 6 (hRm 3 73 0 0) D (hT cI cR cJ) g sz [.ref hu, .ref ra, .ref rb] (fun g1 => hfr g g1 [hu, ce, cm, pa, pb, len] ∧ ∃ (n1 : Nat) (fA fB fL fc : Nat → Int32), g1 cm = some (.inr (0, [.ref pa, .ref pb, .int (nI n1), .ref len])) ∧ g1 pa = some (.inl (cI, 60, .inl fA)) ∧ g1 pb = some (.inl (cI, 60, .inl fB)) ∧ g1 len = some (.inl (cI, 3721, .inl fL)) ∧ g1 hu = some (.inr (1, [.ref ce, .int (nI (hunksOf a b).length), .ref cm])) ∧ g1 ce = some (.inl (cI, 244, .inl fc)) ∧ rpN fc (fl4 (hunksOf a b))) := by
  refine hMv_of (by decide +kernel) (Nat.le_of_ble_eq_true rfl) ?_
  intro pX eX RX sX mX argsX belowX methX cX QX AX hR S0 hnm hsz hg hK hS hA0 hend ls hl
  have hl : lv_has ls 6 [(0, .ref hu), (1, .ref ra), (2, .ref rb)] := hl
  have fr : hfr g g [hu, ce, cm, pa, pb, len] := hfr.rf
  refine lv_aload_n S0.1 S0.2.1 dHu_find_0 rfl (lv_at hl 0 rfl) ?_
  refine hw_get S0 hK hg h8 rfl inHu 2 (by decide) lf_Hu_19 rfl rfl dHu_find_1 ?_
  refine lv_aload_n S0.1 S0.2.1 dHu_find_4 rfl (lv_at hl 1 rfl) ?_
  refine lv_aload_n S0.1 S0.2.1 dHu_find_5 rfl (lv_at hl 2 rfl) ?_
  refine hw_Vv (As := [.ref ra, .ref rb]) (rest := []) S0 hK hg hS hA0 h0 rfl (c_Co_find l D cI cR cJ g _ cm pa pb len ra la ca rb lb cb cnt a b fa fb fl h0 h1 h2 h3 h4 h5 ea eb hla hlb hna hnb hca hcb hca4 hcb4 fp0 fq0 h6 h7 hap haq hbp hbq hpq hpl hql) kCo_find lm_Hu_23 (hR.call rfl) rfl hl.1 rfl (Nat.le_of_ble_eq_true rfl) dHu_find_6 (hR.new (by decide) (by decide)) (fun g_1 H locs hp_6 hg hS => ?_)
  obtain ⟨fr1, fA, fB, fL, a0, a1, a2, a3, hA, hB⟩ := hp_6
  generalize hP : prs a b a.length = P at a0 hA hB
  have k1_0 := fr1.at (h_nm (h_ne h2 h0 (fun h => by simp at h)) (h_nm (h_ne h2 h6 (fun h => by cases h)) (h_nm (h_ne h2 h7 (fun h => by cases h)) (h_nm (h_ne h2 h1 (fun h => by cases h)) h_n0)))) h2
  have k1_1 := fr1.at (h_nm (h_ne h3 h0 (fun h => by cases h)) (h_nm hap (h_nm haq (h_nm hla h_n0)))) h3
  have k1_2 := fr1.at (h_nm (h_ne h4 h0 (fun h => by simp at h)) (h_nm (h_ne h4 h6 (fun h => by cases h)) (h_nm (h_ne h4 h7 (fun h => by cases h)) (h_nm (h_ne h4 h1 (fun h => by cases h)) h_n0)))) h4
  have k1_3 := fr1.at (h_nm (h_ne h5 h0 (fun h => by cases h)) (h_nm hbp (h_nm hbq (h_nm hlb h_n0)))) h5
  have k1_4 := fr1.at (h_nm (h_ne h8 h0 (fun h => by simp at h)) (h_nm (h_ne h8 h6 (fun h => by cases h)) (h_nm (h_ne h8 h7 (fun h => by cases h)) (h_nm (h_ne h8 h1 (fun h => by cases h)) h_n0)))) h8
  have k1_5 := fr1.at (h_nm (h_ne h9 h0 (fun h => by cases h)) (h_nm (Ne.symm hpc) (h_nm (Ne.symm hqc) (h_nm (Ne.symm hlc) h_n0)))) h9
  have fr := fr.call fr1 (by simp)
  have hP60 : P.length ≤ 60 := by rw [← hP]; have := (prs_len a b a.length).1; omega
  refine lv_aload_n S0.1 S0.2.1 dHu_find_9 rfl (lv_at hl 0 rfl) ?_
  refine lv_iconst (v := nI 0) S0.1 S0.2.1 dHu_find_10 (by decide) ?_
  refine hw_put S0 hK hg hS k1_4 rfl inHu tyHu tokHu nmHu 1 (by decide) lf_Hu_15 rfl rfl rfl rfl (Nat.le_of_ble_eq_true rfl) dHu_find_11 (fun H locs hg hS => ?_)
  obtain ⟨g_2, eg_2⟩ : ∃ z, z = hs g_1 hu (.inr (1, [.ref ce, .int (nI 0), .ref cm])) := ⟨_, rfl⟩
  have hg : hw D hC AX g_2 H := by rw [eg_2]; exact hg
  have f2_0 : g_2 ra = some (.inr (5, [.ref la, .int (nI a.length)])) := by rw [eg_2, hs_n _ _ (h_ne k1_0 k1_4 (fun h => by simp at h))]; exact k1_0
  have f2_1 : g_2 la = some (.inl (cI, ca, .inl fa)) := by rw [eg_2, hs_n _ _ (h_ne k1_1 k1_4 (fun h => by cases h))]; exact k1_1
  have f2_2 : g_2 rb = some (.inr (5, [.ref lb, .int (nI b.length)])) := by rw [eg_2, hs_n _ _ (h_ne k1_2 k1_4 (fun h => by simp at h))]; exact k1_2
  have f2_3 : g_2 lb = some (.inl (cI, cb, .inl fb)) := by rw [eg_2, hs_n _ _ (h_ne k1_3 k1_4 (fun h => by cases h))]; exact k1_3
  have f2_4 : g_2 ce = some (.inl (cI, 244, .inl fc0)) := by rw [eg_2, hs_n _ _ (h_ne k1_5 k1_4 (fun h => by cases h))]; exact k1_5
  have f2_5 : g_2 cm = some (.inr (0, [.ref pa, .ref pb, .int (nI P.length), .ref len])) := by rw [eg_2, hs_n _ _ (h_ne a0 k1_4 (fun h => by simp at h))]; exact a0
  have f2_6 : g_2 pa = some (.inl (cI, 60, .inl fA)) := by rw [eg_2, hs_n _ _ (h_ne a1 k1_4 (fun h => by cases h))]; exact a1
  have f2_7 : g_2 pb = some (.inl (cI, 60, .inl fB)) := by rw [eg_2, hs_n _ _ (h_ne a2 k1_4 (fun h => by cases h))]; exact a2
  have f2_8 : g_2 len = some (.inl (cI, 3721, .inl fL)) := by rw [eg_2, hs_n _ _ (h_ne a3 k1_4 (fun h => by cases h))]; exact a3
  have f2_9 : g_2 hu = some (.inr (1, [.ref ce, .int (nI 0), .ref cm])) := by rw [eg_2]; exact hs_s _ _ _
  have fr := fr.put eg_2 (by simp)
  refine lv_iconst (v := nI 0) S0.1 S0.2.1 dHu_find_14 (by decide) ?_
  refine lv_istore_n (lv' := [(3, .int (nI 0)), (0, .ref hu), (1, .ref ra), (2, .ref rb)]) S0.1 S0.2.1 dHu_find_15 rfl hl (by decide) rfl (fun ls hl => ?_)
  refine lv_iconst (v := nI 0) S0.1 S0.2.1 dHu_find_16 (by decide) ?_
  refine lv_istore (lv' := [(4, .int (nI 0)), (3, .int (nI 0)), (0, .ref hu), (1, .ref ra), (2, .ref rb)]) S0.1 S0.2.1 dHu_find_17 hl (by decide) rfl (fun ls hl => ?_)
  refine lv_iconst (v := nI 0) S0.1 S0.2.1 dHu_find_19 (by decide) ?_
  refine lv_istore (lv' := [(5, .int (nI 0)), (4, .int (nI 0)), (3, .int (nI 0)), (0, .ref hu), (1, .ref ra), (2, .ref rb)]) S0.1 S0.2.1 dHu_find_20 hl (by decide) rfl (fun ls hl => ?_)
  have loop_22 : ∀ (n_22 : Nat) (k : Nat) (x : Nat) (y : Nat) (hs_ : List N4) (fc : Nat → Int32) (gl : Nat → Option va_E) (H : Heap) (locs : List Loc) (ls : Array Slot), P.length - k < n_22 → (k ≤ P.length) → (cutp (P.take k) = (x, y, hs_)) → (rpN fc (fl4 hs_)) → (hfr g gl [hu, ce, cm, pa, pb, len]) → (gl hu = some (.inr (1, [.ref ce, .int (nI hs_.length), .ref cm]))) → (gl ce = some (.inl (cI, 244, .inl fc))) → (gl cm = some (.inr (0, [.ref pa, .ref pb, .int (nI P.length), .ref len]))) → (gl pa = some (.inl (cI, 60, .inl fA))) → (gl pb = some (.inl (cI, 60, .inl fB))) → (gl len = some (.inl (cI, 3721, .inl fL))) → hw D hC AX gl H → va_S AX sX.heap H locs → lv_has ls 6 [(0, .ref hu), (1, .ref ra), (2, .ref rb), (3, .int (nI x)), (4, .int (nI y)), (5, .int (nI k))] → W pX l eX RX sX mX argsX belowX methX cX H locs 0 0 QX (F0 mX 22 ls []) := by
    intro n_22
    induction n_22 with
    | zero => intros; omega
    | succ n_22 ih_22 =>
      intro k x y hs_ fc gl H locs ls hm_22 hk hst hr fr e0 e1 e2 e3 e4 e5 hg hS hl
      have q22_ra := fr.at (h_nm (h_ne f2_0 f2_9 (fun h => by simp at h)) (h_nm (h_ne f2_0 f2_4 (fun h => by cases h)) (h_nm (h_ne f2_0 f2_5 (fun h => by simp at h)) (h_nm (h_ne f2_0 f2_6 (fun h => by cases h)) (h_nm (h_ne f2_0 f2_7 (fun h => by cases h)) (h_nm (h_ne f2_0 f2_8 (fun h => by cases h)) h_n0)))))) h2
      have q22_la := fr.at (h_nm (h_ne f2_1 f2_9 (fun h => by cases h)) (h_nm hac (h_nm (h_ne f2_1 f2_5 (fun h => by cases h)) (h_nm hap (h_nm haq (h_nm hla h_n0)))))) h3
      have q22_rb := fr.at (h_nm (h_ne f2_2 f2_9 (fun h => by simp at h)) (h_nm (h_ne f2_2 f2_4 (fun h => by cases h)) (h_nm (h_ne f2_2 f2_5 (fun h => by simp at h)) (h_nm (h_ne f2_2 f2_6 (fun h => by cases h)) (h_nm (h_ne f2_2 f2_7 (fun h => by cases h)) (h_nm (h_ne f2_2 f2_8 (fun h => by cases h)) h_n0)))))) h4
      have q22_lb := fr.at (h_nm (h_ne f2_3 f2_9 (fun h => by cases h)) (h_nm hbc (h_nm (h_ne f2_3 f2_5 (fun h => by cases h)) (h_nm hbp (h_nm hbq (h_nm hlb h_n0)))))) h5
      refine lv_iload S0.1 S0.2.1 dHu_find_22 (lv_at hl 5 rfl) ?_
      refine lv_aload_n S0.1 S0.2.1 dHu_find_24 rfl (lv_at hl 0 rfl) ?_
      refine hw_get S0 hK hg e0 rfl inHu 2 (by decide) lf_Hu_19 rfl rfl dHu_find_25 ?_
      refine hw_get S0 hK hg e2 rfl inCo 2 (by decide) lf_Hu_29 rfl rfl dHu_find_28 ?_
      refine lv_icmp_ge (tgt := 94) S0.1 S0.2.1 dHu_find_31 (by decide) (fun c_31 => ?_) (fun c_31 => ?_)
      · skip
        have c_31 : P.length ≤ k := (nI_leI (by omega) (by omega)).mp c_31
        have ek : k = P.length := by omega
        rw [ek, List.take_length] at hst
        have hcp := cutp_prs a b a.length
        rw [hP, hst] at hcp
        dsimp only at hcp
        have hfl := fro_le a b a.length
        refine lv_aload_n S0.1 S0.2.1 dHu_find_94 rfl (lv_at hl 0 rfl) ?_
        refine lv_iload_n S0.1 S0.2.1 dHu_find_95 rfl (lv_at hl 3 rfl) ?_
        refine lv_aload_n S0.1 S0.2.1 dHu_find_96 rfl (lv_at hl 1 rfl) ?_
        refine hw_get S0 hK hg q22_ra rfl inRo 1 (by decide) lf_Hu_40 rfl rfl dHu_find_97 ?_
        refine lv_iload S0.1 S0.2.1 dHu_find_100 (lv_at hl 4 rfl) ?_
        refine lv_aload_n S0.1 S0.2.1 dHu_find_102 rfl (lv_at hl 2 rfl) ?_
        refine hw_get S0 hK hg q22_rb rfl inRo 1 (by decide) lf_Hu_40 rfl rfl dHu_find_103 ?_
        refine hw_Vv (As := [.int (nI x), .int (nI a.length), .int (nI y), .int (nI b.length)]) (rest := []) S0 hK hg hS hA0 e0 rfl (c_Hu_addUnlessEmpty l D cI cR cJ gl _ hu ce cm hs_.length x a.length y b.length fc hs_ e0 e1 rfl (by omega) hr (by omega) (by omega) (by omega) (by omega)) kHu_addUnlessEmpty lm_Hu_36 (hR.call rfl) rfl hl.1 rfl (Nat.le_of_ble_eq_true rfl) dHu_find_106 (hR.new (by decide) (by decide)) (fun g_3 H locs hp_106 hg hS => ?_)
        obtain ⟨fr1, f1, b0, b1, b2⟩ := hp_106
        have k3_0 := fr1.at (h_nm (h_ne q22_ra e0 (fun h => by simp at h)) (h_nm (h_ne q22_ra e1 (fun h => by cases h)) h_n0)) q22_ra
        have k3_1 := fr1.at (h_nm (h_ne q22_la e0 (fun h => by cases h)) (h_nm hac h_n0)) q22_la
        have k3_2 := fr1.at (h_nm (h_ne q22_rb e0 (fun h => by simp at h)) (h_nm (h_ne q22_rb e1 (fun h => by cases h)) h_n0)) q22_rb
        have k3_3 := fr1.at (h_nm (h_ne q22_lb e0 (fun h => by cases h)) (h_nm hbc h_n0)) q22_lb
        have k3_4 := fr1.at (h_nm (h_ne e2 e0 (fun h => by simp at h)) (h_nm (h_ne e2 e1 (fun h => by cases h)) h_n0)) e2
        have k3_5 := fr1.at (h_nm (h_ne e3 e0 (fun h => by cases h)) (h_nm hpc h_n0)) e3
        have k3_6 := fr1.at (h_nm (h_ne e4 e0 (fun h => by cases h)) (h_nm hqc h_n0)) e4
        have k3_7 := fr1.at (h_nm (h_ne e5 e0 (fun h => by cases h)) (h_nm hlc h_n0)) e5
        have fr := fr.call fr1 (by simp)
        have eh : hunksOf a b = hs_ ++ hk1 x a.length y b.length := by rw [hunksOf, hP, hst]
        exact hend _ _ _ _ _ _ _ (by decide) (by decide) (by rw [eh]; exact ⟨fr, P.length, fA, fB, fL, f1, k3_4, k3_5, k3_6, k3_7, b0, b1, b2⟩) hg hS dHu_find_109
      · skip
        have c_31 : ¬ (P.length ≤ k) := fun h => c_31 ((nI_leI (by omega) (by omega)).mpr h)
        obtain ⟨i, j, hget, htk, hpn, hin⟩ := prs_take (a := a) (b := b) (n := a.length) (k := k) (by rw [hP]; omega)
        rw [hP] at hget htk
        have eA : fA k = nI i := rpN_at hA hget
        have eB : fB k = nI j := rpN_at hB hget
        have hcp := cutp_prs a b i
        rw [← htk, hst] at hcp
        dsimp only at hcp
        have hsp := stp_spec (show stp a b (fro a b i) i = some j from hpn)
        have htl : (P.take k).length ≤ k := by rw [List.length_take]; omega
        refine lv_aload_n S0.1 S0.2.1 dHu_find_34 rfl (lv_at hl 0 rfl) ?_
        refine lv_iload_n S0.1 S0.2.1 dHu_find_35 rfl (lv_at hl 3 rfl) ?_
        refine lv_aload_n S0.1 S0.2.1 dHu_find_36 rfl (lv_at hl 0 rfl) ?_
        refine hw_get S0 hK hg e0 rfl inHu 2 (by decide) lf_Hu_19 rfl rfl dHu_find_37 ?_
        refine hw_get S0 hK hg e2 rfl inCo 0 (by decide) lf_Hu_30 rfl rfl dHu_find_40 ?_
        refine lv_iload S0.1 S0.2.1 dHu_find_43 (lv_at hl 5 rfl) ?_
        refine hw_iald S0 hK hg e3 0 rfl (by omega) (by omega) dHu_find_45 ?_
        refine hw_top (nI i) eA ?_
        refine lv_iload S0.1 S0.2.1 dHu_find_46 (lv_at hl 4 rfl) ?_
        refine lv_aload_n S0.1 S0.2.1 dHu_find_48 rfl (lv_at hl 0 rfl) ?_
        refine hw_get S0 hK hg e0 rfl inHu 2 (by decide) lf_Hu_19 rfl rfl dHu_find_49 ?_
        refine hw_get S0 hK hg e2 rfl inCo 1 (by decide) lf_Hu_33 rfl rfl dHu_find_52 ?_
        refine lv_iload S0.1 S0.2.1 dHu_find_55 (lv_at hl 5 rfl) ?_
        refine hw_iald S0 hK hg e4 0 rfl (by omega) (by omega) dHu_find_57 ?_
        refine hw_top (nI j) eB ?_
        refine hw_Vv (As := [.int (nI x), .int (nI i), .int (nI y), .int (nI j)]) (rest := []) S0 hK hg hS hA0 e0 rfl (c_Hu_addUnlessEmpty l D cI cR cJ gl _ hu ce cm hs_.length x i y j fc hs_ e0 e1 rfl (by omega) hr (by omega) (by omega) (by omega) (by omega)) kHu_addUnlessEmpty lm_Hu_36 (hR.call rfl) rfl hl.1 rfl (Nat.le_of_ble_eq_true rfl) dHu_find_58 (hR.new (by decide) (by decide)) (fun g_4 H locs hp_58 hg hS => ?_)
        obtain ⟨fr1, f1, b0, b1, b2⟩ := hp_58
        have k4_0 := fr1.at (h_nm (h_ne q22_ra e0 (fun h => by simp at h)) (h_nm (h_ne q22_ra e1 (fun h => by cases h)) h_n0)) q22_ra
        have k4_1 := fr1.at (h_nm (h_ne q22_la e0 (fun h => by cases h)) (h_nm hac h_n0)) q22_la
        have k4_2 := fr1.at (h_nm (h_ne q22_rb e0 (fun h => by simp at h)) (h_nm (h_ne q22_rb e1 (fun h => by cases h)) h_n0)) q22_rb
        have k4_3 := fr1.at (h_nm (h_ne q22_lb e0 (fun h => by cases h)) (h_nm hbc h_n0)) q22_lb
        have k4_4 := fr1.at (h_nm (h_ne e2 e0 (fun h => by simp at h)) (h_nm (h_ne e2 e1 (fun h => by cases h)) h_n0)) e2
        have k4_5 := fr1.at (h_nm (h_ne e3 e0 (fun h => by cases h)) (h_nm hpc h_n0)) e3
        have k4_6 := fr1.at (h_nm (h_ne e4 e0 (fun h => by cases h)) (h_nm hqc h_n0)) e4
        have k4_7 := fr1.at (h_nm (h_ne e5 e0 (fun h => by cases h)) (h_nm hlc h_n0)) e5
        have fr := fr.call fr1 (by simp)
        refine lv_aload_n S0.1 S0.2.1 dHu_find_61 rfl (lv_at hl 0 rfl) ?_
        refine hw_get S0 hK hg b0 rfl inHu 2 (by decide) lf_Hu_19 rfl rfl dHu_find_62 ?_
        refine hw_get S0 hK hg k4_4 rfl inCo 0 (by decide) lf_Hu_30 rfl rfl dHu_find_65 ?_
        refine lv_iload S0.1 S0.2.1 dHu_find_68 (lv_at hl 5 rfl) ?_
        refine hw_iald S0 hK hg k4_5 0 rfl (by omega) (by omega) dHu_find_70 ?_
        refine hw_top (nI i) eA ?_
        refine lv_iconst (v := nI 1) S0.1 S0.2.1 dHu_find_71 (by decide) ?_
        refine lv_iadd S0.1 S0.2.1 dHu_find_72 ?_
        refine hw_top (nI (i + 1)) (nI_add _ _) ?_
        refine lv_istore_n (lv' := [(3, .int (nI (i + 1))), (0, .ref hu), (1, .ref ra), (2, .ref rb), (4, .int (nI y)), (5, .int (nI k))]) S0.1 S0.2.1 dHu_find_73 rfl hl (by decide) rfl (fun ls hl => ?_)
        refine lv_aload_n S0.1 S0.2.1 dHu_find_74 rfl (lv_at hl 1 rfl) ?_
        refine hw_get S0 hK hg b0 rfl inHu 2 (by decide) lf_Hu_19 rfl rfl dHu_find_75 ?_
        refine hw_get S0 hK hg k4_4 rfl inCo 1 (by decide) lf_Hu_33 rfl rfl dHu_find_78 ?_
        refine lv_iload S0.1 S0.2.1 dHu_find_81 (lv_at hl 5 rfl) ?_
        refine hw_iald S0 hK hg k4_6 0 rfl (by omega) (by omega) dHu_find_83 ?_
        refine hw_top (nI j) eB ?_
        refine lv_iconst (v := nI 1) S0.1 S0.2.1 dHu_find_84 (by decide) ?_
        refine lv_iadd S0.1 S0.2.1 dHu_find_85 ?_
        refine hw_top (nI (j + 1)) (nI_add _ _) ?_
        refine lv_istore (lv' := [(4, .int (nI (j + 1))), (3, .int (nI (i + 1))), (0, .ref hu), (1, .ref ra), (2, .ref rb), (5, .int (nI k))]) S0.1 S0.2.1 dHu_find_86 hl (by decide) rfl (fun ls hl => ?_)
        refine lv_iinc (v := nI (k + 1)) (lv' := [(5, .int (nI (k + 1))), (4, .int (nI (j + 1))), (3, .int (nI (i + 1))), (0, .ref hu), (1, .ref ra), (2, .ref rb)]) S0.1 S0.2.1 dHu_find_88 hl (k := 5) rfl (by exact nI_add _ 1) (by decide) rfl (fun ls hl => ?_)
        refine lv_goto (tgt := 22) S0.1 S0.2.1 dHu_find_91 (by decide) ?_
        exact ih_22 (k + 1) (i + 1) (j + 1) (hs_ ++ hk1 x i y j) f1 g_4 _ _ _ (by omega) (by omega) (by rw [take_snoc hget, cutp_snoc, hst]; rfl) b2 fr b0 b1 k4_4 k4_5 k4_6 k4_7 hg hS (lv_sub hl [3, 4, 5, 2, 1, 0] rfl)
  exact loop_22 _ 0 0 0 ([]) fc0 g_2 _ _ _ (Nat.lt_succ_self _) (Nat.zero_le _) rfl (rpN_nil _) fr f2_9 f2_4 f2_5 f2_6 f2_7 f2_8 hg hS (lv_sub hl [3, 4, 5, 2, 1, 0] rfl)
end
section
/-! PARTS, MERGING -/
theorem pt_same {xs ys : List Int32} {i1 j1 i2 j2 : Nat} (h1 : j1 ≤ xs.length) (h2 : j2 ≤ ys.length) (hl : j1 - i1 = j2 - i2) (h : ∀ q, q < j1 - i1 → xs.getD (i1 + q) 0 = ys.getD (i2 + q) 0) : pt xs i1 j1 = pt ys i2 j2 := by
  refine l_ext0 (by rw [pt_len h1, pt_len h2, hl]) (fun q hq => ?_)
  rw [pt_len h1] at hq
  rw [pt_get h1 hq, pt_get h2 (by omega)]
  exact h q hq
theorem pt_diff {xs ys : List Int32} {i1 j1 i2 j2 k : Nat} (h1 : j1 ≤ xs.length) (h2 : j2 ≤ ys.length) (hl : j1 - i1 = j2 - i2) (hk : k < j1 - i1) (h : ¬ xs.getD (i1 + k) 0 = ys.getD (i2 + k) 0) : ¬ pt xs i1 j1 = pt ys i2 j2 := fun e => h (by rw [← pt_get h1 hk, e, pt_get h2 (by omega)])
theorem pt_lens {xs ys : List Int32} {i1 j1 i2 j2 : Nat} (h1 : j1 ≤ xs.length) (h2 : j2 ≤ ys.length) (hl : ¬ j1 - i1 = j2 - i2) : ¬ pt xs i1 j1 = pt ys i2 j2 := fun e => hl (by rw [← pt_len h1, e, pt_len h2])
theorem anchor_none {bs rt : List Int32} {n ry pl : Nat} (h : pl < n) (hlt : ∀ (k : Nat) (p : Nat × Nat), k < ry → (prs bs rt n)[k]? = some p → p.1 < pl) (hge : ∀ p : Nat × Nat, (prs bs rt n)[ry]? = some p → pl < p.1) : pn bs rt pl = none := by
  cases e : pn bs rt pl with
  | none => rfl
  | some j =>
    obtain ⟨k, hk⟩ := List.getElem?_of_mem (prs_has h e)
    rcases Nat.lt_or_ge k ry with h9 | h9
    · exact absurd (hlt k _ h9 hk) (Nat.lt_irrefl _)
    · rcases Nat.lt_or_ge ry k with h8 | h8
      · have hl : ry < (prs bs rt n).length := Nat.lt_trans h8 (List.getElem?_eq_some_iff.mp hk).1
        have hq := List.getElem?_eq_getElem hl
        have a1 := hge _ hq
        have a2 := prs_lt h8 hq hk
        exact absurd (Nat.lt_trans a1 a2) (Nat.lt_irrefl _)
      · have e9 : k = ry := by omega
        subst e9
        exact absurd (hge _ hk) (Nat.lt_irrefl _)
theorem mg_at {bs lf rt : List Int32} {i p : Nat} (e : prs bs lf i = prs bs lf p) : mg bs lf rt i = mg bs lf rt p := by
  rcases Nat.le_total i p with h | h
  · exact mg_same h e
  · exact (mg_same h e.symm).symm
set_option maxRecDepth 100000 in
set_option maxHeartbeats 4000000 in
theorem c_Pa_startOn (l : Launch) (D : va_G) (cI cR cJ : ClassId) (g : Nat → Option va_E) (sz : Nat) (pq r r0 : Nat) (x y : Int32) (h0 : g pq = some (.inr (3, [.ref r0, .int x, .int y]))) : hMv l yPa_startOn cPa_startOn 2 (hRm 0 0 0 0) D (hT cI cR cJ) g sz [.ref pq, .ref r] (fun g1 => hfr g g1 [pq] ∧ g1 pq = some (.inr (3, [.ref r, .int (nI 0), .int (nI 0)]))) := by
  refine hMv_of (by decide +kernel) (Nat.le_of_ble_eq_true rfl) ?_
  intro pX eX RX sX mX argsX belowX methX cX QX AX hR S0 hnm hsz hg hK hS hA0 hend ls hl
  have hl : lv_has ls 2 [(0, .ref pq), (1, .ref r)] := hl
  have fr : hfr g g [pq] := hfr.rf
  refine lv_aload_n S0.1 S0.2.1 dPa_startOn_0 rfl (lv_at hl 0 rfl) ?_
  refine lv_aload_n S0.1 S0.2.1 dPa_startOn_1 rfl (lv_at hl 1 rfl) ?_
  refine hw_put S0 hK hg hS h0 rfl inPa tyPa tokPa nmPa 0 (by decide) lf_Pa_12 rfl rfl rfl rfl (Nat.le_of_ble_eq_true rfl) dPa_startOn_2 (fun H locs hg hS => ?_)
  obtain ⟨g_1, eg_1⟩ : ∃ z, z = hs g pq (.inr (3, [.ref r, .int x, .int y])) := ⟨_, rfl⟩
  have hg : hw D hC AX g_1 H := by rw [eg_1]; exact hg
  have f1_0 : g_1 pq = some (.inr (3, [.ref r, .int x, .int y])) := by rw [eg_1]; exact hs_s _ _ _
  have fr := fr.put eg_1 (by simp)
  refine lv_aload_n S0.1 S0.2.1 dPa_startOn_5 rfl (lv_at hl 0 rfl) ?_
  refine lv_iconst (v := nI 0) S0.1 S0.2.1 dPa_startOn_6 (by decide) ?_
  refine hw_put S0 hK hg hS f1_0 rfl inPa tyPa tokPa nmPa 1 (by decide) lf_Pa_18 rfl rfl rfl rfl (Nat.le_of_ble_eq_true rfl) dPa_startOn_7 (fun H locs hg hS => ?_)
  obtain ⟨g_2, eg_2⟩ : ∃ z, z = hs g_1 pq (.inr (3, [.ref r, .int (nI 0), .int y])) := ⟨_, rfl⟩
  have hg : hw D hC AX g_2 H := by rw [eg_2]; exact hg
  have f2_0 : g_2 pq = some (.inr (3, [.ref r, .int (nI 0), .int y])) := by rw [eg_2]; exact hs_s _ _ _
  have fr := fr.put eg_2 (by simp)
  refine lv_aload_n S0.1 S0.2.1 dPa_startOn_10 rfl (lv_at hl 0 rfl) ?_
  refine lv_iconst (v := nI 0) S0.1 S0.2.1 dPa_startOn_11 (by decide) ?_
  refine hw_put S0 hK hg hS f2_0 rfl inPa tyPa tokPa nmPa 2 (by decide) lf_Pa_22 rfl rfl rfl rfl (Nat.le_of_ble_eq_true rfl) dPa_startOn_12 (fun H locs hg hS => ?_)
  obtain ⟨g_3, eg_3⟩ : ∃ z, z = hs g_2 pq (.inr (3, [.ref r, .int (nI 0), .int (nI 0)])) := ⟨_, rfl⟩
  have hg : hw D hC AX g_3 H := by rw [eg_3]; exact hg
  have f3_0 : g_3 pq = some (.inr (3, [.ref r, .int (nI 0), .int (nI 0)])) := by rw [eg_3]; exact hs_s _ _ _
  have fr := fr.put eg_3 (by simp)
  exact hend _ _ _ _ _ _ _ (by decide) (by decide) (⟨fr, f3_0⟩) hg hS dPa_startOn_15
set_option maxRecDepth 100000 in
set_option maxHeartbeats 4000000 in
theorem c_Pa_stepOverAnchor (l : Launch) (D : va_G) (cI cR cJ : ClassId) (g : Nat → Option va_E) (sz : Nat) (pq r0 n : Nat) (x : Int32) (h0 : g pq = some (.inr (3, [.ref r0, .int x, .int (nI n)]))) : hMv l yPa_stepOverAnchor cPa_stepOverAnchor 1 (hRm 0 0 0 0) D (hT cI cR cJ) g sz [.ref pq] (fun g1 => hfr g g1 [pq] ∧ g1 pq = some (.inr (3, [.ref r0, .int (nI (n + 1)), .int (nI n)]))) := by
  refine hMv_of (by decide +kernel) (Nat.le_of_ble_eq_true rfl) ?_
  intro pX eX RX sX mX argsX belowX methX cX QX AX hR S0 hnm hsz hg hK hS hA0 hend ls hl
  have hl : lv_has ls 1 [(0, .ref pq)] := hl
  have fr : hfr g g [pq] := hfr.rf
  refine lv_aload_n S0.1 S0.2.1 dPa_stepOverAnchor_0 rfl (lv_at hl 0 rfl) ?_
  refine lv_aload_n S0.1 S0.2.1 dPa_stepOverAnchor_1 rfl (lv_at hl 0 rfl) ?_
  refine hw_get S0 hK hg h0 rfl inPa 2 (by decide) lf_Pa_22 rfl rfl dPa_stepOverAnchor_2 ?_
  refine lv_iconst (v := nI 1) S0.1 S0.2.1 dPa_stepOverAnchor_5 (by decide) ?_
  refine lv_iadd S0.1 S0.2.1 dPa_stepOverAnchor_6 ?_
  refine hw_top (nI (n + 1)) (nI_add _ _) ?_
  refine hw_put S0 hK hg hS h0 rfl inPa tyPa tokPa nmPa 1 (by decide) lf_Pa_18 rfl rfl rfl rfl (Nat.le_of_ble_eq_true rfl) dPa_stepOverAnchor_7 (fun H locs hg hS => ?_)
  obtain ⟨g_1, eg_1⟩ : ∃ z, z = hs g pq (.inr (3, [.ref r0, .int (nI (n + 1)), .int (nI n)])) := ⟨_, rfl⟩
  have hg : hw D hC AX g_1 H := by rw [eg_1]; exact hg
  have f1_0 : g_1 pq = some (.inr (3, [.ref r0, .int (nI (n + 1)), .int (nI n)])) := by rw [eg_1]; exact hs_s _ _ _
  have fr := fr.put eg_1 (by simp)
  exact hend _ _ _ _ _ _ _ (by decide) (by decide) (⟨fr, f1_0⟩) hg hS dPa_stepOverAnchor_10
set_option maxRecDepth 100000 in
set_option maxHeartbeats 4000000 in
theorem c_Pa_length (l : Launch) (D : va_G) (cI cR cJ : ClassId) (g : Nat → Option va_E) (sz : Nat) (pq r0 i j : Nat) (hij : i ≤ j) (h0 : g pq = some (.inr (3, [.ref r0, .int (nI i), .int (nI j)]))) : hMi l yPa_length cPa_length 1 .int (hRm 0 0 0 0) D (hT cI cR cJ) g sz [.ref pq] (fun o g1 => g1 = g ∧ o = nI (j - i)) := by
  refine hMi_of (by decide +kernel) (Nat.le_of_ble_eq_true rfl) ?_
  intro pX eX RX sX mX argsX belowX methX cX QX AX hR S0 hnm hsz hg hK hS hA0 hend ls hl
  have hl : lv_has ls 1 [(0, .ref pq)] := hl
  refine lv_aload_n S0.1 S0.2.1 dPa_length_0 rfl (lv_at hl 0 rfl) ?_
  refine hw_get S0 hK hg h0 rfl inPa 2 (by decide) lf_Pa_22 rfl rfl dPa_length_1 ?_
  refine lv_aload_n S0.1 S0.2.1 dPa_length_4 rfl (lv_at hl 0 rfl) ?_
  refine hw_get S0 hK hg h0 rfl inPa 1 (by decide) lf_Pa_18 rfl rfl dPa_length_5 ?_
  refine lv_isub S0.1 S0.2.1 dPa_length_8 ?_
  refine hw_top (nI (j - i)) (pk_sub (by omega)) ?_
  exact hend _ _ _ _ _ _ _ _ (by decide) (by decide) rfl (⟨rfl, rfl⟩) hg hS dPa_length_9
set_option maxRecDepth 100000 in
set_option maxHeartbeats 4000000 in
theorem c_Pa_isLike (l : Launch) (D : va_G) (cI cR cJ : ClassId) (g : Nat → Option va_E) (sz : Nat) (p1 r1 l1 c1 i1 j1 p2 r2 l2 c2 i2 j2 : Nat) (xs ys : List Int32) (f1 f2 : Nat → Int32) (h0 : g p1 = some (.inr (3, [.ref r1, .int (nI i1), .int (nI j1)]))) (h1 : g r1 = some (.inr (5, [.ref l1, .int (nI xs.length)]))) (h2 : g l1 = some (.inl (cI, c1, .inl f1))) (h3 : g p2 = some (.inr (3, [.ref r2, .int (nI i2), .int (nI j2)]))) (h4 : g r2 = some (.inr (5, [.ref l2, .int (nI ys.length)]))) (h5 : g l2 = some (.inl (cI, c2, .inl f2))) (ex : rp f1 xs) (ey : rp f2 ys) (hi1 : i1 ≤ j1) (hj1 : j1 ≤ xs.length) (hc1 : xs.length ≤ c1) (hd1 : c1 < 4000) (hi2 : i2 ≤ j2) (hj2 : j2 ≤ ys.length) (hc2 : ys.length ≤ c2) (hd2 : c2 < 4000) : hMi l yPa_isLike cPa_isLike 3 .boolean (hRm 1 20 0 0) D (hT cI cR cJ) g sz [.ref p1, .ref p2] (fun o g1 => g1 = g ∧ ((o = nI 1 ∧ pt xs i1 j1 = pt ys i2 j2) ∨ (o = nI 0 ∧ ¬ pt xs i1 j1 = pt ys i2 j2))) := by
  refine hMi_of (by decide +kernel) (Nat.le_of_ble_eq_true rfl) ?_
  intro pX eX RX sX mX argsX belowX methX cX QX AX hR S0 hnm hsz hg hK hS hA0 hend ls hl
  have hl : lv_has ls 3 [(0, .ref p1), (1, .ref p2)] := hl
  refine lv_aload_n S0.1 S0.2.1 dPa_isLike_0 rfl (lv_at hl 0 rfl) ?_
  refine hw_Vi (As := []) (rest := []) S0 hK hg hS hA0 h0 rfl (c_Pa_length l D cI cR cJ g _ p1 _ _ _ hi1 h0) kPa_length lm_Pa_25 (hR.call rfl) rfl hl.1 rfl (Nat.le_of_ble_eq_true rfl) dPa_isLike_1 (hR.new (by decide) (by decide)) (fun r_1 g_1 H locs hp_1 hg hS => ?_)
  rw [hp_1.1] at hg
  replace hp_1 := hp_1.2
  subst hp_1
  refine lv_aload_n S0.1 S0.2.1 dPa_isLike_4 rfl (lv_at hl 1 rfl) ?_
  refine hw_Vi (As := []) (rest := [.int (nI (j1 - i1))]) S0 hK hg hS hA0 h3 rfl (c_Pa_length l D cI cR cJ g _ p2 _ _ _ hi2 h3) kPa_length lm_Pa_25 (hR.call rfl) rfl hl.1 rfl (Nat.le_of_ble_eq_true rfl) dPa_isLike_5 (hR.new (by decide) (by decide)) (fun r_5 g_2 H locs hp_5 hg hS => ?_)
  rw [hp_5.1] at hg
  replace hp_5 := hp_5.2
  subst hp_5
  refine lv_icmp_eq (tgt := 13) S0.1 S0.2.1 dPa_isLike_8 (by decide) (fun c_8 => ?_) (fun c_8 => ?_)
  · skip
    have c_8 : (j1 - i1) = (j2 - i2) := (nI_eq (by omega) (by omega)).mp c_8
    refine lv_iconst (v := nI 0) S0.1 S0.2.1 dPa_isLike_13 (by decide) ?_
    refine lv_istore_n (lv' := [(2, .int (nI 0)), (0, .ref p1), (1, .ref p2)]) S0.1 S0.2.1 dPa_isLike_14 rfl hl (by decide) rfl (fun ls hl => ?_)
    have loop_15 : ∀ (n_15 : Nat) (k : Nat) (H : Heap) (locs : List Loc) (ls : Array Slot), j1 - i1 - k < n_15 → (k ≤ j1 - i1) → (∀ q, q < k → xs.getD (i1 + q) 0 = ys.getD (i2 + q) 0) → hw D hC AX g H → va_S AX sX.heap H locs → lv_has ls 3 [(0, .ref p1), (1, .ref p2), (2, .int (nI k))] → W pX l eX RX sX mX argsX belowX methX cX H locs 0 0 QX (F0 mX 15 ls []) := by
      intro n_15
      induction n_15 with
      | zero => intros; omega
      | succ n_15 ih_15 =>
        intro k H locs ls hm_15 hk hall hg hS hl
        refine lv_iload_n S0.1 S0.2.1 dPa_isLike_15 rfl (lv_at hl 2 rfl) ?_
        refine lv_aload_n S0.1 S0.2.1 dPa_isLike_16 rfl (lv_at hl 0 rfl) ?_
        refine hw_Vi (As := []) (rest := [.int (nI k)]) S0 hK hg hS hA0 h0 rfl (c_Pa_length l D cI cR cJ g _ p1 _ _ _ hi1 h0) kPa_length lm_Pa_25 (hR.call rfl) rfl hl.1 rfl (Nat.le_of_ble_eq_true rfl) dPa_isLike_17 (hR.new (by decide) (by decide)) (fun r_17 g_3 H locs hp_17 hg hS => ?_)
        rw [hp_17.1] at hg
        replace hp_17 := hp_17.2
        subst hp_17
        refine lv_icmp_ge (tgt := 62) S0.1 S0.2.1 dPa_isLike_20 (by decide) (fun c_20 => ?_) (fun c_20 => ?_)
        · skip
          have c_20 : (j1 - i1) ≤ k := (nI_leI (by omega) (by omega)).mp c_20
          refine lv_iconst (v := nI 1) S0.1 S0.2.1 dPa_isLike_62 (by decide) ?_
          exact hend _ _ _ _ _ _ _ _ (by decide) (by decide) rfl (⟨rfl, Or.inl ⟨rfl, pt_same hj1 hj2 c_8 (fun q h => hall q (by omega))⟩⟩) hg hS dPa_isLike_63
        · skip
          have c_20 : ¬ ((j1 - i1) ≤ k) := fun h => c_20 ((nI_leI (by omega) (by omega)).mpr h)
          refine lv_aload_n S0.1 S0.2.1 dPa_isLike_23 rfl (lv_at hl 0 rfl) ?_
          refine hw_get S0 hK hg h0 rfl inPa 0 (by decide) lf_Pa_12 rfl rfl dPa_isLike_24 ?_
          refine hw_get S0 hK hg h1 rfl inRo 0 (by decide) lf_Pa_29 rfl rfl dPa_isLike_27 ?_
          refine lv_aload_n S0.1 S0.2.1 dPa_isLike_30 rfl (lv_at hl 0 rfl) ?_
          refine hw_get S0 hK hg h0 rfl inPa 1 (by decide) lf_Pa_18 rfl rfl dPa_isLike_31 ?_
          refine lv_iload_n S0.1 S0.2.1 dPa_isLike_34 rfl (lv_at hl 2 rfl) ?_
          refine lv_iadd S0.1 S0.2.1 dPa_isLike_35 ?_
          refine hw_top (nI (i1 + k)) (nI_add _ _) ?_
          refine hw_iald S0 hK hg h2 0 rfl (by omega) (by omega) dPa_isLike_36 ?_
          refine lv_aload_n S0.1 S0.2.1 dPa_isLike_37 rfl (lv_at hl 1 rfl) ?_
          refine hw_get S0 hK hg h3 rfl inPa 0 (by decide) lf_Pa_12 rfl rfl dPa_isLike_38 ?_
          refine hw_get S0 hK hg h4 rfl inRo 0 (by decide) lf_Pa_29 rfl rfl dPa_isLike_41 ?_
          refine lv_aload_n S0.1 S0.2.1 dPa_isLike_44 rfl (lv_at hl 1 rfl) ?_
          refine hw_get S0 hK hg h3 rfl inPa 1 (by decide) lf_Pa_18 rfl rfl dPa_isLike_45 ?_
          refine lv_iload_n S0.1 S0.2.1 dPa_isLike_48 rfl (lv_at hl 2 rfl) ?_
          refine lv_iadd S0.1 S0.2.1 dPa_isLike_49 ?_
          refine hw_top (nI (i2 + k)) (nI_add _ _) ?_
          refine hw_iald S0 hK hg h5 0 rfl (by omega) (by omega) dPa_isLike_50 ?_
          refine lv_icmp_eq (tgt := 56) S0.1 S0.2.1 dPa_isLike_51 (by decide) (fun c_51 => ?_) (fun c_51 => ?_)
          · skip
            rw [ex _ (by omega), ey _ (by omega)] at c_51
            refine lv_iinc (v := nI (k + 1)) (lv' := [(2, .int (nI (k + 1))), (0, .ref p1), (1, .ref p2)]) S0.1 S0.2.1 dPa_isLike_56 hl (k := 2) rfl (by exact nI_add _ 1) (by decide) rfl (fun ls hl => ?_)
            refine lv_goto (tgt := 15) S0.1 S0.2.1 dPa_isLike_59 (by decide) ?_
            exact ih_15 (k + 1) _ _ _ (by omega) (by omega) (fun q h => by rcases Nat.lt_or_ge q k with h9 | h9; exact hall q h9; rw [show q = k by omega]; exact c_51) hg hS (lv_sub hl [1, 2, 0] rfl)
          · skip
            rw [ex _ (by omega), ey _ (by omega)] at c_51
            refine lv_iconst (v := nI 0) S0.1 S0.2.1 dPa_isLike_54 (by decide) ?_
            exact hend _ _ _ _ _ _ _ _ (by decide) (by decide) rfl (⟨rfl, Or.inr ⟨rfl, pt_diff hj1 hj2 c_8 (by omega) c_51⟩⟩) hg hS dPa_isLike_55
    exact loop_15 _ 0 _ _ _ (Nat.lt_succ_self _) (Nat.zero_le _) (fun q h => absurd h (Nat.not_lt_zero q)) hg hS (lv_sub hl [1, 2, 0] rfl)
  · skip
    have c_8 : ¬ ((j1 - i1) = (j2 - i2)) := fun h => c_8 ((nI_eq (by omega) (by omega)).mpr h)
    refine lv_iconst (v := nI 0) S0.1 S0.2.1 dPa_isLike_11 (by decide) ?_
    exact hend _ _ _ _ _ _ _ _ (by decide) (by decide) rfl (⟨rfl, Or.inr ⟨rfl, pt_lens hj1 hj2 c_8⟩⟩) hg hS dPa_isLike_12
set_option maxRecDepth 100000 in
set_option maxHeartbeats 4000000 in
theorem c_Mg_take (l : Launch) (D : va_G) (cI cR cJ : ClassId) (g : Nat → Option va_E) (sz : Nat) (mo oc cc c1 c2 p1 p2 p3 lo pq r lr cr i j : Nat) (cn : Int32) (ot xs : List Int32) (fo fr_ : Nat → Int32) (h0 : g mo = some (.inr (2, [.ref oc, .ref cc, .int cn, .ref c1, .ref c2, .ref p1, .ref p2, .ref p3]))) (h1 : g oc = some (.inr (5, [.ref lo, .int (nI ot.length)]))) (h2 : g lo = some (.inl (cI, 120, .inl fo))) (h3 : g pq = some (.inr (3, [.ref r, .int (nI i), .int (nI j)]))) (h4 : g r = some (.inr (5, [.ref lr, .int (nI xs.length)]))) (h5 : g lr = some (.inl (cI, cr, .inl fr_))) (eo : rp fo ot) (ex : rp fr_ xs) (hro : r ≠ oc) (hlo : lr ≠ lo) (hi : i ≤ j) (hj : j ≤ xs.length) (hcr : xs.length ≤ cr) (hdr : cr < 4000) (hol : ot.length + (j - i) ≤ 120) : hMv l yMg_take cMg_take 2 (hRm 2 45 0 0) D (hT cI cR cJ) g sz [.ref mo, .ref pq] (fun g1 => hfr g g1 [oc, lo] ∧ ∃ f1 : Nat → Int32, g1 oc = some (.inr (5, [.ref lo, .int (nI (ot ++ pt xs i j).length)])) ∧ g1 lo = some (.inl (cI, 120, .inl f1)) ∧ rp f1 (ot ++ pt xs i j)) := by
  refine hMv_of (by decide +kernel) (Nat.le_of_ble_eq_true rfl) ?_
  intro pX eX RX sX mX argsX belowX methX cX QX AX hR S0 hnm hsz hg hK hS hA0 hend ls hl
  have hl : lv_has ls 2 [(0, .ref mo), (1, .ref pq)] := hl
  have fr : hfr g g [oc, lo] := hfr.rf
  refine lv_aload_n S0.1 S0.2.1 dMg_take_0 rfl (lv_at hl 0 rfl) ?_
  refine hw_get S0 hK hg h0 rfl inMg 0 (by decide) lf_Mg_14 rfl rfl dMg_take_1 ?_
  refine lv_aload_n S0.1 S0.2.1 dMg_take_4 rfl (lv_at hl 1 rfl) ?_
  refine hw_get S0 hK hg h3 rfl inPa 0 (by decide) lf_Mg_101 rfl rfl dMg_take_5 ?_
  refine lv_aload_n S0.1 S0.2.1 dMg_take_8 rfl (lv_at hl 1 rfl) ?_
  refine hw_get S0 hK hg h3 rfl inPa 1 (by decide) lf_Mg_104 rfl rfl dMg_take_9 ?_
  refine lv_aload_n S0.1 S0.2.1 dMg_take_12 rfl (lv_at hl 1 rfl) ?_
  refine hw_get S0 hK hg h3 rfl inPa 2 (by decide) lf_Mg_87 rfl rfl dMg_take_13 ?_
  refine hw_Vv (As := [.ref r, .int (nI i), .int (nI j)]) (rest := []) S0 hK hg hS hA0 h1 rfl (c_Ro_addPart l D cI cR cJ g _ oc lo ot.length 120 r lr xs.length cr i j fo fr_ h1 h2 h4 h5 hro hlo hi (by omega) hol (by omega) hdr) kRo_addPart lm_Mg_107 (hR.call rfl) rfl hl.1 rfl (Nat.le_of_ble_eq_true rfl) dMg_take_16 (hR.new (by decide) (by decide)) (fun g_1 H locs hp_16 hg hS => ?_)
  obtain ⟨fr1, a0, f1, a1, a2, a3⟩ := hp_16
  have fr := fr.call fr1 (by simp)
  exact hend _ _ _ _ _ _ _ (by decide) (by decide) (⟨fr, f1, by rw [List.length_append, pt_len hj]; exact a0, a1, rp_app eo ex hj a2 a3⟩) hg hS dMg_take_19
set_option maxRecDepth 100000 in
set_option maxHeartbeats 4000000 in
theorem c_Mg_addConflict (l : Launch) (D : va_G) (cI cR cJ : ClassId) (g : Nat → Option va_E) (sz : Nat) (mo oc cc c1 c2 p1 p2 p3 lo rL rR n ol la lj ra rj : Nat) (f : Nat → Int32) (cf : List N3) (h0 : g mo = some (.inr (2, [.ref oc, .ref cc, .int (nI n), .ref c1, .ref c2, .ref p1, .ref p2, .ref p3]))) (h1 : g cc = some (.inl (cI, 183, .inl f))) (h2 : g oc = some (.inr (5, [.ref lo, .int (nI ol)]))) (h3 : g p2 = some (.inr (3, [.ref rL, .int (nI la), .int (nI lj)]))) (h4 : g p3 = some (.inr (3, [.ref rR, .int (nI ra), .int (nI rj)]))) (hn : n = cf.length) (hn6 : n < 61) (hr : rpN f (fl3 cf)) (hl : la ≤ lj) (hrr : ra ≤ rj) : hMv l yMg_addConflict cMg_addConflict 2 (hRm 1 20 0 0) D (hT cI cR cJ) g sz [.ref mo] (fun g1 => hfr g g1 [mo, cc] ∧ ∃ f1 : Nat → Int32, g1 mo = some (.inr (2, [.ref oc, .ref cc, .int (nI (cf ++ [(ol, lj - la, rj - ra)]).length), .ref c1, .ref c2, .ref p1, .ref p2, .ref p3])) ∧ g1 cc = some (.inl (cI, 183, .inl f1)) ∧ rpN f1 (fl3 (cf ++ [(ol, lj - la, rj - ra)]))) := by
  refine hMv_of (by decide +kernel) (Nat.le_of_ble_eq_true rfl) ?_
  intro pX eX RX sX mX argsX belowX methX cX QX AX hR S0 hnm hsz hg hK hS hA0 hend ls hl_
  have hll := hl
  have hl : lv_has ls 2 [(0, .ref mo)] := hl_
  have fr : hfr g g [mo, cc] := hfr.rf
  refine lv_aload_n S0.1 S0.2.1 dMg_addConflict_0 rfl (lv_at hl 0 rfl) ?_
  refine hw_get S0 hK hg h0 rfl inMg 2 (by decide) lf_Mg_24 rfl rfl dMg_addConflict_1 ?_
  refine lv_bipush (v := nI 61) S0.1 S0.2.1 dMg_addConflict_4 (by decide) ?_
  refine lv_icmp_ge (tgt := 71) S0.1 S0.2.1 dMg_addConflict_6 (by decide) (fun c_6 => ?_) (fun c_6 => ?_)
  · skip
    have c_6 : 61 ≤ n := (nI_leI (by omega) (by omega)).mp c_6
    exact absurd hn6 (by omega)
  · skip
    have c_6 : ¬ (61 ≤ n) := fun h => c_6 ((nI_leI (by omega) (by omega)).mpr h)
    refine lv_aload_n S0.1 S0.2.1 dMg_addConflict_9 rfl (lv_at hl 0 rfl) ?_
    refine hw_get S0 hK hg h0 rfl inMg 2 (by decide) lf_Mg_24 rfl rfl dMg_addConflict_10 ?_
    refine lv_iconst (v := nI 3) S0.1 S0.2.1 dMg_addConflict_13 (by decide) ?_
    refine lv_imul S0.1 S0.2.1 dMg_addConflict_14 ?_
    refine hw_top (nI (n * 3)) (pk_mul _ _) ?_
    refine lv_istore_n (lv' := [(1, .int (nI (n * 3))), (0, .ref mo)]) S0.1 S0.2.1 dMg_addConflict_15 rfl hl (by decide) rfl (fun ls hl => ?_)
    refine lv_aload_n S0.1 S0.2.1 dMg_addConflict_16 rfl (lv_at hl 1 rfl) ?_
    refine hw_get S0 hK hg h0 rfl inMg 1 (by decide) lf_Mg_20 rfl rfl dMg_addConflict_17 ?_
    refine lv_iload_n S0.1 S0.2.1 dMg_addConflict_20 rfl (lv_at hl 0 rfl) ?_
    refine lv_iconst (v := nI 0) S0.1 S0.2.1 dMg_addConflict_21 (by decide) ?_
    refine lv_iadd S0.1 S0.2.1 dMg_addConflict_22 ?_
    refine hw_top (nI ((n * 3) + 0)) (nI_add _ _) ?_
    refine lv_aload_n S0.1 S0.2.1 dMg_addConflict_23 rfl (lv_at hl 1 rfl) ?_
    refine hw_get S0 hK hg h0 rfl inMg 0 (by decide) lf_Mg_14 rfl rfl dMg_addConflict_24 ?_
    refine hw_get S0 hK hg h2 rfl inRo 1 (by decide) lf_Mg_54 rfl rfl dMg_addConflict_27 ?_
    refine hw_iast S0 hK hg hS h1 0 rfl (by omega) (by omega) dMg_addConflict_30 (fun H locs hg hS => ?_)
    obtain ⟨g_1, eg_1⟩ : ∃ z, z = hs g cc (.inl (cI, 183, .inl (upd f ((n * 3) + 0) (nI ol)))) := ⟨_, rfl⟩
    have hg : hw D hC AX g_1 H := by rw [eg_1]; exact hg
    have f1_0 : g_1 mo = some (.inr (2, [.ref oc, .ref cc, .int (nI n), .ref c1, .ref c2, .ref p1, .ref p2, .ref p3])) := by rw [eg_1, hs_n _ _ (h_ne h0 h1 (fun h => by cases h))]; exact h0
    have f1_1 : g_1 oc = some (.inr (5, [.ref lo, .int (nI ol)])) := by rw [eg_1, hs_n _ _ (h_ne h2 h1 (fun h => by cases h))]; exact h2
    have f1_2 : g_1 p2 = some (.inr (3, [.ref rL, .int (nI la), .int (nI lj)])) := by rw [eg_1, hs_n _ _ (h_ne h3 h1 (fun h => by cases h))]; exact h3
    have f1_3 : g_1 p3 = some (.inr (3, [.ref rR, .int (nI ra), .int (nI rj)])) := by rw [eg_1, hs_n _ _ (h_ne h4 h1 (fun h => by cases h))]; exact h4
    have f1_4 : g_1 cc = some (.inl (cI, 183, .inl (upd f ((n * 3) + 0) (nI ol)))) := by rw [eg_1]; exact hs_s _ _ _
    have fr := fr.put eg_1 (by simp)
    refine lv_aload_n S0.1 S0.2.1 dMg_addConflict_31 rfl (lv_at hl 1 rfl) ?_
    refine hw_get S0 hK hg f1_0 rfl inMg 1 (by decide) lf_Mg_20 rfl rfl dMg_addConflict_32 ?_
    refine lv_iload_n S0.1 S0.2.1 dMg_addConflict_35 rfl (lv_at hl 0 rfl) ?_
    refine lv_iconst (v := nI 1) S0.1 S0.2.1 dMg_addConflict_36 (by decide) ?_
    refine lv_iadd S0.1 S0.2.1 dMg_addConflict_37 ?_
    refine hw_top (nI ((n * 3) + 1)) (nI_add _ _) ?_
    refine lv_aload_n S0.1 S0.2.1 dMg_addConflict_38 rfl (lv_at hl 1 rfl) ?_
    refine hw_get S0 hK hg f1_0 rfl inMg 6 (by decide) lf_Mg_42 rfl rfl dMg_addConflict_39 ?_
    refine hw_Vi (As := []) (rest := [.int (nI ((n * 3) + 1)), .ref cc]) S0 hK hg hS hA0 f1_2 rfl (c_Pa_length l D cI cR cJ g_1 _ p2 _ _ _ hll f1_2) kPa_length lm_Mg_111 (hR.call rfl) rfl hl.1 rfl (Nat.le_of_ble_eq_true rfl) dMg_addConflict_42 (hR.new (by decide) (by decide)) (fun r_42 g_2 H locs hp_42 hg hS => ?_)
    rw [hp_42.1] at hg
    replace hp_42 := hp_42.2
    subst hp_42
    refine hw_iast S0 hK hg hS f1_4 0 rfl (by omega) (by omega) dMg_addConflict_45 (fun H locs hg hS => ?_)
    obtain ⟨g_3, eg_3⟩ : ∃ z, z = hs g_1 cc (.inl (cI, 183, .inl (upd (upd f ((n * 3) + 0) (nI ol)) ((n * 3) + 1) (nI (lj - la))))) := ⟨_, rfl⟩
    have hg : hw D hC AX g_3 H := by rw [eg_3]; exact hg
    have f3_0 : g_3 mo = some (.inr (2, [.ref oc, .ref cc, .int (nI n), .ref c1, .ref c2, .ref p1, .ref p2, .ref p3])) := by rw [eg_3, hs_n _ _ (h_ne f1_0 f1_4 (fun h => by cases h))]; exact f1_0
    have f3_1 : g_3 oc = some (.inr (5, [.ref lo, .int (nI ol)])) := by rw [eg_3, hs_n _ _ (h_ne f1_1 f1_4 (fun h => by cases h))]; exact f1_1
    have f3_2 : g_3 p2 = some (.inr (3, [.ref rL, .int (nI la), .int (nI lj)])) := by rw [eg_3, hs_n _ _ (h_ne f1_2 f1_4 (fun h => by cases h))]; exact f1_2
    have f3_3 : g_3 p3 = some (.inr (3, [.ref rR, .int (nI ra), .int (nI rj)])) := by rw [eg_3, hs_n _ _ (h_ne f1_3 f1_4 (fun h => by cases h))]; exact f1_3
    have f3_4 : g_3 cc = some (.inl (cI, 183, .inl (upd (upd f ((n * 3) + 0) (nI ol)) ((n * 3) + 1) (nI (lj - la))))) := by rw [eg_3]; exact hs_s _ _ _
    have fr := fr.put eg_3 (by simp)
    refine lv_aload_n S0.1 S0.2.1 dMg_addConflict_46 rfl (lv_at hl 1 rfl) ?_
    refine hw_get S0 hK hg f3_0 rfl inMg 1 (by decide) lf_Mg_20 rfl rfl dMg_addConflict_47 ?_
    refine lv_iload_n S0.1 S0.2.1 dMg_addConflict_50 rfl (lv_at hl 0 rfl) ?_
    refine lv_iconst (v := nI 2) S0.1 S0.2.1 dMg_addConflict_51 (by decide) ?_
    refine lv_iadd S0.1 S0.2.1 dMg_addConflict_52 ?_
    refine hw_top (nI ((n * 3) + 2)) (nI_add _ _) ?_
    refine lv_aload_n S0.1 S0.2.1 dMg_addConflict_53 rfl (lv_at hl 1 rfl) ?_
    refine hw_get S0 hK hg f3_0 rfl inMg 7 (by decide) lf_Mg_45 rfl rfl dMg_addConflict_54 ?_
    refine hw_Vi (As := []) (rest := [.int (nI ((n * 3) + 2)), .ref cc]) S0 hK hg hS hA0 f3_3 rfl (c_Pa_length l D cI cR cJ g_3 _ p3 _ _ _ hrr f3_3) kPa_length lm_Mg_111 (hR.call rfl) rfl hl.1 rfl (Nat.le_of_ble_eq_true rfl) dMg_addConflict_57 (hR.new (by decide) (by decide)) (fun r_57 g_4 H locs hp_57 hg hS => ?_)
    rw [hp_57.1] at hg
    replace hp_57 := hp_57.2
    subst hp_57
    refine hw_iast S0 hK hg hS f3_4 0 rfl (by omega) (by omega) dMg_addConflict_60 (fun H locs hg hS => ?_)
    obtain ⟨g_5, eg_5⟩ : ∃ z, z = hs g_3 cc (.inl (cI, 183, .inl (upd (upd (upd f ((n * 3) + 0) (nI ol)) ((n * 3) + 1) (nI (lj - la))) ((n * 3) + 2) (nI (rj - ra))))) := ⟨_, rfl⟩
    have hg : hw D hC AX g_5 H := by rw [eg_5]; exact hg
    have f5_0 : g_5 mo = some (.inr (2, [.ref oc, .ref cc, .int (nI n), .ref c1, .ref c2, .ref p1, .ref p2, .ref p3])) := by rw [eg_5, hs_n _ _ (h_ne f3_0 f3_4 (fun h => by cases h))]; exact f3_0
    have f5_1 : g_5 oc = some (.inr (5, [.ref lo, .int (nI ol)])) := by rw [eg_5, hs_n _ _ (h_ne f3_1 f3_4 (fun h => by cases h))]; exact f3_1
    have f5_2 : g_5 p2 = some (.inr (3, [.ref rL, .int (nI la), .int (nI lj)])) := by rw [eg_5, hs_n _ _ (h_ne f3_2 f3_4 (fun h => by cases h))]; exact f3_2
    have f5_3 : g_5 p3 = some (.inr (3, [.ref rR, .int (nI ra), .int (nI rj)])) := by rw [eg_5, hs_n _ _ (h_ne f3_3 f3_4 (fun h => by cases h))]; exact f3_3
    have f5_4 : g_5 cc = some (.inl (cI, 183, .inl (upd (upd (upd f ((n * 3) + 0) (nI ol)) ((n * 3) + 1) (nI (lj - la))) ((n * 3) + 2) (nI (rj - ra))))) := by rw [eg_5]; exact hs_s _ _ _
    have fr := fr.put eg_5 (by simp)
    refine lv_aload_n S0.1 S0.2.1 dMg_addConflict_61 rfl (lv_at hl 1 rfl) ?_
    refine lv_dup S0.1 S0.2.1 dMg_addConflict_62 rfl ?_
    refine hw_get S0 hK hg f5_0 rfl inMg 2 (by decide) lf_Mg_24 rfl rfl dMg_addConflict_63 ?_
    refine lv_iconst (v := nI 1) S0.1 S0.2.1 dMg_addConflict_66 (by decide) ?_
    refine lv_iadd S0.1 S0.2.1 dMg_addConflict_67 ?_
    refine hw_top (nI (n + 1)) (nI_add _ _) ?_
    refine hw_put S0 hK hg hS f5_0 rfl inMg tyMg tokMg nmMg 2 (by decide) lf_Mg_24 rfl rfl rfl rfl (Nat.le_of_ble_eq_true rfl) dMg_addConflict_68 (fun H locs hg hS => ?_)
    obtain ⟨g_6, eg_6⟩ : ∃ z, z = hs g_5 mo (.inr (2, [.ref oc, .ref cc, .int (nI (n + 1)), .ref c1, .ref c2, .ref p1, .ref p2, .ref p3])) := ⟨_, rfl⟩
    have hg : hw D hC AX g_6 H := by rw [eg_6]; exact hg
    have f6_0 : g_6 oc = some (.inr (5, [.ref lo, .int (nI ol)])) := by rw [eg_6, hs_n _ _ (h_ne f5_1 f5_0 (fun h => by simp at h))]; exact f5_1
    have f6_1 : g_6 p2 = some (.inr (3, [.ref rL, .int (nI la), .int (nI lj)])) := by rw [eg_6, hs_n _ _ (h_ne f5_2 f5_0 (fun h => by simp at h))]; exact f5_2
    have f6_2 : g_6 p3 = some (.inr (3, [.ref rR, .int (nI ra), .int (nI rj)])) := by rw [eg_6, hs_n _ _ (h_ne f5_3 f5_0 (fun h => by simp at h))]; exact f5_3
    have f6_3 : g_6 cc = some (.inl (cI, 183, .inl (upd (upd (upd f ((n * 3) + 0) (nI ol)) ((n * 3) + 1) (nI (lj - la))) ((n * 3) + 2) (nI (rj - ra))))) := by rw [eg_6, hs_n _ _ (h_ne f5_4 f5_0 (fun h => by cases h))]; exact f5_4
    have f6_4 : g_6 mo = some (.inr (2, [.ref oc, .ref cc, .int (nI (n + 1)), .ref c1, .ref c2, .ref p1, .ref p2, .ref p3])) := by rw [eg_6]; exact hs_s _ _ _
    have fr := fr.put eg_6 (by simp)
    exact hend _ _ _ _ _ _ _ (by decide) (by decide) (by rw [List.length_append, ← hn]; exact ⟨fr, _, f6_4, f6_3, rp3_snoc hr hn ol (lj - la) (rj - ra)⟩) hg hS dMg_addConflict_71
set_option maxRecDepth 100000 in
set_option maxHeartbeats 4000000 in
theorem c_Mg_stepPartsOverAnchor (l : Launch) (D : va_G) (cI cR cJ : ClassId) (g : Nat → Option va_E) (sz : Nat) (mo oc cc c1 c2 p1 p2 p3 rB rL rR n1 n2 n3 : Nat) (cn x1 x2 x3 : Int32) (h0 : g mo = some (.inr (2, [.ref oc, .ref cc, .int cn, .ref c1, .ref c2, .ref p1, .ref p2, .ref p3]))) (hp1 : g p1 = some (.inr (3, [.ref rB, .int x1, .int (nI n1)]))) (hp2 : g p2 = some (.inr (3, [.ref rL, .int x2, .int (nI n2)]))) (hp3 : g p3 = some (.inr (3, [.ref rR, .int x3, .int (nI n3)]))) (h12 : p1 ≠ p2) (h13 : p1 ≠ p3) (h23 : p2 ≠ p3) : hMv l yMg_stepPartsOverAnchor cMg_stepPartsOverAnchor 1 (hRm 1 20 0 0) D (hT cI cR cJ) g sz [.ref mo] (fun g1 => hfr g g1 [p1, p2, p3] ∧ g1 p1 = some (.inr (3, [.ref rB, .int (nI (n1 + 1)), .int (nI n1)])) ∧ g1 p2 = some (.inr (3, [.ref rL, .int (nI (n2 + 1)), .int (nI n2)])) ∧ g1 p3 = some (.inr (3, [.ref rR, .int (nI (n3 + 1)), .int (nI n3)]))) := by
  refine hMv_of (by decide +kernel) (Nat.le_of_ble_eq_true rfl) ?_
  intro pX eX RX sX mX argsX belowX methX cX QX AX hR S0 hnm hsz hg hK hS hA0 hend ls hl
  have hl : lv_has ls 1 [(0, .ref mo)] := hl
  have fr : hfr g g [p1, p2, p3] := hfr.rf
  refine lv_aload_n S0.1 S0.2.1 dMg_stepPartsOverAnchor_0 rfl (lv_at hl 0 rfl) ?_
  refine hw_get S0 hK hg h0 rfl inMg 5 (by decide) lf_Mg_38 rfl rfl dMg_stepPartsOverAnchor_1 ?_
  refine hw_Vv (As := []) (rest := []) S0 hK hg hS hA0 hp1 rfl (c_Pa_stepOverAnchor l D cI cR cJ g _ p1 _ _ _ hp1) kPa_stepOverAnchor lm_Mg_84 (hR.call rfl) rfl hl.1 rfl (Nat.le_of_ble_eq_true rfl) dMg_stepPartsOverAnchor_4 (hR.new (by decide) (by decide)) (fun g_1 H locs hp_4 hg hS => ?_)
  obtain ⟨fr1, s1⟩ := hp_4
  have k1_0 := fr1.at (h_nm (h_ne h0 hp1 (fun h => by simp at h)) h_n0) h0
  have k1_1 := fr1.at (h_nm (Ne.symm h12) h_n0) hp2
  have k1_2 := fr1.at (h_nm (Ne.symm h13) h_n0) hp3
  have fr := fr.call fr1 (by simp)
  refine lv_aload_n S0.1 S0.2.1 dMg_stepPartsOverAnchor_7 rfl (lv_at hl 0 rfl) ?_
  refine hw_get S0 hK hg k1_0 rfl inMg 6 (by decide) lf_Mg_42 rfl rfl dMg_stepPartsOverAnchor_8 ?_
  refine hw_Vv (As := []) (rest := []) S0 hK hg hS hA0 k1_1 rfl (c_Pa_stepOverAnchor l D cI cR cJ g_1 _ p2 _ _ _ k1_1) kPa_stepOverAnchor lm_Mg_84 (hR.call rfl) rfl hl.1 rfl (Nat.le_of_ble_eq_true rfl) dMg_stepPartsOverAnchor_11 (hR.new (by decide) (by decide)) (fun g_2 H locs hp_11 hg hS => ?_)
  obtain ⟨fr2, s2⟩ := hp_11
  have k2_0 := fr2.at (h_nm (h_ne k1_0 k1_1 (fun h => by simp at h)) h_n0) k1_0
  have k2_1 := fr2.at (h_nm (Ne.symm h23) h_n0) k1_2
  have k2_2 := fr2.at (h_nm h12 h_n0) s1
  have fr := fr.call fr2 (by simp)
  refine lv_aload_n S0.1 S0.2.1 dMg_stepPartsOverAnchor_14 rfl (lv_at hl 0 rfl) ?_
  refine hw_get S0 hK hg k2_0 rfl inMg 7 (by decide) lf_Mg_45 rfl rfl dMg_stepPartsOverAnchor_15 ?_
  refine hw_Vv (As := []) (rest := []) S0 hK hg hS hA0 k2_1 rfl (c_Pa_stepOverAnchor l D cI cR cJ g_2 _ p3 _ _ _ k2_1) kPa_stepOverAnchor lm_Mg_84 (hR.call rfl) rfl hl.1 rfl (Nat.le_of_ble_eq_true rfl) dMg_stepPartsOverAnchor_18 (hR.new (by decide) (by decide)) (fun g_3 H locs hp_18 hg hS => ?_)
  obtain ⟨fr3, s3⟩ := hp_18
  have k3_0 := fr3.at (h_nm (h_ne k2_0 k2_1 (fun h => by simp at h)) h_n0) k2_0
  have k3_1 := fr3.at (h_nm h13 h_n0) k2_2
  have k3_2 := fr3.at (h_nm h23 h_n0) s2
  have fr := fr.call fr3 (by simp)
  exact hend _ _ _ _ _ _ _ (by decide) (by decide) (⟨fr, k3_1, k3_2, s3⟩) hg hS dMg_stepPartsOverAnchor_21
set_option maxRecDepth 100000 in
set_option maxHeartbeats 4000000 in
theorem c_Mg_mergeParts (l : Launch) (D : va_G) (cI cR cJ : ClassId) (g : Nat → Option va_E) (sz : Nat) (mo oc cc c1 c2 p1 p2 p3 lo : Nat) (rB lB cB rL lL cL rR lR cR_ : Nat) (bs lf rt : List Int32) (fB fL fR : Nat → Int32) (fc fo : Nat → Int32) (hrB : g rB = some (.inr (5, [.ref lB, .int (nI bs.length)]))) (hlB : g lB = some (.inl (cI, cB, .inl fB))) (eB : rp fB bs) (hcB : bs.length ≤ cB) (hdB : cB < 4000) (hrL : g rL = some (.inr (5, [.ref lL, .int (nI lf.length)]))) (hlL : g lL = some (.inl (cI, cL, .inl fL))) (eL : rp fL lf) (hcL : lf.length ≤ cL) (hdL : cL < 4000) (hrR : g rR = some (.inr (5, [.ref lR, .int (nI rt.length)]))) (hlR : g lR = some (.inl (cI, cR_, .inl fR))) (eR : rp fR rt) (hcR : rt.length ≤ cR_) (hdR : cR_ < 4000) (n_rB_oc : rB ≠ oc) (n_rL_oc : rL ≠ oc) (n_rR_oc : rR ≠ oc) (n_lB_cc : lB ≠ cc) (n_lB_lo : lB ≠ lo) (n_lL_cc : lL ≠ cc) (n_lL_lo : lL ≠ lo) (n_lR_cc : lR ≠ cc) (n_lR_lo : lR ≠ lo) (n_lo_cc : lo ≠ cc) (n_p1_p2 : p1 ≠ p2) (n_p1_p3 : p1 ≠ p3) (n_p2_p3 : p2 ≠ p3) (a i la lj ra rj : Nat) (e1 e2 e3 : Int32) (s : List Int32 × List N3) (h0 : g mo = some (.inr (2, [.ref oc, .ref cc, .int (nI s.2.length), .ref c1, .ref c2, .ref p1, .ref p2, .ref p3]))) (h1 : g cc = some (.inl (cI, 183, .inl fc))) (h2 : g oc = some (.inr (5, [.ref lo, .int (nI s.1.length)]))) (h3 : g lo = some (.inl (cI, 120, .inl fo))) (hp1 : g p1 = some (.inr (3, [.ref rB, .int (nI a), .int e1]))) (hp2 : g p2 = some (.inr (3, [.ref rL, .int (nI la), .int e2]))) (hp3 : g p3 = some (.inr (3, [.ref rR, .int (nI ra), .int e3]))) (eo : rp fo s.1) (ec : rpN fc (fl3 s.2)) (hai : a ≤ i) (hi : i ≤ bs.length) (hal : la ≤ lj) (hlj : lj ≤ lf.length) (har : ra ≤ rj) (hrj : rj ≤ rt.length) (hol : s.1.length + (lj - la) + (rj - ra) ≤ 120) (hcf : s.2.length < 61) : hMv l yMg_mergeParts cMg_mergeParts 4 (hRm 3 66 0 0) D (hT cI cR cJ) g sz [.ref mo, .int (nI i), .int (nI lj), .int (nI rj)] (fun g1 => hfr g g1 [mo, cc, oc, lo, p1, p2, p3] ∧ ∃ fc1 fo1 : Nat → Int32, g1 mo = some (.inr (2, [.ref oc, .ref cc, .int (nI (joinP bs lf rt a i la lj ra rj s).2.length), .ref c1, .ref c2, .ref p1, .ref p2, .ref p3])) ∧ g1 cc = some (.inl (cI, 183, .inl fc1)) ∧ g1 oc = some (.inr (5, [.ref lo, .int (nI (joinP bs lf rt a i la lj ra rj s).1.length)])) ∧ g1 lo = some (.inl (cI, 120, .inl fo1)) ∧ g1 p1 = some (.inr (3, [.ref rB, .int (nI a), .int (nI i)])) ∧ g1 p2 = some (.inr (3, [.ref rL, .int (nI la), .int (nI lj)])) ∧ g1 p3 = some (.inr (3, [.ref rR, .int (nI ra), .int (nI rj)])) ∧ rp fo1 (joinP bs lf rt a i la lj ra rj s).1 ∧ rpN fc1 (fl3 (joinP bs lf rt a i la lj ra rj s).2)) := by
  refine hMv_of (by decide +kernel) (Nat.le_of_ble_eq_true rfl) ?_
  intro pX eX RX sX mX argsX belowX methX cX QX AX hR S0 hnm hsz hg hK hS hA0 hend ls hl
  have hl : lv_has ls 4 [(0, .ref mo), (1, .int (nI i)), (2, .int (nI lj)), (3, .int (nI rj))] := hl
  have fr : hfr g g [mo, cc, oc, lo, p1, p2, p3] := hfr.rf
  refine lv_aload_n S0.1 S0.2.1 dMg_mergeParts_0 rfl (lv_at hl 0 rfl) ?_
  refine hw_get S0 hK hg h0 rfl inMg 5 (by decide) lf_Mg_38 rfl rfl dMg_mergeParts_1 ?_
  refine lv_iload_n S0.1 S0.2.1 dMg_mergeParts_4 rfl (lv_at hl 1 rfl) ?_
  refine hw_put S0 hK hg hS hp1 rfl inPa tyPa tokPa nmPa 2 (by decide) lf_Mg_87 rfl rfl rfl rfl (Nat.le_of_ble_eq_true rfl) dMg_mergeParts_5 (fun H locs hg hS => ?_)
  obtain ⟨g_1, eg_1⟩ : ∃ z, z = hs g p1 (.inr (3, [.ref rB, .int (nI a), .int (nI i)])) := ⟨_, rfl⟩
  have hg : hw D hC AX g_1 H := by rw [eg_1]; exact hg
  have f1_0 : g_1 mo = some (.inr (2, [.ref oc, .ref cc, .int (nI s.2.length), .ref c1, .ref c2, .ref p1, .ref p2, .ref p3])) := by rw [eg_1, hs_n _ _ (h_ne h0 hp1 (fun h => by simp at h))]; exact h0
  have f1_1 : g_1 cc = some (.inl (cI, 183, .inl fc)) := by rw [eg_1, hs_n _ _ (h_ne h1 hp1 (fun h => by cases h))]; exact h1
  have f1_2 : g_1 oc = some (.inr (5, [.ref lo, .int (nI s.1.length)])) := by rw [eg_1, hs_n _ _ (h_ne h2 hp1 (fun h => by simp at h))]; exact h2
  have f1_3 : g_1 lo = some (.inl (cI, 120, .inl fo)) := by rw [eg_1, hs_n _ _ (h_ne h3 hp1 (fun h => by cases h))]; exact h3
  have f1_4 : g_1 p2 = some (.inr (3, [.ref rL, .int (nI la), .int e2])) := by rw [eg_1, hs_n _ _ (Ne.symm n_p1_p2)]; exact hp2
  have f1_5 : g_1 p3 = some (.inr (3, [.ref rR, .int (nI ra), .int e3])) := by rw [eg_1, hs_n _ _ (Ne.symm n_p1_p3)]; exact hp3
  have f1_6 : g_1 rB = some (.inr (5, [.ref lB, .int (nI bs.length)])) := by rw [eg_1, hs_n _ _ (h_ne hrB hp1 (fun h => by simp at h))]; exact hrB
  have f1_7 : g_1 lB = some (.inl (cI, cB, .inl fB)) := by rw [eg_1, hs_n _ _ (h_ne hlB hp1 (fun h => by cases h))]; exact hlB
  have f1_8 : g_1 rL = some (.inr (5, [.ref lL, .int (nI lf.length)])) := by rw [eg_1, hs_n _ _ (h_ne hrL hp1 (fun h => by simp at h))]; exact hrL
  have f1_9 : g_1 lL = some (.inl (cI, cL, .inl fL)) := by rw [eg_1, hs_n _ _ (h_ne hlL hp1 (fun h => by cases h))]; exact hlL
  have f1_10 : g_1 rR = some (.inr (5, [.ref lR, .int (nI rt.length)])) := by rw [eg_1, hs_n _ _ (h_ne hrR hp1 (fun h => by simp at h))]; exact hrR
  have f1_11 : g_1 lR = some (.inl (cI, cR_, .inl fR)) := by rw [eg_1, hs_n _ _ (h_ne hlR hp1 (fun h => by cases h))]; exact hlR
  have f1_12 : g_1 p1 = some (.inr (3, [.ref rB, .int (nI a), .int (nI i)])) := by rw [eg_1]; exact hs_s _ _ _
  have fr := fr.put eg_1 (by simp)
  refine lv_aload_n S0.1 S0.2.1 dMg_mergeParts_8 rfl (lv_at hl 0 rfl) ?_
  refine hw_get S0 hK hg f1_0 rfl inMg 6 (by decide) lf_Mg_42 rfl rfl dMg_mergeParts_9 ?_
  refine lv_iload_n S0.1 S0.2.1 dMg_mergeParts_12 rfl (lv_at hl 2 rfl) ?_
  refine hw_put S0 hK hg hS f1_4 rfl inPa tyPa tokPa nmPa 2 (by decide) lf_Mg_87 rfl rfl rfl rfl (Nat.le_of_ble_eq_true rfl) dMg_mergeParts_13 (fun H locs hg hS => ?_)
  obtain ⟨g_2, eg_2⟩ : ∃ z, z = hs g_1 p2 (.inr (3, [.ref rL, .int (nI la), .int (nI lj)])) := ⟨_, rfl⟩
  have hg : hw D hC AX g_2 H := by rw [eg_2]; exact hg
  have f2_0 : g_2 mo = some (.inr (2, [.ref oc, .ref cc, .int (nI s.2.length), .ref c1, .ref c2, .ref p1, .ref p2, .ref p3])) := by rw [eg_2, hs_n _ _ (h_ne f1_0 f1_4 (fun h => by simp at h))]; exact f1_0
  have f2_1 : g_2 cc = some (.inl (cI, 183, .inl fc)) := by rw [eg_2, hs_n _ _ (h_ne f1_1 f1_4 (fun h => by cases h))]; exact f1_1
  have f2_2 : g_2 oc = some (.inr (5, [.ref lo, .int (nI s.1.length)])) := by rw [eg_2, hs_n _ _ (h_ne f1_2 f1_4 (fun h => by simp at h))]; exact f1_2
  have f2_3 : g_2 lo = some (.inl (cI, 120, .inl fo)) := by rw [eg_2, hs_n _ _ (h_ne f1_3 f1_4 (fun h => by cases h))]; exact f1_3
  have f2_4 : g_2 p3 = some (.inr (3, [.ref rR, .int (nI ra), .int e3])) := by rw [eg_2, hs_n _ _ (Ne.symm n_p2_p3)]; exact f1_5
  have f2_5 : g_2 rB = some (.inr (5, [.ref lB, .int (nI bs.length)])) := by rw [eg_2, hs_n _ _ (h_ne f1_6 f1_4 (fun h => by simp at h))]; exact f1_6
  have f2_6 : g_2 lB = some (.inl (cI, cB, .inl fB)) := by rw [eg_2, hs_n _ _ (h_ne f1_7 f1_4 (fun h => by cases h))]; exact f1_7
  have f2_7 : g_2 rL = some (.inr (5, [.ref lL, .int (nI lf.length)])) := by rw [eg_2, hs_n _ _ (h_ne f1_8 f1_4 (fun h => by simp at h))]; exact f1_8
  have f2_8 : g_2 lL = some (.inl (cI, cL, .inl fL)) := by rw [eg_2, hs_n _ _ (h_ne f1_9 f1_4 (fun h => by cases h))]; exact f1_9
  have f2_9 : g_2 rR = some (.inr (5, [.ref lR, .int (nI rt.length)])) := by rw [eg_2, hs_n _ _ (h_ne f1_10 f1_4 (fun h => by simp at h))]; exact f1_10
  have f2_10 : g_2 lR = some (.inl (cI, cR_, .inl fR)) := by rw [eg_2, hs_n _ _ (h_ne f1_11 f1_4 (fun h => by cases h))]; exact f1_11
  have f2_11 : g_2 p1 = some (.inr (3, [.ref rB, .int (nI a), .int (nI i)])) := by rw [eg_2, hs_n _ _ n_p1_p2]; exact f1_12
  have f2_12 : g_2 p2 = some (.inr (3, [.ref rL, .int (nI la), .int (nI lj)])) := by rw [eg_2]; exact hs_s _ _ _
  have fr := fr.put eg_2 (by simp)
  refine lv_aload_n S0.1 S0.2.1 dMg_mergeParts_16 rfl (lv_at hl 0 rfl) ?_
  refine hw_get S0 hK hg f2_0 rfl inMg 7 (by decide) lf_Mg_45 rfl rfl dMg_mergeParts_17 ?_
  refine lv_iload_n S0.1 S0.2.1 dMg_mergeParts_20 rfl (lv_at hl 3 rfl) ?_
  refine hw_put S0 hK hg hS f2_4 rfl inPa tyPa tokPa nmPa 2 (by decide) lf_Mg_87 rfl rfl rfl rfl (Nat.le_of_ble_eq_true rfl) dMg_mergeParts_21 (fun H locs hg hS => ?_)
  obtain ⟨g_3, eg_3⟩ : ∃ z, z = hs g_2 p3 (.inr (3, [.ref rR, .int (nI ra), .int (nI rj)])) := ⟨_, rfl⟩
  have hg : hw D hC AX g_3 H := by rw [eg_3]; exact hg
  have f3_0 : g_3 mo = some (.inr (2, [.ref oc, .ref cc, .int (nI s.2.length), .ref c1, .ref c2, .ref p1, .ref p2, .ref p3])) := by rw [eg_3, hs_n _ _ (h_ne f2_0 f2_4 (fun h => by simp at h))]; exact f2_0
  have f3_1 : g_3 cc = some (.inl (cI, 183, .inl fc)) := by rw [eg_3, hs_n _ _ (h_ne f2_1 f2_4 (fun h => by cases h))]; exact f2_1
  have f3_2 : g_3 oc = some (.inr (5, [.ref lo, .int (nI s.1.length)])) := by rw [eg_3, hs_n _ _ (h_ne f2_2 f2_4 (fun h => by simp at h))]; exact f2_2
  have f3_3 : g_3 lo = some (.inl (cI, 120, .inl fo)) := by rw [eg_3, hs_n _ _ (h_ne f2_3 f2_4 (fun h => by cases h))]; exact f2_3
  have f3_4 : g_3 rB = some (.inr (5, [.ref lB, .int (nI bs.length)])) := by rw [eg_3, hs_n _ _ (h_ne f2_5 f2_4 (fun h => by simp at h))]; exact f2_5
  have f3_5 : g_3 lB = some (.inl (cI, cB, .inl fB)) := by rw [eg_3, hs_n _ _ (h_ne f2_6 f2_4 (fun h => by cases h))]; exact f2_6
  have f3_6 : g_3 rL = some (.inr (5, [.ref lL, .int (nI lf.length)])) := by rw [eg_3, hs_n _ _ (h_ne f2_7 f2_4 (fun h => by simp at h))]; exact f2_7
  have f3_7 : g_3 lL = some (.inl (cI, cL, .inl fL)) := by rw [eg_3, hs_n _ _ (h_ne f2_8 f2_4 (fun h => by cases h))]; exact f2_8
  have f3_8 : g_3 rR = some (.inr (5, [.ref lR, .int (nI rt.length)])) := by rw [eg_3, hs_n _ _ (h_ne f2_9 f2_4 (fun h => by simp at h))]; exact f2_9
  have f3_9 : g_3 lR = some (.inl (cI, cR_, .inl fR)) := by rw [eg_3, hs_n _ _ (h_ne f2_10 f2_4 (fun h => by cases h))]; exact f2_10
  have f3_10 : g_3 p1 = some (.inr (3, [.ref rB, .int (nI a), .int (nI i)])) := by rw [eg_3, hs_n _ _ n_p1_p3]; exact f2_11
  have f3_11 : g_3 p2 = some (.inr (3, [.ref rL, .int (nI la), .int (nI lj)])) := by rw [eg_3, hs_n _ _ n_p2_p3]; exact f2_12
  have f3_12 : g_3 p3 = some (.inr (3, [.ref rR, .int (nI ra), .int (nI rj)])) := by rw [eg_3]; exact hs_s _ _ _
  have fr := fr.put eg_3 (by simp)
  refine lv_aload_n S0.1 S0.2.1 dMg_mergeParts_24 rfl (lv_at hl 0 rfl) ?_
  refine hw_get S0 hK hg f3_0 rfl inMg 6 (by decide) lf_Mg_42 rfl rfl dMg_mergeParts_25 ?_
  refine lv_aload_n S0.1 S0.2.1 dMg_mergeParts_28 rfl (lv_at hl 0 rfl) ?_
  refine hw_get S0 hK hg f3_0 rfl inMg 7 (by decide) lf_Mg_45 rfl rfl dMg_mergeParts_29 ?_
  refine hw_Vi (As := [.ref p3]) (rest := []) S0 hK hg hS hA0 f3_11 rfl (c_Pa_isLike l D cI cR cJ g_3 _ p2 rL lL cL la lj p3 rR lR cR_ ra rj lf rt fL fR f3_11 f3_6 f3_7 f3_12 f3_8 f3_9 eL eR hal hlj hcL hdL har hrj hcR hdR) kPa_isLike lm_Mg_90 (hR.call rfl) rfl hl.1 rfl (Nat.le_of_ble_eq_true rfl) dMg_mergeParts_32 (hR.new (by decide) (by decide)) (fun r_32 g_4 H locs hp_32 hg hS => ?_)
  rw [hp_32.1] at hg
  replace hp_32 := hp_32.2
  rcases hp_32 with ⟨ho, k23⟩ | ⟨ho, k23⟩
  · skip
    subst ho
    refine lv_if_ne (tgt := 52) S0.1 S0.2.1 dMg_mergeParts_35 (by decide) (fun c_35 => ?_) (fun c_35 => ?_)
    · skip
      rw [← nI_0] at c_35
      have c_35 : ¬ (1 = 0) := fun h => c_35 ((nI_eq (by omega) (by omega)).mpr h)
      refine lv_aload_n S0.1 S0.2.1 dMg_mergeParts_52 rfl (lv_at hl 0 rfl) ?_
      refine lv_aload_n S0.1 S0.2.1 dMg_mergeParts_53 rfl (lv_at hl 0 rfl) ?_
      refine hw_get S0 hK hg f3_0 rfl inMg 6 (by decide) lf_Mg_42 rfl rfl dMg_mergeParts_54 ?_
      refine hw_Vv (As := [.ref p2]) (rest := []) S0 hK hg hS hA0 f3_0 rfl (c_Mg_take l D cI cR cJ g_3 _ mo oc cc c1 c2 p1 p2 p3 lo p2 rL lL cL la lj _ s.1 lf fo fL f3_0 f3_2 f3_3 f3_11 f3_6 f3_7 eo eL n_rL_oc n_lL_lo hal hlj hcL hdL (by first | omega | (rw [List.length_append, pt_len hlj]; omega))) kMg_take lm_Mg_94 (hR.call rfl) rfl hl.1 rfl (Nat.le_of_ble_eq_true rfl) dMg_mergeParts_57 (hR.new (by decide) (by decide)) (fun g_5 H locs hp_57 hg hS => ?_)
      obtain ⟨frt57, ft57, t057, t157, t257⟩ := hp_57
      have k5_0 := frt57.at (h_nm (h_ne f3_0 f3_2 (fun h => by simp at h)) (h_nm (h_ne f3_0 f3_3 (fun h => by cases h)) h_n0)) f3_0
      have k5_1 := frt57.at (h_nm (h_ne f3_1 f3_2 (fun h => by cases h)) (h_nm (Ne.symm n_lo_cc) h_n0)) f3_1
      have k5_2 := frt57.at (h_nm n_rB_oc (h_nm (h_ne f3_4 f3_3 (fun h => by cases h)) h_n0)) f3_4
      have k5_3 := frt57.at (h_nm (h_ne f3_5 f3_2 (fun h => by cases h)) (h_nm n_lB_lo h_n0)) f3_5
      have k5_4 := frt57.at (h_nm n_rL_oc (h_nm (h_ne f3_6 f3_3 (fun h => by cases h)) h_n0)) f3_6
      have k5_5 := frt57.at (h_nm (h_ne f3_7 f3_2 (fun h => by cases h)) (h_nm n_lL_lo h_n0)) f3_7
      have k5_6 := frt57.at (h_nm n_rR_oc (h_nm (h_ne f3_8 f3_3 (fun h => by cases h)) h_n0)) f3_8
      have k5_7 := frt57.at (h_nm (h_ne f3_9 f3_2 (fun h => by cases h)) (h_nm n_lR_lo h_n0)) f3_9
      have k5_8 := frt57.at (h_nm (h_ne f3_10 f3_2 (fun h => by simp at h)) (h_nm (h_ne f3_10 f3_3 (fun h => by cases h)) h_n0)) f3_10
      have k5_9 := frt57.at (h_nm (h_ne f3_11 f3_2 (fun h => by simp at h)) (h_nm (h_ne f3_11 f3_3 (fun h => by cases h)) h_n0)) f3_11
      have k5_10 := frt57.at (h_nm (h_ne f3_12 f3_2 (fun h => by simp at h)) (h_nm (h_ne f3_12 f3_3 (fun h => by cases h)) h_n0)) f3_12
      have fr := fr.call frt57 (by simp)
      refine lv_goto (tgt := 108) S0.1 S0.2.1 dMg_mergeParts_60 (by decide) ?_
      have ej : joinP bs lf rt a i la lj ra rj s = (s.1 ++ pt lf la lj, s.2) := if_pos (Or.inl k23)
      exact hend _ _ _ _ _ _ _ (by decide) (by decide) (by rw [ej]; exact ⟨fr, _, _, k5_0, k5_1, t057, t157, k5_8, k5_9, k5_10, t257, ec⟩) hg hS dMg_mergeParts_108
    · skip
      rw [← nI_0] at c_35
      have c_35 : 1 = 0 := (nI_eq (by omega) (by omega)).mp c_35
      exact absurd c_35 (by decide)
  · skip
    subst ho
    refine lv_if_ne (tgt := 52) S0.1 S0.2.1 dMg_mergeParts_35 (by decide) (fun c_35 => ?_) (fun c_35 => ?_)
    · skip
      rw [← nI_0] at c_35
      have c_35 : ¬ (0 = 0) := fun h => c_35 ((nI_eq (by omega) (by omega)).mpr h)
      exact absurd c_35 (by decide)
    · skip
      rw [← nI_0] at c_35
      have c_35 : 0 = 0 := (nI_eq (by omega) (by omega)).mp c_35
      refine lv_aload_n S0.1 S0.2.1 dMg_mergeParts_38 rfl (lv_at hl 0 rfl) ?_
      refine hw_get S0 hK hg f3_0 rfl inMg 7 (by decide) lf_Mg_45 rfl rfl dMg_mergeParts_39 ?_
      refine lv_aload_n S0.1 S0.2.1 dMg_mergeParts_42 rfl (lv_at hl 0 rfl) ?_
      refine hw_get S0 hK hg f3_0 rfl inMg 5 (by decide) lf_Mg_38 rfl rfl dMg_mergeParts_43 ?_
      refine hw_Vi (As := [.ref p1]) (rest := []) S0 hK hg hS hA0 f3_12 rfl (c_Pa_isLike l D cI cR cJ g_3 _ p3 rR lR cR_ ra rj p1 rB lB cB a i rt bs fR fB f3_12 f3_8 f3_9 f3_10 f3_4 f3_5 eR eB har hrj hcR hdR hai hi hcB hdB) kPa_isLike lm_Mg_90 (hR.call rfl) rfl hl.1 rfl (Nat.le_of_ble_eq_true rfl) dMg_mergeParts_46 (hR.new (by decide) (by decide)) (fun r_46 g_6 H locs hp_46 hg hS => ?_)
      rw [hp_46.1] at hg
      replace hp_46 := hp_46.2
      rcases hp_46 with ⟨ho, k31⟩ | ⟨ho, k31⟩
      · skip
        subst ho
        refine lv_if_eq (tgt := 63) S0.1 S0.2.1 dMg_mergeParts_49 (by decide) (fun c_49 => ?_) (fun c_49 => ?_)
        · skip
          rw [← nI_0] at c_49
          have c_49 : 1 = 0 := (nI_eq (by omega) (by omega)).mp c_49
          exact absurd c_49 (by decide)
        · skip
          rw [← nI_0] at c_49
          have c_49 : ¬ (1 = 0) := fun h => c_49 ((nI_eq (by omega) (by omega)).mpr h)
          refine lv_aload_n S0.1 S0.2.1 dMg_mergeParts_52 rfl (lv_at hl 0 rfl) ?_
          refine lv_aload_n S0.1 S0.2.1 dMg_mergeParts_53 rfl (lv_at hl 0 rfl) ?_
          refine hw_get S0 hK hg f3_0 rfl inMg 6 (by decide) lf_Mg_42 rfl rfl dMg_mergeParts_54 ?_
          refine hw_Vv (As := [.ref p2]) (rest := []) S0 hK hg hS hA0 f3_0 rfl (c_Mg_take l D cI cR cJ g_3 _ mo oc cc c1 c2 p1 p2 p3 lo p2 rL lL cL la lj _ s.1 lf fo fL f3_0 f3_2 f3_3 f3_11 f3_6 f3_7 eo eL n_rL_oc n_lL_lo hal hlj hcL hdL (by first | omega | (rw [List.length_append, pt_len hlj]; omega))) kMg_take lm_Mg_94 (hR.call rfl) rfl hl.1 rfl (Nat.le_of_ble_eq_true rfl) dMg_mergeParts_57 (hR.new (by decide) (by decide)) (fun g_7 H locs hp_57 hg hS => ?_)
          obtain ⟨frt57, ft57, t057, t157, t257⟩ := hp_57
          have k7_0 := frt57.at (h_nm (h_ne f3_0 f3_2 (fun h => by simp at h)) (h_nm (h_ne f3_0 f3_3 (fun h => by cases h)) h_n0)) f3_0
          have k7_1 := frt57.at (h_nm (h_ne f3_1 f3_2 (fun h => by cases h)) (h_nm (Ne.symm n_lo_cc) h_n0)) f3_1
          have k7_2 := frt57.at (h_nm n_rB_oc (h_nm (h_ne f3_4 f3_3 (fun h => by cases h)) h_n0)) f3_4
          have k7_3 := frt57.at (h_nm (h_ne f3_5 f3_2 (fun h => by cases h)) (h_nm n_lB_lo h_n0)) f3_5
          have k7_4 := frt57.at (h_nm n_rL_oc (h_nm (h_ne f3_6 f3_3 (fun h => by cases h)) h_n0)) f3_6
          have k7_5 := frt57.at (h_nm (h_ne f3_7 f3_2 (fun h => by cases h)) (h_nm n_lL_lo h_n0)) f3_7
          have k7_6 := frt57.at (h_nm n_rR_oc (h_nm (h_ne f3_8 f3_3 (fun h => by cases h)) h_n0)) f3_8
          have k7_7 := frt57.at (h_nm (h_ne f3_9 f3_2 (fun h => by cases h)) (h_nm n_lR_lo h_n0)) f3_9
          have k7_8 := frt57.at (h_nm (h_ne f3_10 f3_2 (fun h => by simp at h)) (h_nm (h_ne f3_10 f3_3 (fun h => by cases h)) h_n0)) f3_10
          have k7_9 := frt57.at (h_nm (h_ne f3_11 f3_2 (fun h => by simp at h)) (h_nm (h_ne f3_11 f3_3 (fun h => by cases h)) h_n0)) f3_11
          have k7_10 := frt57.at (h_nm (h_ne f3_12 f3_2 (fun h => by simp at h)) (h_nm (h_ne f3_12 f3_3 (fun h => by cases h)) h_n0)) f3_12
          have fr := fr.call frt57 (by simp)
          refine lv_goto (tgt := 108) S0.1 S0.2.1 dMg_mergeParts_60 (by decide) ?_
          have ej : joinP bs lf rt a i la lj ra rj s = (s.1 ++ pt lf la lj, s.2) := if_pos (Or.inr k31)
          exact hend _ _ _ _ _ _ _ (by decide) (by decide) (by rw [ej]; exact ⟨fr, _, _, k7_0, k7_1, t057, t157, k7_8, k7_9, k7_10, t257, ec⟩) hg hS dMg_mergeParts_108
      · skip
        subst ho
        refine lv_if_eq (tgt := 63) S0.1 S0.2.1 dMg_mergeParts_49 (by decide) (fun c_49 => ?_) (fun c_49 => ?_)
        · skip
          rw [← nI_0] at c_49
          have c_49 : 0 = 0 := (nI_eq (by omega) (by omega)).mp c_49
          refine lv_aload_n S0.1 S0.2.1 dMg_mergeParts_63 rfl (lv_at hl 0 rfl) ?_
          refine hw_get S0 hK hg f3_0 rfl inMg 6 (by decide) lf_Mg_42 rfl rfl dMg_mergeParts_64 ?_
          refine lv_aload_n S0.1 S0.2.1 dMg_mergeParts_67 rfl (lv_at hl 0 rfl) ?_
          refine hw_get S0 hK hg f3_0 rfl inMg 5 (by decide) lf_Mg_38 rfl rfl dMg_mergeParts_68 ?_
          refine hw_Vi (As := [.ref p1]) (rest := []) S0 hK hg hS hA0 f3_11 rfl (c_Pa_isLike l D cI cR cJ g_3 _ p2 rL lL cL la lj p1 rB lB cB a i lf bs fL fB f3_11 f3_6 f3_7 f3_10 f3_4 f3_5 eL eB hal hlj hcL hdL hai hi hcB hdB) kPa_isLike lm_Mg_90 (hR.call rfl) rfl hl.1 rfl (Nat.le_of_ble_eq_true rfl) dMg_mergeParts_71 (hR.new (by decide) (by decide)) (fun r_71 g_8 H locs hp_71 hg hS => ?_)
          rw [hp_71.1] at hg
          replace hp_71 := hp_71.2
          rcases hp_71 with ⟨ho, k21⟩ | ⟨ho, k21⟩
          · skip
            subst ho
            refine lv_if_eq (tgt := 88) S0.1 S0.2.1 dMg_mergeParts_74 (by decide) (fun c_74 => ?_) (fun c_74 => ?_)
            · skip
              rw [← nI_0] at c_74
              have c_74 : 1 = 0 := (nI_eq (by omega) (by omega)).mp c_74
              exact absurd c_74 (by decide)
            · skip
              rw [← nI_0] at c_74
              have c_74 : ¬ (1 = 0) := fun h => c_74 ((nI_eq (by omega) (by omega)).mpr h)
              refine lv_aload_n S0.1 S0.2.1 dMg_mergeParts_77 rfl (lv_at hl 0 rfl) ?_
              refine lv_aload_n S0.1 S0.2.1 dMg_mergeParts_78 rfl (lv_at hl 0 rfl) ?_
              refine hw_get S0 hK hg f3_0 rfl inMg 7 (by decide) lf_Mg_45 rfl rfl dMg_mergeParts_79 ?_
              refine hw_Vv (As := [.ref p3]) (rest := []) S0 hK hg hS hA0 f3_0 rfl (c_Mg_take l D cI cR cJ g_3 _ mo oc cc c1 c2 p1 p2 p3 lo p3 rR lR cR_ ra rj _ s.1 rt fo fR f3_0 f3_2 f3_3 f3_12 f3_8 f3_9 eo eR n_rR_oc n_lR_lo har hrj hcR hdR (by first | omega | (rw [List.length_append, pt_len hlj]; omega))) kMg_take lm_Mg_94 (hR.call rfl) rfl hl.1 rfl (Nat.le_of_ble_eq_true rfl) dMg_mergeParts_82 (hR.new (by decide) (by decide)) (fun g_9 H locs hp_82 hg hS => ?_)
              obtain ⟨frt82, ft82, t082, t182, t282⟩ := hp_82
              have k9_0 := frt82.at (h_nm (h_ne f3_0 f3_2 (fun h => by simp at h)) (h_nm (h_ne f3_0 f3_3 (fun h => by cases h)) h_n0)) f3_0
              have k9_1 := frt82.at (h_nm (h_ne f3_1 f3_2 (fun h => by cases h)) (h_nm (Ne.symm n_lo_cc) h_n0)) f3_1
              have k9_2 := frt82.at (h_nm n_rB_oc (h_nm (h_ne f3_4 f3_3 (fun h => by cases h)) h_n0)) f3_4
              have k9_3 := frt82.at (h_nm (h_ne f3_5 f3_2 (fun h => by cases h)) (h_nm n_lB_lo h_n0)) f3_5
              have k9_4 := frt82.at (h_nm n_rL_oc (h_nm (h_ne f3_6 f3_3 (fun h => by cases h)) h_n0)) f3_6
              have k9_5 := frt82.at (h_nm (h_ne f3_7 f3_2 (fun h => by cases h)) (h_nm n_lL_lo h_n0)) f3_7
              have k9_6 := frt82.at (h_nm n_rR_oc (h_nm (h_ne f3_8 f3_3 (fun h => by cases h)) h_n0)) f3_8
              have k9_7 := frt82.at (h_nm (h_ne f3_9 f3_2 (fun h => by cases h)) (h_nm n_lR_lo h_n0)) f3_9
              have k9_8 := frt82.at (h_nm (h_ne f3_10 f3_2 (fun h => by simp at h)) (h_nm (h_ne f3_10 f3_3 (fun h => by cases h)) h_n0)) f3_10
              have k9_9 := frt82.at (h_nm (h_ne f3_11 f3_2 (fun h => by simp at h)) (h_nm (h_ne f3_11 f3_3 (fun h => by cases h)) h_n0)) f3_11
              have k9_10 := frt82.at (h_nm (h_ne f3_12 f3_2 (fun h => by simp at h)) (h_nm (h_ne f3_12 f3_3 (fun h => by cases h)) h_n0)) f3_12
              have fr := fr.call frt82 (by simp)
              refine lv_goto (tgt := 108) S0.1 S0.2.1 dMg_mergeParts_85 (by decide) ?_
              have ej : joinP bs lf rt a i la lj ra rj s = (s.1 ++ pt rt ra rj, s.2) := (if_neg (fun h => h.elim k23 k31)).trans (if_pos k21)
              exact hend _ _ _ _ _ _ _ (by decide) (by decide) (by rw [ej]; exact ⟨fr, _, _, k9_0, k9_1, t082, t182, k9_8, k9_9, k9_10, t282, ec⟩) hg hS dMg_mergeParts_108
          · skip
            subst ho
            refine lv_if_eq (tgt := 88) S0.1 S0.2.1 dMg_mergeParts_74 (by decide) (fun c_74 => ?_) (fun c_74 => ?_)
            · skip
              rw [← nI_0] at c_74
              have c_74 : 0 = 0 := (nI_eq (by omega) (by omega)).mp c_74
              refine lv_aload_n S0.1 S0.2.1 dMg_mergeParts_88 rfl (lv_at hl 0 rfl) ?_
              refine hw_Vv (As := []) (rest := []) S0 hK hg hS hA0 f3_0 rfl (c_Mg_addConflict l D cI cR cJ g_3 _ mo oc cc c1 c2 p1 p2 p3 lo rL rR s.2.length s.1.length la lj ra rj fc s.2 f3_0 f3_1 f3_2 f3_11 f3_12 rfl hcf ec hal har) kMg_addConflict lm_Mg_98 (hR.call rfl) rfl hl.1 rfl (Nat.le_of_ble_eq_true rfl) dMg_mergeParts_89 (hR.new (by decide) (by decide)) (fun g_10 H locs hp_89 hg hS => ?_)
              obtain ⟨frc, fk, u0, u1, u2⟩ := hp_89
              have k10_0 := frc.at (h_nm (h_ne f3_2 f3_0 (fun h => by simp at h)) (h_nm (h_ne f3_2 f3_1 (fun h => by cases h)) h_n0)) f3_2
              have k10_1 := frc.at (h_nm (h_ne f3_3 f3_0 (fun h => by cases h)) (h_nm n_lo_cc h_n0)) f3_3
              have k10_2 := frc.at (h_nm (h_ne f3_4 f3_0 (fun h => by simp at h)) (h_nm (h_ne f3_4 f3_1 (fun h => by cases h)) h_n0)) f3_4
              have k10_3 := frc.at (h_nm (h_ne f3_5 f3_0 (fun h => by cases h)) (h_nm n_lB_cc h_n0)) f3_5
              have k10_4 := frc.at (h_nm (h_ne f3_6 f3_0 (fun h => by simp at h)) (h_nm (h_ne f3_6 f3_1 (fun h => by cases h)) h_n0)) f3_6
              have k10_5 := frc.at (h_nm (h_ne f3_7 f3_0 (fun h => by cases h)) (h_nm n_lL_cc h_n0)) f3_7
              have k10_6 := frc.at (h_nm (h_ne f3_8 f3_0 (fun h => by simp at h)) (h_nm (h_ne f3_8 f3_1 (fun h => by cases h)) h_n0)) f3_8
              have k10_7 := frc.at (h_nm (h_ne f3_9 f3_0 (fun h => by cases h)) (h_nm n_lR_cc h_n0)) f3_9
              have k10_8 := frc.at (h_nm (h_ne f3_10 f3_0 (fun h => by simp at h)) (h_nm (h_ne f3_10 f3_1 (fun h => by cases h)) h_n0)) f3_10
              have k10_9 := frc.at (h_nm (h_ne f3_11 f3_0 (fun h => by simp at h)) (h_nm (h_ne f3_11 f3_1 (fun h => by cases h)) h_n0)) f3_11
              have k10_10 := frc.at (h_nm (h_ne f3_12 f3_0 (fun h => by simp at h)) (h_nm (h_ne f3_12 f3_1 (fun h => by cases h)) h_n0)) f3_12
              have fr := fr.call frc (by simp)
              refine lv_aload_n S0.1 S0.2.1 dMg_mergeParts_92 rfl (lv_at hl 0 rfl) ?_
              refine lv_aload_n S0.1 S0.2.1 dMg_mergeParts_93 rfl (lv_at hl 0 rfl) ?_
              refine hw_get S0 hK hg u0 rfl inMg 6 (by decide) lf_Mg_42 rfl rfl dMg_mergeParts_94 ?_
              refine hw_Vv (As := [.ref p2]) (rest := []) S0 hK hg hS hA0 u0 rfl (c_Mg_take l D cI cR cJ g_10 _ mo oc cc c1 c2 p1 p2 p3 lo p2 rL lL cL la lj _ s.1 lf fo fL u0 k10_0 k10_1 k10_9 k10_4 k10_5 eo eL n_rL_oc n_lL_lo hal hlj hcL hdL (by first | omega | (rw [List.length_append, pt_len hlj]; omega))) kMg_take lm_Mg_94 (hR.call rfl) rfl hl.1 rfl (Nat.le_of_ble_eq_true rfl) dMg_mergeParts_97 (hR.new (by decide) (by decide)) (fun g_11 H locs hp_97 hg hS => ?_)
              obtain ⟨frt97, ft97, t097, t197, t297⟩ := hp_97
              have k11_0 := frt97.at (h_nm n_rB_oc (h_nm (h_ne k10_2 k10_1 (fun h => by cases h)) h_n0)) k10_2
              have k11_1 := frt97.at (h_nm (h_ne k10_3 k10_0 (fun h => by cases h)) (h_nm n_lB_lo h_n0)) k10_3
              have k11_2 := frt97.at (h_nm n_rL_oc (h_nm (h_ne k10_4 k10_1 (fun h => by cases h)) h_n0)) k10_4
              have k11_3 := frt97.at (h_nm (h_ne k10_5 k10_0 (fun h => by cases h)) (h_nm n_lL_lo h_n0)) k10_5
              have k11_4 := frt97.at (h_nm n_rR_oc (h_nm (h_ne k10_6 k10_1 (fun h => by cases h)) h_n0)) k10_6
              have k11_5 := frt97.at (h_nm (h_ne k10_7 k10_0 (fun h => by cases h)) (h_nm n_lR_lo h_n0)) k10_7
              have k11_6 := frt97.at (h_nm (h_ne k10_8 k10_0 (fun h => by simp at h)) (h_nm (h_ne k10_8 k10_1 (fun h => by cases h)) h_n0)) k10_8
              have k11_7 := frt97.at (h_nm (h_ne k10_9 k10_0 (fun h => by simp at h)) (h_nm (h_ne k10_9 k10_1 (fun h => by cases h)) h_n0)) k10_9
              have k11_8 := frt97.at (h_nm (h_ne k10_10 k10_0 (fun h => by simp at h)) (h_nm (h_ne k10_10 k10_1 (fun h => by cases h)) h_n0)) k10_10
              have k11_9 := frt97.at (h_nm (h_ne u0 k10_0 (fun h => by simp at h)) (h_nm (h_ne u0 k10_1 (fun h => by cases h)) h_n0)) u0
              have k11_10 := frt97.at (h_nm (h_ne u1 k10_0 (fun h => by cases h)) (h_nm (Ne.symm n_lo_cc) h_n0)) u1
              have fr := fr.call frt97 (by simp)
              refine lv_aload_n S0.1 S0.2.1 dMg_mergeParts_100 rfl (lv_at hl 0 rfl) ?_
              refine lv_aload_n S0.1 S0.2.1 dMg_mergeParts_101 rfl (lv_at hl 0 rfl) ?_
              refine hw_get S0 hK hg k11_9 rfl inMg 7 (by decide) lf_Mg_45 rfl rfl dMg_mergeParts_102 ?_
              refine hw_Vv (As := [.ref p3]) (rest := []) S0 hK hg hS hA0 k11_9 rfl (c_Mg_take l D cI cR cJ g_11 _ mo oc cc c1 c2 p1 p2 p3 lo p3 rR lR cR_ ra rj _ (s.1 ++ pt lf la lj) rt ft97 fR k11_9 t097 t197 k11_8 k11_4 k11_5 t297 eR n_rR_oc n_lR_lo har hrj hcR hdR (by first | omega | (rw [List.length_append, pt_len hlj]; omega))) kMg_take lm_Mg_94 (hR.call rfl) rfl hl.1 rfl (Nat.le_of_ble_eq_true rfl) dMg_mergeParts_105 (hR.new (by decide) (by decide)) (fun g_12 H locs hp_105 hg hS => ?_)
              obtain ⟨frt105, ft105, t0105, t1105, t2105⟩ := hp_105
              have k12_0 := frt105.at (h_nm n_rB_oc (h_nm (h_ne k11_0 t197 (fun h => by cases h)) h_n0)) k11_0
              have k12_1 := frt105.at (h_nm (h_ne k11_1 t097 (fun h => by cases h)) (h_nm n_lB_lo h_n0)) k11_1
              have k12_2 := frt105.at (h_nm n_rL_oc (h_nm (h_ne k11_2 t197 (fun h => by cases h)) h_n0)) k11_2
              have k12_3 := frt105.at (h_nm (h_ne k11_3 t097 (fun h => by cases h)) (h_nm n_lL_lo h_n0)) k11_3
              have k12_4 := frt105.at (h_nm n_rR_oc (h_nm (h_ne k11_4 t197 (fun h => by cases h)) h_n0)) k11_4
              have k12_5 := frt105.at (h_nm (h_ne k11_5 t097 (fun h => by cases h)) (h_nm n_lR_lo h_n0)) k11_5
              have k12_6 := frt105.at (h_nm (h_ne k11_6 t097 (fun h => by simp at h)) (h_nm (h_ne k11_6 t197 (fun h => by cases h)) h_n0)) k11_6
              have k12_7 := frt105.at (h_nm (h_ne k11_7 t097 (fun h => by simp at h)) (h_nm (h_ne k11_7 t197 (fun h => by cases h)) h_n0)) k11_7
              have k12_8 := frt105.at (h_nm (h_ne k11_8 t097 (fun h => by simp at h)) (h_nm (h_ne k11_8 t197 (fun h => by cases h)) h_n0)) k11_8
              have k12_9 := frt105.at (h_nm (h_ne k11_9 t097 (fun h => by simp at h)) (h_nm (h_ne k11_9 t197 (fun h => by cases h)) h_n0)) k11_9
              have k12_10 := frt105.at (h_nm (h_ne k11_10 t097 (fun h => by cases h)) (h_nm (Ne.symm n_lo_cc) h_n0)) k11_10
              have fr := fr.call frt105 (by simp)
              have ej : joinP bs lf rt a i la lj ra rj s = (s.1 ++ pt lf la lj ++ pt rt ra rj, s.2 ++ [(s.1.length, lj - la, rj - ra)]) := (if_neg (fun h => h.elim k23 k31)).trans (if_neg k21)
              exact hend _ _ _ _ _ _ _ (by decide) (by decide) (by rw [ej]; exact ⟨fr, _, _, k12_9, k12_10, t0105, t1105, k12_6, k12_7, k12_8, t2105, u2⟩) hg hS dMg_mergeParts_108
            · skip
              rw [← nI_0] at c_74
              have c_74 : ¬ (0 = 0) := fun h => c_74 ((nI_eq (by omega) (by omega)).mpr h)
              exact absurd c_74 (by decide)
        · skip
          rw [← nI_0] at c_49
          have c_49 : ¬ (0 = 0) := fun h => c_49 ((nI_eq (by omega) (by omega)).mpr h)
          exact absurd c_49 (by decide)
end
section
/-! MERGING, on -/
set_option maxRecDepth 100000 in
set_option maxHeartbeats 4000000 in
theorem c_Mg_mergeUpToAnchors (l : Launch) (D : va_G) (cI cR cJ : ClassId) (g : Nat → Option va_E) (sz : Nat) (mo oc cc c1 c2 p1 p2 p3 lo : Nat) (rB lB cB rL lL cL rR lR cR_ : Nat) (bs lf rt : List Int32) (fB fL fR : Nat → Int32) (fc fo : Nat → Int32) (hrB : g rB = some (.inr (5, [.ref lB, .int (nI bs.length)]))) (hlB : g lB = some (.inl (cI, cB, .inl fB))) (eB : rp fB bs) (hcB : bs.length ≤ cB) (hdB : cB < 4000) (hrL : g rL = some (.inr (5, [.ref lL, .int (nI lf.length)]))) (hlL : g lL = some (.inl (cI, cL, .inl fL))) (eL : rp fL lf) (hcL : lf.length ≤ cL) (hdL : cL < 4000) (hrR : g rR = some (.inr (5, [.ref lR, .int (nI rt.length)]))) (hlR : g lR = some (.inl (cI, cR_, .inl fR))) (eR : rp fR rt) (hcR : rt.length ≤ cR_) (hdR : cR_ < 4000) (n_rB_oc : rB ≠ oc) (n_rL_oc : rL ≠ oc) (n_rR_oc : rR ≠ oc) (n_lB_cc : lB ≠ cc) (n_lB_lo : lB ≠ lo) (n_lL_cc : lL ≠ cc) (n_lL_lo : lL ≠ lo) (n_lR_cc : lR ≠ cc) (n_lR_lo : lR ≠ lo) (n_lo_cc : lo ≠ cc) (n_p1_p2 : p1 ≠ p2) (n_p1_p3 : p1 ≠ p3) (n_p2_p3 : p2 ≠ p3) (a1 b1 a2 b2 len : Nat) (fa1 fb1 fa2 fb2 : Nat → Int32) (n_a1_cc : a1 ≠ cc) (n_a1_lo : a1 ≠ lo) (n_b1_cc : b1 ≠ cc) (n_b1_lo : b1 ≠ lo) (n_a2_cc : a2 ≠ cc) (n_a2_lo : a2 ≠ lo) (n_b2_cc : b2 ≠ cc) (n_b2_lo : b2 ≠ lo) (P1 P2 : List (Nat × Nat)) (hP1 : P1 = prs bs lf bs.length) (hP2 : P2 = prs bs rt bs.length) (hk1 : g c1 = some (.inr (0, [.ref a1, .ref b1, .int (nI P1.length), .ref len]))) (ha1 : g a1 = some (.inl (cI, 60, .inl fa1))) (hb1 : g b1 = some (.inl (cI, 60, .inl fb1))) (ra1 : rpN fa1 (P1.map Prod.fst)) (rb1 : rpN fb1 (P1.map Prod.snd)) (hk2 : g c2 = some (.inr (0, [.ref a2, .ref b2, .int (nI P2.length), .ref len]))) (ha2 : g a2 = some (.inl (cI, 60, .inl fa2))) (hb2 : g b2 = some (.inl (cI, 60, .inl fb2))) (ra2 : rpN fa2 (P2.map Prod.fst)) (rb2 : rpN fb2 (P2.map Prod.snd)) (hb60 : bs.length ≤ 60) (hl60 : lf.length ≤ 60) (hr60 : rt.length ≤ 60) (e1 e2 e3 : Int32) (h0 : g mo = some (.inr (2, [.ref oc, .ref cc, .int (nI 0), .ref c1, .ref c2, .ref p1, .ref p2, .ref p3]))) (h1 : g cc = some (.inl (cI, 183, .inl fc))) (h2 : g oc = some (.inr (5, [.ref lo, .int (nI 0)]))) (h3 : g lo = some (.inl (cI, 120, .inl fo))) (hp1 : g p1 = some (.inr (3, [.ref rB, .int (nI 0), .int e1]))) (hp2 : g p2 = some (.inr (3, [.ref rL, .int (nI 0), .int e2]))) (hp3 : g p3 = some (.inr (3, [.ref rR, .int (nI 0), .int e3]))) : hMv l yMg_mergeUpToAnchors cMg_mergeUpToAnchors 5 (hRm 4 89 0 0) D (hT cI cR cJ) g sz [.ref mo, .ref rB] (fun g1 => hfr g g1 [mo, cc, oc, lo, p1, p2, p3] ∧ ∃ (x1 x2 x3 : Int32) (fcx fox : Nat → Int32), g1 mo = some (.inr (2, [.ref oc, .ref cc, .int (nI (mg bs lf rt bs.length).2.2.2.2.length), .ref c1, .ref c2, .ref p1, .ref p2, .ref p3])) ∧ g1 cc = some (.inl (cI, 183, .inl fcx)) ∧ g1 oc = some (.inr (5, [.ref lo, .int (nI (mg bs lf rt bs.length).2.2.2.1.length)])) ∧ g1 lo = some (.inl (cI, 120, .inl fox)) ∧ g1 p1 = some (.inr (3, [.ref rB, .int (nI (mg bs lf rt bs.length).1), .int x1])) ∧ g1 p2 = some (.inr (3, [.ref rL, .int (nI (mg bs lf rt bs.length).2.1), .int x2])) ∧ g1 p3 = some (.inr (3, [.ref rR, .int (nI (mg bs lf rt bs.length).2.2.1), .int x3])) ∧ rp fox (mg bs lf rt bs.length).2.2.2.1 ∧ rpN fcx (fl3 (mg bs lf rt bs.length).2.2.2.2)) := by
  refine hMv_of (by decide +kernel) (Nat.le_of_ble_eq_true rfl) ?_
  intro pX eX RX sX mX argsX belowX methX cX QX AX hR S0 hnm hsz hg hK hS hA0 hend ls hl
  have hl : lv_has ls 5 [(0, .ref mo), (1, .ref rB)] := hl
  have fr : hfr g g [mo, cc, oc, lo, p1, p2, p3] := hfr.rf
  have hL1 : P1.length ≤ bs.length := by rw [hP1]; exact (prs_len bs lf bs.length).1
  have hL2 : P2.length ≤ bs.length := by rw [hP2]; exact (prs_len bs rt bs.length).1
  refine lv_iconst (v := nI 0) S0.1 S0.2.1 dMg_mergeUpToAnchors_0 (by decide) ?_
  refine lv_istore_n (lv' := [(2, .int (nI 0)), (0, .ref mo), (1, .ref rB)]) S0.1 S0.2.1 dMg_mergeUpToAnchors_1 rfl hl (by decide) rfl (fun ls hl => ?_)
  refine lv_iconst (v := nI 0) S0.1 S0.2.1 dMg_mergeUpToAnchors_2 (by decide) ?_
  refine lv_istore_n (lv' := [(3, .int (nI 0)), (2, .int (nI 0)), (0, .ref mo), (1, .ref rB)]) S0.1 S0.2.1 dMg_mergeUpToAnchors_3 rfl hl (by decide) rfl (fun ls hl => ?_)
  have loop_4 : ∀ (n_4 : Nat) (lx : Nat) (rx : Nat) (i : Nat) (x1 : Int32) (x2 : Int32) (x3 : Int32) (fcx : Nat → Int32) (fox : Nat → Int32) (gl : Nat → Option va_E) (H : Heap) (locs : List Loc) (ls : Array Slot), P1.length - lx < n_4 → (lx ≤ P1.length) → (i ≤ bs.length) → (prs bs lf i = P1.take lx) → (rx ≤ P2.length) → (∀ (k : Nat) (p : Nat × Nat), k < rx → P2[k]? = some p → ∀ (l2 : Nat) (q : Nat × Nat), lx ≤ l2 → P1[l2]? = some q → p.1 < q.1) → (hfr g gl [mo, cc, oc, lo, p1, p2, p3]) → (gl mo = some (.inr (2, [.ref oc, .ref cc, .int (nI (mg bs lf rt i).2.2.2.2.length), .ref c1, .ref c2, .ref p1, .ref p2, .ref p3]))) → (gl cc = some (.inl (cI, 183, .inl fcx))) → (gl oc = some (.inr (5, [.ref lo, .int (nI (mg bs lf rt i).2.2.2.1.length)]))) → (gl lo = some (.inl (cI, 120, .inl fox))) → (gl p1 = some (.inr (3, [.ref rB, .int (nI (mg bs lf rt i).1), .int x1]))) → (gl p2 = some (.inr (3, [.ref rL, .int (nI (mg bs lf rt i).2.1), .int x2]))) → (gl p3 = some (.inr (3, [.ref rR, .int (nI (mg bs lf rt i).2.2.1), .int x3]))) → (rp fox (mg bs lf rt i).2.2.2.1) → (rpN fcx (fl3 (mg bs lf rt i).2.2.2.2)) → hw D hC AX gl H → va_S AX sX.heap H locs → lv_has ls 5 [(0, .ref mo), (1, .ref rB), (2, .int (nI rx)), (3, .int (nI lx))] → W pX l eX RX sX mX argsX belowX methX cX H locs 0 0 QX (F0 mX 4 ls []) := by
    intro n_4
    induction n_4 with
    | zero => intros; omega
    | succ n_4 ih_4 =>
      intro lx rx i x1 x2 x3 fcx fox gl H locs ls hm_4 hlx hi hpi hrx hlt fr e0 e1_ e2_ e3_ e4_ e5_ e6_ eo ec hg hS hl
      have q4_rB := fr.at (h_nm (h_ne hrB h0 (fun h => by simp at h)) (h_nm (h_ne hrB h1 (fun h => by cases h)) (h_nm n_rB_oc (h_nm (h_ne hrB h3 (fun h => by cases h)) (h_nm (h_ne hrB hp1 (fun h => by simp at h)) (h_nm (h_ne hrB hp2 (fun h => by simp at h)) (h_nm (h_ne hrB hp3 (fun h => by simp at h)) h_n0))))))) hrB
      have q4_lB := fr.at (h_nm (h_ne hlB h0 (fun h => by cases h)) (h_nm n_lB_cc (h_nm (h_ne hlB h2 (fun h => by cases h)) (h_nm n_lB_lo (h_nm (h_ne hlB hp1 (fun h => by cases h)) (h_nm (h_ne hlB hp2 (fun h => by cases h)) (h_nm (h_ne hlB hp3 (fun h => by cases h)) h_n0))))))) hlB
      have q4_rL := fr.at (h_nm (h_ne hrL h0 (fun h => by simp at h)) (h_nm (h_ne hrL h1 (fun h => by cases h)) (h_nm n_rL_oc (h_nm (h_ne hrL h3 (fun h => by cases h)) (h_nm (h_ne hrL hp1 (fun h => by simp at h)) (h_nm (h_ne hrL hp2 (fun h => by simp at h)) (h_nm (h_ne hrL hp3 (fun h => by simp at h)) h_n0))))))) hrL
      have q4_lL := fr.at (h_nm (h_ne hlL h0 (fun h => by cases h)) (h_nm n_lL_cc (h_nm (h_ne hlL h2 (fun h => by cases h)) (h_nm n_lL_lo (h_nm (h_ne hlL hp1 (fun h => by cases h)) (h_nm (h_ne hlL hp2 (fun h => by cases h)) (h_nm (h_ne hlL hp3 (fun h => by cases h)) h_n0))))))) hlL
      have q4_rR := fr.at (h_nm (h_ne hrR h0 (fun h => by simp at h)) (h_nm (h_ne hrR h1 (fun h => by cases h)) (h_nm n_rR_oc (h_nm (h_ne hrR h3 (fun h => by cases h)) (h_nm (h_ne hrR hp1 (fun h => by simp at h)) (h_nm (h_ne hrR hp2 (fun h => by simp at h)) (h_nm (h_ne hrR hp3 (fun h => by simp at h)) h_n0))))))) hrR
      have q4_lR := fr.at (h_nm (h_ne hlR h0 (fun h => by cases h)) (h_nm n_lR_cc (h_nm (h_ne hlR h2 (fun h => by cases h)) (h_nm n_lR_lo (h_nm (h_ne hlR hp1 (fun h => by cases h)) (h_nm (h_ne hlR hp2 (fun h => by cases h)) (h_nm (h_ne hlR hp3 (fun h => by cases h)) h_n0))))))) hlR
      have q4_c1 := fr.at (h_nm (h_ne hk1 h0 (fun h => by simp at h)) (h_nm (h_ne hk1 h1 (fun h => by cases h)) (h_nm (h_ne hk1 h2 (fun h => by simp at h)) (h_nm (h_ne hk1 h3 (fun h => by cases h)) (h_nm (h_ne hk1 hp1 (fun h => by simp at h)) (h_nm (h_ne hk1 hp2 (fun h => by simp at h)) (h_nm (h_ne hk1 hp3 (fun h => by simp at h)) h_n0))))))) hk1
      have q4_a1 := fr.at (h_nm (h_ne ha1 h0 (fun h => by cases h)) (h_nm n_a1_cc (h_nm (h_ne ha1 h2 (fun h => by cases h)) (h_nm n_a1_lo (h_nm (h_ne ha1 hp1 (fun h => by cases h)) (h_nm (h_ne ha1 hp2 (fun h => by cases h)) (h_nm (h_ne ha1 hp3 (fun h => by cases h)) h_n0))))))) ha1
      have q4_b1 := fr.at (h_nm (h_ne hb1 h0 (fun h => by cases h)) (h_nm n_b1_cc (h_nm (h_ne hb1 h2 (fun h => by cases h)) (h_nm n_b1_lo (h_nm (h_ne hb1 hp1 (fun h => by cases h)) (h_nm (h_ne hb1 hp2 (fun h => by cases h)) (h_nm (h_ne hb1 hp3 (fun h => by cases h)) h_n0))))))) hb1
      have q4_c2 := fr.at (h_nm (h_ne hk2 h0 (fun h => by simp at h)) (h_nm (h_ne hk2 h1 (fun h => by cases h)) (h_nm (h_ne hk2 h2 (fun h => by simp at h)) (h_nm (h_ne hk2 h3 (fun h => by cases h)) (h_nm (h_ne hk2 hp1 (fun h => by simp at h)) (h_nm (h_ne hk2 hp2 (fun h => by simp at h)) (h_nm (h_ne hk2 hp3 (fun h => by simp at h)) h_n0))))))) hk2
      have q4_a2 := fr.at (h_nm (h_ne ha2 h0 (fun h => by cases h)) (h_nm n_a2_cc (h_nm (h_ne ha2 h2 (fun h => by cases h)) (h_nm n_a2_lo (h_nm (h_ne ha2 hp1 (fun h => by cases h)) (h_nm (h_ne ha2 hp2 (fun h => by cases h)) (h_nm (h_ne ha2 hp3 (fun h => by cases h)) h_n0))))))) ha2
      have q4_b2 := fr.at (h_nm (h_ne hb2 h0 (fun h => by cases h)) (h_nm n_b2_cc (h_nm (h_ne hb2 h2 (fun h => by cases h)) (h_nm n_b2_lo (h_nm (h_ne hb2 hp1 (fun h => by cases h)) (h_nm (h_ne hb2 hp2 (fun h => by cases h)) (h_nm (h_ne hb2 hp3 (fun h => by cases h)) h_n0))))))) hb2
      refine lv_iload_n S0.1 S0.2.1 dMg_mergeUpToAnchors_4 rfl (lv_at hl 3 rfl) ?_
      refine lv_aload_n S0.1 S0.2.1 dMg_mergeUpToAnchors_5 rfl (lv_at hl 0 rfl) ?_
      refine hw_get S0 hK hg e0 rfl inMg 3 (by decide) lf_Mg_28 rfl rfl dMg_mergeUpToAnchors_6 ?_
      refine hw_get S0 hK hg q4_c1 rfl inCo 2 (by decide) lf_Mg_68 rfl rfl dMg_mergeUpToAnchors_9 ?_
      refine lv_icmp_ge (tgt := 130) S0.1 S0.2.1 dMg_mergeUpToAnchors_12 (by decide) (fun c_12 => ?_) (fun c_12 => ?_)
      · skip
        have c_12 : P1.length ≤ lx := (nI_leI (by omega) (by omega)).mp c_12
        have elx : lx = P1.length := by omega
        have hmi : mg bs lf rt i = mg bs lf rt bs.length := mg_at (by rw [hpi, elx, List.take_length, hP1])
        rw [hmi] at e0 e2_ e4_ e5_ e6_ eo ec
        exact hend _ _ _ _ _ _ _ (by decide) (by decide) (⟨fr, x1, x2, x3, fcx, fox, e0, e1_, e2_, e3_, e4_, e5_, e6_, eo, ec⟩) hg hS dMg_mergeUpToAnchors_130
      · skip
        have c_12 : ¬ (P1.length ≤ lx) := fun h => c_12 ((nI_leI (by omega) (by omega)).mpr h)
        obtain ⟨pl, lj, hg1, hpl, hpn1, hplt⟩ := prs_take (a := bs) (b := lf) (n := bs.length) (k := lx) (by rw [← hP1]; omega)
        rw [← hP1] at hg1 hpl
        have eLA : fa1 lx = nI pl := rpN_at ra1 hg1
        have eLB : fb1 lx = nI lj := rpN_at rb1 hg1
        have hmi : mg bs lf rt i = mg bs lf rt pl := mg_at (by rw [hpi, hpl])
        rw [hmi] at e0 e2_ e4_ e5_ e6_ eo ec
        have hin := mg_in bs lf rt pl
        have hs1 := stp_spec (show stp bs lf (fro bs lf pl) pl = some lj from hpn1)
        have hfr2 := fro_le bs rt pl
        refine lv_aload_n S0.1 S0.2.1 dMg_mergeUpToAnchors_15 rfl (lv_at hl 0 rfl) ?_
        refine hw_get S0 hK hg e0 rfl inMg 3 (by decide) lf_Mg_28 rfl rfl dMg_mergeUpToAnchors_16 ?_
        refine hw_get S0 hK hg q4_c1 rfl inCo 0 (by decide) lf_Mg_69 rfl rfl dMg_mergeUpToAnchors_19 ?_
        refine lv_iload_n S0.1 S0.2.1 dMg_mergeUpToAnchors_22 rfl (lv_at hl 3 rfl) ?_
        refine hw_iald S0 hK hg q4_a1 0 rfl (by omega) (by omega) dMg_mergeUpToAnchors_23 ?_
        refine hw_top (nI pl) eLA ?_
        refine lv_istore (lv' := [(4, .int (nI pl)), (0, .ref mo), (1, .ref rB), (2, .int (nI rx)), (3, .int (nI lx))]) S0.1 S0.2.1 dMg_mergeUpToAnchors_24 hl (by decide) rfl (fun ls hl => ?_)
        have loop_26 : ∀ (n_26 : Nat) (ry : Nat) (H : Heap) (locs : List Loc) (ls : Array Slot), P2.length - ry < n_26 → (ry ≤ P2.length) → (∀ (k : Nat) (p : Nat × Nat), k < ry → P2[k]? = some p → p.1 < pl) → hw D hC AX gl H → va_S AX sX.heap H locs → lv_has ls 5 [(0, .ref mo), (1, .ref rB), (2, .int (nI ry)), (3, .int (nI lx)), (4, .int (nI pl))] → W pX l eX RX sX mX argsX belowX methX cX H locs 0 0 QX (F0 mX 26 ls []) := by
          intro n_26
          induction n_26 with
          | zero => intros; omega
          | succ n_26 ih_26 =>
            intro ry H locs ls hm_26 hry6 hry hg hS hl
            refine lv_iload_n S0.1 S0.2.1 dMg_mergeUpToAnchors_26 rfl (lv_at hl 2 rfl) ?_
            refine lv_aload_n S0.1 S0.2.1 dMg_mergeUpToAnchors_27 rfl (lv_at hl 0 rfl) ?_
            refine hw_get S0 hK hg e0 rfl inMg 4 (by decide) lf_Mg_32 rfl rfl dMg_mergeUpToAnchors_28 ?_
            refine hw_get S0 hK hg q4_c2 rfl inCo 2 (by decide) lf_Mg_68 rfl rfl dMg_mergeUpToAnchors_31 ?_
            refine lv_icmp_ge (tgt := 57) S0.1 S0.2.1 dMg_mergeUpToAnchors_34 (by decide) (fun c_34 => ?_) (fun c_34 => ?_)
            · skip
              have c_34 : P2.length ≤ ry := (nI_leI (by omega) (by omega)).mp c_34
              refine lv_iload_n S0.1 S0.2.1 dMg_mergeUpToAnchors_57 rfl (lv_at hl 2 rfl) ?_
              refine lv_aload_n S0.1 S0.2.1 dMg_mergeUpToAnchors_58 rfl (lv_at hl 0 rfl) ?_
              refine hw_get S0 hK hg e0 rfl inMg 4 (by decide) lf_Mg_32 rfl rfl dMg_mergeUpToAnchors_59 ?_
              refine hw_get S0 hK hg q4_c2 rfl inCo 2 (by decide) lf_Mg_68 rfl rfl dMg_mergeUpToAnchors_62 ?_
              refine lv_icmp_ge (tgt := 124) S0.1 S0.2.1 dMg_mergeUpToAnchors_65 (by decide) (fun c_65 => ?_) (fun c_65 => ?_)
              · skip
                have c_65 : P2.length ≤ ry := (nI_leI (by omega) (by omega)).mp c_65
                have hnx : mg bs lf rt (pl + 1) = mg bs lf rt pl := mg_skipR (anchor_none hplt (fun k p hk hp => hry k p hk (by rw [hP2]; exact hp)) (fun p hp => by rw [← hP2] at hp; have := (List.getElem?_eq_some_iff.mp hp).1; omega))
                refine lv_iinc (v := nI (lx + 1)) (lv' := [(3, .int (nI (lx + 1))), (0, .ref mo), (1, .ref rB), (2, .int (nI ry)), (4, .int (nI pl))]) S0.1 S0.2.1 dMg_mergeUpToAnchors_124 hl (k := 3) rfl (by exact nI_add _ 1) (by decide) rfl (fun ls hl => ?_)
                refine lv_goto (tgt := 4) S0.1 S0.2.1 dMg_mergeUpToAnchors_127 (by decide) ?_
                exact ih_4 (lx + 1) ry (pl + 1) x1 x2 x3 fcx fox gl _ _ _ (by omega) (by omega) (by omega) (by rw [prs_some hpn1, take_snoc hg1, hpl]) (by omega) (fun k p hk hp l2 q hl2 hq => Nat.lt_trans (hry k p hk hp) (prs_lt (show lx < l2 by omega) (by rw [← hP1]; exact hg1) (by rw [← hP1]; exact hq))) fr (by rw [hnx]; exact e0) e1_ (by rw [hnx]; exact e2_) e3_ (by rw [hnx]; exact e4_) (by rw [hnx]; exact e5_) (by rw [hnx]; exact e6_) (by rw [hnx]; exact eo) (by rw [hnx]; exact ec) hg hS (lv_sub hl [1, 2, 3, 0] rfl)
              · skip
                have c_65 : ¬ (P2.length ≤ ry) := fun h => c_65 ((nI_leI (by omega) (by omega)).mpr h)
                omega
            · skip
              have c_34 : ¬ (P2.length ≤ ry) := fun h => c_34 ((nI_leI (by omega) (by omega)).mpr h)
              obtain ⟨pr, rj, hg2, hpr, hpn2, hprt⟩ := prs_take (a := bs) (b := rt) (n := bs.length) (k := ry) (by rw [← hP2]; omega)
              rw [← hP2] at hg2 hpr
              have eRA : fa2 ry = nI pr := rpN_at ra2 hg2
              have eRB : fb2 ry = nI rj := rpN_at rb2 hg2
              refine lv_aload_n S0.1 S0.2.1 dMg_mergeUpToAnchors_37 rfl (lv_at hl 0 rfl) ?_
              refine hw_get S0 hK hg e0 rfl inMg 4 (by decide) lf_Mg_32 rfl rfl dMg_mergeUpToAnchors_38 ?_
              refine hw_get S0 hK hg q4_c2 rfl inCo 0 (by decide) lf_Mg_69 rfl rfl dMg_mergeUpToAnchors_41 ?_
              refine lv_iload_n S0.1 S0.2.1 dMg_mergeUpToAnchors_44 rfl (lv_at hl 2 rfl) ?_
              refine hw_iald S0 hK hg q4_a2 0 rfl (by omega) (by omega) dMg_mergeUpToAnchors_45 ?_
              refine hw_top (nI pr) eRA ?_
              refine lv_iload S0.1 S0.2.1 dMg_mergeUpToAnchors_46 (lv_at hl 4 rfl) ?_
              refine lv_icmp_ge (tgt := 57) S0.1 S0.2.1 dMg_mergeUpToAnchors_48 (by decide) (fun c_48 => ?_) (fun c_48 => ?_)
              · skip
                have c_48 : pl ≤ pr := (nI_leI (by omega) (by omega)).mp c_48
                refine lv_iload_n S0.1 S0.2.1 dMg_mergeUpToAnchors_57 rfl (lv_at hl 2 rfl) ?_
                refine lv_aload_n S0.1 S0.2.1 dMg_mergeUpToAnchors_58 rfl (lv_at hl 0 rfl) ?_
                refine hw_get S0 hK hg e0 rfl inMg 4 (by decide) lf_Mg_32 rfl rfl dMg_mergeUpToAnchors_59 ?_
                refine hw_get S0 hK hg q4_c2 rfl inCo 2 (by decide) lf_Mg_68 rfl rfl dMg_mergeUpToAnchors_62 ?_
                refine lv_icmp_ge (tgt := 124) S0.1 S0.2.1 dMg_mergeUpToAnchors_65 (by decide) (fun c_65 => ?_) (fun c_65 => ?_)
                · skip
                  have c_65 : P2.length ≤ ry := (nI_leI (by omega) (by omega)).mp c_65
                  omega
                · skip
                  have c_65 : ¬ (P2.length ≤ ry) := fun h => c_65 ((nI_leI (by omega) (by omega)).mpr h)
                  refine lv_aload_n S0.1 S0.2.1 dMg_mergeUpToAnchors_68 rfl (lv_at hl 0 rfl) ?_
                  refine hw_get S0 hK hg e0 rfl inMg 4 (by decide) lf_Mg_32 rfl rfl dMg_mergeUpToAnchors_69 ?_
                  refine hw_get S0 hK hg q4_c2 rfl inCo 0 (by decide) lf_Mg_69 rfl rfl dMg_mergeUpToAnchors_72 ?_
                  refine lv_iload_n S0.1 S0.2.1 dMg_mergeUpToAnchors_75 rfl (lv_at hl 2 rfl) ?_
                  refine hw_iald S0 hK hg q4_a2 0 rfl (by omega) (by omega) dMg_mergeUpToAnchors_76 ?_
                  refine hw_top (nI pr) eRA ?_
                  refine lv_iload S0.1 S0.2.1 dMg_mergeUpToAnchors_77 (lv_at hl 4 rfl) ?_
                  refine lv_icmp_ne (tgt := 124) S0.1 S0.2.1 dMg_mergeUpToAnchors_79 (by decide) (fun c_79 => ?_) (fun c_79 => ?_)
                  · skip
                    have c_79 : ¬ (pr = pl) := fun h => c_79 ((nI_eq (by omega) (by omega)).mpr h)
                    have hnx : mg bs lf rt (pl + 1) = mg bs lf rt pl := mg_skipR (anchor_none hplt (fun k p hk hp => hry k p hk (by rw [hP2]; exact hp)) (fun p hp => by rw [← hP2] at hp; cases Option.some.inj (hg2.symm.trans hp); show pl < pr; omega))
                    refine lv_iinc (v := nI (lx + 1)) (lv' := [(3, .int (nI (lx + 1))), (0, .ref mo), (1, .ref rB), (2, .int (nI ry)), (4, .int (nI pl))]) S0.1 S0.2.1 dMg_mergeUpToAnchors_124 hl (k := 3) rfl (by exact nI_add _ 1) (by decide) rfl (fun ls hl => ?_)
                    refine lv_goto (tgt := 4) S0.1 S0.2.1 dMg_mergeUpToAnchors_127 (by decide) ?_
                    exact ih_4 (lx + 1) ry (pl + 1) x1 x2 x3 fcx fox gl _ _ _ (by omega) (by omega) (by omega) (by rw [prs_some hpn1, take_snoc hg1, hpl]) (by omega) (fun k p hk hp l2 q hl2 hq => Nat.lt_trans (hry k p hk hp) (prs_lt (show lx < l2 by omega) (by rw [← hP1]; exact hg1) (by rw [← hP1]; exact hq))) fr (by rw [hnx]; exact e0) e1_ (by rw [hnx]; exact e2_) e3_ (by rw [hnx]; exact e4_) (by rw [hnx]; exact e5_) (by rw [hnx]; exact e6_) (by rw [hnx]; exact eo) (by rw [hnx]; exact ec) hg hS (lv_sub hl [1, 2, 3, 0] rfl)
                  · skip
                    have c_79 : pr = pl := (nI_eq (by omega) (by omega)).mp c_79
                    have hpn2 : pn bs rt pl = some rj := by rw [← c_79]; exact hpn2
                    have hs2 := stp_spec (show stp bs rt (fro bs rt pl) pl = some rj from hpn2)
                    have hnx := mg_anchor hpn1 hpn2
                    have hjl := joinP_len (bs := bs) (lf := lf) (rt := rt) (a := (mg bs lf rt pl).1) (i := pl) (la := (mg bs lf rt pl).2.1) (lj := lj) (ra := (mg bs lf rt pl).2.2.1) (rj := rj) (mg bs lf rt pl).2.2.2 (by omega) (by omega)
                    refine lv_aload_n S0.1 S0.2.1 dMg_mergeUpToAnchors_82 rfl (lv_at hl 0 rfl) ?_
                    refine lv_iload S0.1 S0.2.1 dMg_mergeUpToAnchors_83 (lv_at hl 4 rfl) ?_
                    refine lv_aload_n S0.1 S0.2.1 dMg_mergeUpToAnchors_85 rfl (lv_at hl 0 rfl) ?_
                    refine hw_get S0 hK hg e0 rfl inMg 3 (by decide) lf_Mg_28 rfl rfl dMg_mergeUpToAnchors_86 ?_
                    refine hw_get S0 hK hg q4_c1 rfl inCo 1 (by decide) lf_Mg_72 rfl rfl dMg_mergeUpToAnchors_89 ?_
                    refine lv_iload_n S0.1 S0.2.1 dMg_mergeUpToAnchors_92 rfl (lv_at hl 3 rfl) ?_
                    refine hw_iald S0 hK hg q4_b1 0 rfl (by omega) (by omega) dMg_mergeUpToAnchors_93 ?_
                    refine hw_top (nI lj) eLB ?_
                    refine lv_aload_n S0.1 S0.2.1 dMg_mergeUpToAnchors_94 rfl (lv_at hl 0 rfl) ?_
                    refine hw_get S0 hK hg e0 rfl inMg 4 (by decide) lf_Mg_32 rfl rfl dMg_mergeUpToAnchors_95 ?_
                    refine hw_get S0 hK hg q4_c2 rfl inCo 1 (by decide) lf_Mg_72 rfl rfl dMg_mergeUpToAnchors_98 ?_
                    refine lv_iload_n S0.1 S0.2.1 dMg_mergeUpToAnchors_101 rfl (lv_at hl 2 rfl) ?_
                    refine hw_iald S0 hK hg q4_b2 0 rfl (by omega) (by omega) dMg_mergeUpToAnchors_102 ?_
                    refine hw_top (nI rj) eRB ?_
                    refine hw_Vv (As := [.int (nI pl), .int (nI lj), .int (nI rj)]) (rest := []) S0 hK hg hS hA0 e0 rfl (c_Mg_mergeParts l D cI cR cJ gl _ mo oc cc c1 c2 p1 p2 p3 lo rB lB cB rL lL cL rR lR cR_ bs lf rt fB fL fR fcx fox q4_rB q4_lB eB hcB hdB q4_rL q4_lL eL hcL hdL q4_rR q4_lR eR hcR hdR n_rB_oc n_rL_oc n_rR_oc n_lB_cc n_lB_lo n_lL_cc n_lL_lo n_lR_cc n_lR_lo n_lo_cc n_p1_p2 n_p1_p3 n_p2_p3 (mg bs lf rt pl).1 pl (mg bs lf rt pl).2.1 lj (mg bs lf rt pl).2.2.1 rj x1 x2 x3 (mg bs lf rt pl).2.2.2 e0 e1_ e2_ e3_ e4_ e5_ e6_ eo ec (by omega) (by omega) (by omega) (by omega) (by omega) (by omega) (by omega) (by omega)) kMg_mergeParts lm_Mg_64 (hR.call rfl) rfl hl.1 rfl (Nat.le_of_ble_eq_true rfl) dMg_mergeUpToAnchors_103 (hR.new (by decide) (by decide)) (fun g_1 H locs hp_103 hg hS => ?_)
                    obtain ⟨frm, fc1, fo1, m0, m1, m2, m3, m4, m5, m6, m7, m8⟩ := hp_103
                    generalize hJ : joinP bs lf rt (mg bs lf rt pl).1 pl (mg bs lf rt pl).2.1 lj (mg bs lf rt pl).2.2.1 rj (mg bs lf rt pl).2.2.2 = J at m0 m2 m7 m8 hnx hjl
                    have k1_0 := frm.at (h_nm (h_ne q4_rB e0 (fun h => by simp at h)) (h_nm (h_ne q4_rB e1_ (fun h => by cases h)) (h_nm n_rB_oc (h_nm (h_ne q4_rB e3_ (fun h => by cases h)) (h_nm (h_ne q4_rB e4_ (fun h => by simp at h)) (h_nm (h_ne q4_rB e5_ (fun h => by simp at h)) (h_nm (h_ne q4_rB e6_ (fun h => by simp at h)) h_n0))))))) q4_rB
                    have k1_1 := frm.at (h_nm (h_ne q4_lB e0 (fun h => by cases h)) (h_nm n_lB_cc (h_nm (h_ne q4_lB e2_ (fun h => by cases h)) (h_nm n_lB_lo (h_nm (h_ne q4_lB e4_ (fun h => by cases h)) (h_nm (h_ne q4_lB e5_ (fun h => by cases h)) (h_nm (h_ne q4_lB e6_ (fun h => by cases h)) h_n0))))))) q4_lB
                    have k1_2 := frm.at (h_nm (h_ne q4_rL e0 (fun h => by simp at h)) (h_nm (h_ne q4_rL e1_ (fun h => by cases h)) (h_nm n_rL_oc (h_nm (h_ne q4_rL e3_ (fun h => by cases h)) (h_nm (h_ne q4_rL e4_ (fun h => by simp at h)) (h_nm (h_ne q4_rL e5_ (fun h => by simp at h)) (h_nm (h_ne q4_rL e6_ (fun h => by simp at h)) h_n0))))))) q4_rL
                    have k1_3 := frm.at (h_nm (h_ne q4_lL e0 (fun h => by cases h)) (h_nm n_lL_cc (h_nm (h_ne q4_lL e2_ (fun h => by cases h)) (h_nm n_lL_lo (h_nm (h_ne q4_lL e4_ (fun h => by cases h)) (h_nm (h_ne q4_lL e5_ (fun h => by cases h)) (h_nm (h_ne q4_lL e6_ (fun h => by cases h)) h_n0))))))) q4_lL
                    have k1_4 := frm.at (h_nm (h_ne q4_rR e0 (fun h => by simp at h)) (h_nm (h_ne q4_rR e1_ (fun h => by cases h)) (h_nm n_rR_oc (h_nm (h_ne q4_rR e3_ (fun h => by cases h)) (h_nm (h_ne q4_rR e4_ (fun h => by simp at h)) (h_nm (h_ne q4_rR e5_ (fun h => by simp at h)) (h_nm (h_ne q4_rR e6_ (fun h => by simp at h)) h_n0))))))) q4_rR
                    have k1_5 := frm.at (h_nm (h_ne q4_lR e0 (fun h => by cases h)) (h_nm n_lR_cc (h_nm (h_ne q4_lR e2_ (fun h => by cases h)) (h_nm n_lR_lo (h_nm (h_ne q4_lR e4_ (fun h => by cases h)) (h_nm (h_ne q4_lR e5_ (fun h => by cases h)) (h_nm (h_ne q4_lR e6_ (fun h => by cases h)) h_n0))))))) q4_lR
                    have k1_6 := frm.at (h_nm (h_ne q4_c1 e0 (fun h => by simp at h)) (h_nm (h_ne q4_c1 e1_ (fun h => by cases h)) (h_nm (h_ne q4_c1 e2_ (fun h => by simp at h)) (h_nm (h_ne q4_c1 e3_ (fun h => by cases h)) (h_nm (h_ne q4_c1 e4_ (fun h => by simp at h)) (h_nm (h_ne q4_c1 e5_ (fun h => by simp at h)) (h_nm (h_ne q4_c1 e6_ (fun h => by simp at h)) h_n0))))))) q4_c1
                    have k1_7 := frm.at (h_nm (h_ne q4_a1 e0 (fun h => by cases h)) (h_nm n_a1_cc (h_nm (h_ne q4_a1 e2_ (fun h => by cases h)) (h_nm n_a1_lo (h_nm (h_ne q4_a1 e4_ (fun h => by cases h)) (h_nm (h_ne q4_a1 e5_ (fun h => by cases h)) (h_nm (h_ne q4_a1 e6_ (fun h => by cases h)) h_n0))))))) q4_a1
                    have k1_8 := frm.at (h_nm (h_ne q4_b1 e0 (fun h => by cases h)) (h_nm n_b1_cc (h_nm (h_ne q4_b1 e2_ (fun h => by cases h)) (h_nm n_b1_lo (h_nm (h_ne q4_b1 e4_ (fun h => by cases h)) (h_nm (h_ne q4_b1 e5_ (fun h => by cases h)) (h_nm (h_ne q4_b1 e6_ (fun h => by cases h)) h_n0))))))) q4_b1
                    have k1_9 := frm.at (h_nm (h_ne q4_c2 e0 (fun h => by simp at h)) (h_nm (h_ne q4_c2 e1_ (fun h => by cases h)) (h_nm (h_ne q4_c2 e2_ (fun h => by simp at h)) (h_nm (h_ne q4_c2 e3_ (fun h => by cases h)) (h_nm (h_ne q4_c2 e4_ (fun h => by simp at h)) (h_nm (h_ne q4_c2 e5_ (fun h => by simp at h)) (h_nm (h_ne q4_c2 e6_ (fun h => by simp at h)) h_n0))))))) q4_c2
                    have k1_10 := frm.at (h_nm (h_ne q4_a2 e0 (fun h => by cases h)) (h_nm n_a2_cc (h_nm (h_ne q4_a2 e2_ (fun h => by cases h)) (h_nm n_a2_lo (h_nm (h_ne q4_a2 e4_ (fun h => by cases h)) (h_nm (h_ne q4_a2 e5_ (fun h => by cases h)) (h_nm (h_ne q4_a2 e6_ (fun h => by cases h)) h_n0))))))) q4_a2
                    have k1_11 := frm.at (h_nm (h_ne q4_b2 e0 (fun h => by cases h)) (h_nm n_b2_cc (h_nm (h_ne q4_b2 e2_ (fun h => by cases h)) (h_nm n_b2_lo (h_nm (h_ne q4_b2 e4_ (fun h => by cases h)) (h_nm (h_ne q4_b2 e5_ (fun h => by cases h)) (h_nm (h_ne q4_b2 e6_ (fun h => by cases h)) h_n0))))))) q4_b2
                    have fr := fr.call frm (by simp)
                    refine lv_aload_n S0.1 S0.2.1 dMg_mergeUpToAnchors_106 rfl (lv_at hl 0 rfl) ?_
                    refine hw_get S0 hK hg m0 rfl inMg 0 (by decide) lf_Mg_14 rfl rfl dMg_mergeUpToAnchors_107 ?_
                    refine lv_aload_n S0.1 S0.2.1 dMg_mergeUpToAnchors_110 rfl (lv_at hl 1 rfl) ?_
                    refine hw_get S0 hK hg k1_0 rfl inRo 0 (by decide) lf_Mg_75 rfl rfl dMg_mergeUpToAnchors_111 ?_
                    refine lv_iload S0.1 S0.2.1 dMg_mergeUpToAnchors_114 (lv_at hl 4 rfl) ?_
                    refine hw_iald S0 hK hg k1_1 0 rfl (by omega) (by omega) dMg_mergeUpToAnchors_116 ?_
                    refine hw_Vv (As := [.int (fB pl)]) (rest := []) S0 hK hg hS hA0 m2 rfl (c_Ro_add l D cI cR cJ g_1 _ oc lo J.1.length 120 fo1 (fB pl) m2 m3 (by omega) (by omega)) kRo_add lm_Mg_78 (hR.call rfl) rfl hl.1 rfl (Nat.le_of_ble_eq_true rfl) dMg_mergeUpToAnchors_117 (hR.new (by decide) (by decide)) (fun g_2 H locs hp_117 hg hS => ?_)
                    obtain ⟨fra, k0, k1⟩ := hp_117
                    have k2_0 := fra.at (h_nm n_rB_oc (h_nm (h_ne k1_0 m3 (fun h => by cases h)) h_n0)) k1_0
                    have k2_1 := fra.at (h_nm (h_ne k1_1 m2 (fun h => by cases h)) (h_nm n_lB_lo h_n0)) k1_1
                    have k2_2 := fra.at (h_nm n_rL_oc (h_nm (h_ne k1_2 m3 (fun h => by cases h)) h_n0)) k1_2
                    have k2_3 := fra.at (h_nm (h_ne k1_3 m2 (fun h => by cases h)) (h_nm n_lL_lo h_n0)) k1_3
                    have k2_4 := fra.at (h_nm n_rR_oc (h_nm (h_ne k1_4 m3 (fun h => by cases h)) h_n0)) k1_4
                    have k2_5 := fra.at (h_nm (h_ne k1_5 m2 (fun h => by cases h)) (h_nm n_lR_lo h_n0)) k1_5
                    have k2_6 := fra.at (h_nm (h_ne k1_6 m2 (fun h => by simp at h)) (h_nm (h_ne k1_6 m3 (fun h => by cases h)) h_n0)) k1_6
                    have k2_7 := fra.at (h_nm (h_ne k1_7 m2 (fun h => by cases h)) (h_nm n_a1_lo h_n0)) k1_7
                    have k2_8 := fra.at (h_nm (h_ne k1_8 m2 (fun h => by cases h)) (h_nm n_b1_lo h_n0)) k1_8
                    have k2_9 := fra.at (h_nm (h_ne k1_9 m2 (fun h => by simp at h)) (h_nm (h_ne k1_9 m3 (fun h => by cases h)) h_n0)) k1_9
                    have k2_10 := fra.at (h_nm (h_ne k1_10 m2 (fun h => by cases h)) (h_nm n_a2_lo h_n0)) k1_10
                    have k2_11 := fra.at (h_nm (h_ne k1_11 m2 (fun h => by cases h)) (h_nm n_b2_lo h_n0)) k1_11
                    have k2_12 := fra.at (h_nm (h_ne m0 m2 (fun h => by simp at h)) (h_nm (h_ne m0 m3 (fun h => by cases h)) h_n0)) m0
                    have k2_13 := fra.at (h_nm (h_ne m1 m2 (fun h => by cases h)) (h_nm (Ne.symm n_lo_cc) h_n0)) m1
                    have k2_14 := fra.at (h_nm (h_ne m4 m2 (fun h => by simp at h)) (h_nm (h_ne m4 m3 (fun h => by cases h)) h_n0)) m4
                    have k2_15 := fra.at (h_nm (h_ne m5 m2 (fun h => by simp at h)) (h_nm (h_ne m5 m3 (fun h => by cases h)) h_n0)) m5
                    have k2_16 := fra.at (h_nm (h_ne m6 m2 (fun h => by simp at h)) (h_nm (h_ne m6 m3 (fun h => by cases h)) h_n0)) m6
                    have fr := fr.call fra (by simp)
                    refine lv_aload_n S0.1 S0.2.1 dMg_mergeUpToAnchors_120 rfl (lv_at hl 0 rfl) ?_
                    refine hw_Vv (As := []) (rest := []) S0 hK hg hS hA0 k2_12 rfl (c_Mg_stepPartsOverAnchor l D cI cR cJ g_2 _ mo oc cc c1 c2 p1 p2 p3 rB rL rR pl lj rj (nI J.2.length) _ _ _ k2_12 k2_14 k2_15 k2_16 n_p1_p2 n_p1_p3 n_p2_p3) kMg_stepPartsOverAnchor lm_Mg_81 (hR.call rfl) rfl hl.1 rfl (Nat.le_of_ble_eq_true rfl) dMg_mergeUpToAnchors_121 (hR.new (by decide) (by decide)) (fun g_3 H locs hp_121 hg hS => ?_)
                    obtain ⟨frs, s1_, s2_, s3_⟩ := hp_121
                    have k3_0 := frs.at (h_nm (h_ne k2_0 k2_14 (fun h => by simp at h)) (h_nm (h_ne k2_0 k2_15 (fun h => by simp at h)) (h_nm (h_ne k2_0 k2_16 (fun h => by simp at h)) h_n0))) k2_0
                    have k3_1 := frs.at (h_nm (h_ne k2_1 k2_14 (fun h => by cases h)) (h_nm (h_ne k2_1 k2_15 (fun h => by cases h)) (h_nm (h_ne k2_1 k2_16 (fun h => by cases h)) h_n0))) k2_1
                    have k3_2 := frs.at (h_nm (h_ne k2_2 k2_14 (fun h => by simp at h)) (h_nm (h_ne k2_2 k2_15 (fun h => by simp at h)) (h_nm (h_ne k2_2 k2_16 (fun h => by simp at h)) h_n0))) k2_2
                    have k3_3 := frs.at (h_nm (h_ne k2_3 k2_14 (fun h => by cases h)) (h_nm (h_ne k2_3 k2_15 (fun h => by cases h)) (h_nm (h_ne k2_3 k2_16 (fun h => by cases h)) h_n0))) k2_3
                    have k3_4 := frs.at (h_nm (h_ne k2_4 k2_14 (fun h => by simp at h)) (h_nm (h_ne k2_4 k2_15 (fun h => by simp at h)) (h_nm (h_ne k2_4 k2_16 (fun h => by simp at h)) h_n0))) k2_4
                    have k3_5 := frs.at (h_nm (h_ne k2_5 k2_14 (fun h => by cases h)) (h_nm (h_ne k2_5 k2_15 (fun h => by cases h)) (h_nm (h_ne k2_5 k2_16 (fun h => by cases h)) h_n0))) k2_5
                    have k3_6 := frs.at (h_nm (h_ne k2_6 k2_14 (fun h => by simp at h)) (h_nm (h_ne k2_6 k2_15 (fun h => by simp at h)) (h_nm (h_ne k2_6 k2_16 (fun h => by simp at h)) h_n0))) k2_6
                    have k3_7 := frs.at (h_nm (h_ne k2_7 k2_14 (fun h => by cases h)) (h_nm (h_ne k2_7 k2_15 (fun h => by cases h)) (h_nm (h_ne k2_7 k2_16 (fun h => by cases h)) h_n0))) k2_7
                    have k3_8 := frs.at (h_nm (h_ne k2_8 k2_14 (fun h => by cases h)) (h_nm (h_ne k2_8 k2_15 (fun h => by cases h)) (h_nm (h_ne k2_8 k2_16 (fun h => by cases h)) h_n0))) k2_8
                    have k3_9 := frs.at (h_nm (h_ne k2_9 k2_14 (fun h => by simp at h)) (h_nm (h_ne k2_9 k2_15 (fun h => by simp at h)) (h_nm (h_ne k2_9 k2_16 (fun h => by simp at h)) h_n0))) k2_9
                    have k3_10 := frs.at (h_nm (h_ne k2_10 k2_14 (fun h => by cases h)) (h_nm (h_ne k2_10 k2_15 (fun h => by cases h)) (h_nm (h_ne k2_10 k2_16 (fun h => by cases h)) h_n0))) k2_10
                    have k3_11 := frs.at (h_nm (h_ne k2_11 k2_14 (fun h => by cases h)) (h_nm (h_ne k2_11 k2_15 (fun h => by cases h)) (h_nm (h_ne k2_11 k2_16 (fun h => by cases h)) h_n0))) k2_11
                    have k3_12 := frs.at (h_nm (h_ne k2_12 k2_14 (fun h => by simp at h)) (h_nm (h_ne k2_12 k2_15 (fun h => by simp at h)) (h_nm (h_ne k2_12 k2_16 (fun h => by simp at h)) h_n0))) k2_12
                    have k3_13 := frs.at (h_nm (h_ne k2_13 k2_14 (fun h => by cases h)) (h_nm (h_ne k2_13 k2_15 (fun h => by cases h)) (h_nm (h_ne k2_13 k2_16 (fun h => by cases h)) h_n0))) k2_13
                    have k3_14 := frs.at (h_nm (h_ne k0 k2_14 (fun h => by simp at h)) (h_nm (h_ne k0 k2_15 (fun h => by simp at h)) (h_nm (h_ne k0 k2_16 (fun h => by simp at h)) h_n0))) k0
                    have k3_15 := frs.at (h_nm (h_ne k1 k2_14 (fun h => by cases h)) (h_nm (h_ne k1 k2_15 (fun h => by cases h)) (h_nm (h_ne k1 k2_16 (fun h => by cases h)) h_n0))) k1
                    have fr := fr.call frs (by simp)
                    have eo2 : rp (upd fo1 J.1.length (fB pl)) (J.1 ++ [bs.getD pl 0]) := by have := rp_snoc m7 (fB pl); rw [eB pl (by omega)] at this ⊢; exact this
                    have ec2 := m8
                    have k0_ : g_3 oc = some (.inr (5, [.ref lo, .int (nI (J.1 ++ [bs.getD pl 0]).length)])) := by rw [List.length_append]; exact k3_14
                    refine lv_iinc (v := nI (lx + 1)) (lv' := [(3, .int (nI (lx + 1))), (0, .ref mo), (1, .ref rB), (2, .int (nI ry)), (4, .int (nI pl))]) S0.1 S0.2.1 dMg_mergeUpToAnchors_124 hl (k := 3) rfl (by exact nI_add _ 1) (by decide) rfl (fun ls hl => ?_)
                    refine lv_goto (tgt := 4) S0.1 S0.2.1 dMg_mergeUpToAnchors_127 (by decide) ?_
                    exact ih_4 (lx + 1) ry (pl + 1) _ _ _ _ _ g_3 _ _ _ (by omega) (by omega) (by omega) (by rw [prs_some hpn1, take_snoc hg1, hpl]) (by omega) (fun k p hk hp l2 q hl2 hq => Nat.lt_trans (hry k p hk hp) (prs_lt (show lx < l2 by omega) (by rw [← hP1]; exact hg1) (by rw [← hP1]; exact hq))) fr (by rw [hnx]; exact k3_12) k3_13 (by rw [hnx]; exact k0_) k3_15 (by rw [hnx]; exact s1_) (by rw [hnx]; exact s2_) (by rw [hnx]; exact s3_) (by rw [hnx]; exact eo2) (by rw [hnx]; exact ec2) hg hS (lv_sub hl [1, 2, 3, 0] rfl)
              · skip
                have c_48 : ¬ (pl ≤ pr) := fun h => c_48 ((nI_leI (by omega) (by omega)).mpr h)
                refine lv_iinc (v := nI (ry + 1)) (lv' := [(2, .int (nI (ry + 1))), (0, .ref mo), (1, .ref rB), (3, .int (nI lx)), (4, .int (nI pl))]) S0.1 S0.2.1 dMg_mergeUpToAnchors_51 hl (k := 2) rfl (by exact nI_add _ 1) (by decide) rfl (fun ls hl => ?_)
                refine lv_goto (tgt := 26) S0.1 S0.2.1 dMg_mergeUpToAnchors_54 (by decide) ?_
                exact ih_26 (ry + 1) _ _ _ (by omega) (by omega) (fun k p hk hp => by rcases Nat.lt_or_ge k ry with h9 | h9; exact hry k p h9 hp; rw [show k = ry by omega] at hp; cases Option.some.inj (hg2.symm.trans hp); show pr < pl; omega) hg hS (lv_sub hl [1, 2, 0, 3, 4] rfl)
        exact loop_26 _ rx _ _ _ (Nat.lt_succ_self _) hrx (fun k p hk hp => hlt k p hk hp lx _ (Nat.le_refl _) hg1) hg hS (lv_sub hl [1, 2, 3, 4, 0] rfl)
  exact loop_4 _ 0 0 0 e1 e2 e3 fc fo g _ _ _ (Nat.lt_succ_self _) (Nat.zero_le _) (Nat.zero_le _) rfl (Nat.zero_le _) (fun k p hk => absurd hk (Nat.not_lt_zero k)) fr h0 h1 h2 h3 hp1 hp2 hp3 (rp_nil _) (rpN_nil _) hg hS (lv_sub hl [2, 3, 1, 0] rfl)
set_option maxRecDepth 100000 in
set_option maxHeartbeats 4000000 in
theorem c_Mg_run (l : Launch) (D : va_G) (cI cR cJ : ClassId) (g : Nat → Option va_E) (sz : Nat) (mo oc cc c1 c2 p1 p2 p3 lo : Nat) (rB lB cB rL lL cL rR lR cR_ : Nat) (bs lf rt : List Int32) (fB fL fR : Nat → Int32) (fc fo : Nat → Int32) (hrB : g rB = some (.inr (5, [.ref lB, .int (nI bs.length)]))) (hlB : g lB = some (.inl (cI, cB, .inl fB))) (eB : rp fB bs) (hcB : bs.length ≤ cB) (hdB : cB < 4000) (hrL : g rL = some (.inr (5, [.ref lL, .int (nI lf.length)]))) (hlL : g lL = some (.inl (cI, cL, .inl fL))) (eL : rp fL lf) (hcL : lf.length ≤ cL) (hdL : cL < 4000) (hrR : g rR = some (.inr (5, [.ref lR, .int (nI rt.length)]))) (hlR : g lR = some (.inl (cI, cR_, .inl fR))) (eR : rp fR rt) (hcR : rt.length ≤ cR_) (hdR : cR_ < 4000) (a1 b1 a2 b2 len : Nat) (fa1 fb1 fa2 fb2 : Nat → Int32) (n_rB_oc : rB ≠ oc) (n_rL_oc : rL ≠ oc) (n_rR_oc : rR ≠ oc) (n_lB_cc : lB ≠ cc) (n_lB_lo : lB ≠ lo) (n_lL_cc : lL ≠ cc) (n_lL_lo : lL ≠ lo) (n_lR_cc : lR ≠ cc) (n_lR_lo : lR ≠ lo) (n_p1_p2 : p1 ≠ p2) (n_p1_p3 : p1 ≠ p3) (n_p2_p3 : p2 ≠ p3) (n_lB_a1 : lB ≠ a1) (n_lB_b1 : lB ≠ b1) (n_lB_a2 : lB ≠ a2) (n_lB_b2 : lB ≠ b2) (n_lB_len : lB ≠ len) (n_lL_a1 : lL ≠ a1) (n_lL_b1 : lL ≠ b1) (n_lL_a2 : lL ≠ a2) (n_lL_b2 : lL ≠ b2) (n_lL_len : lL ≠ len) (n_lR_a1 : lR ≠ a1) (n_lR_b1 : lR ≠ b1) (n_lR_a2 : lR ≠ a2) (n_lR_b2 : lR ≠ b2) (n_lR_len : lR ≠ len) (n_a1_b1 : a1 ≠ b1) (n_a1_a2 : a1 ≠ a2) (n_a1_b2 : a1 ≠ b2) (n_a1_len : a1 ≠ len) (n_a1_cc : a1 ≠ cc) (n_a1_lo : a1 ≠ lo) (n_b1_a2 : b1 ≠ a2) (n_b1_b2 : b1 ≠ b2) (n_b1_len : b1 ≠ len) (n_b1_cc : b1 ≠ cc) (n_b1_lo : b1 ≠ lo) (n_a2_b2 : a2 ≠ b2) (n_a2_len : a2 ≠ len) (n_a2_cc : a2 ≠ cc) (n_a2_lo : a2 ≠ lo) (n_b2_len : b2 ≠ len) (n_b2_cc : b2 ≠ cc) (n_b2_lo : b2 ≠ lo) (n_len_cc : len ≠ cc) (n_len_lo : len ≠ lo) (n_cc_lo : cc ≠ lo) (n_c1_c2 : c1 ≠ c2) (fl : Nat → Int32) (z1 z2 z3 : Nat) (cn0 on0 u1 u2 u3 v1 v2 v3 k1 k2 : Int32) (hk1 : g c1 = some (.inr (0, [.ref a1, .ref b1, .int k1, .ref len]))) (ha1 : g a1 = some (.inl (cI, 60, .inl fa1))) (hb1 : g b1 = some (.inl (cI, 60, .inl fb1))) (hk2 : g c2 = some (.inr (0, [.ref a2, .ref b2, .int k2, .ref len]))) (ha2 : g a2 = some (.inl (cI, 60, .inl fa2))) (hb2 : g b2 = some (.inl (cI, 60, .inl fb2))) (hlen : g len = some (.inl (cI, 3721, .inl fl))) (hb60 : bs.length ≤ 60) (hl60 : lf.length ≤ 60) (hr60 : rt.length ≤ 60) (h0 : g mo = some (.inr (2, [.ref oc, .ref cc, .int cn0, .ref c1, .ref c2, .ref p1, .ref p2, .ref p3]))) (h1 : g cc = some (.inl (cI, 183, .inl fc))) (h2 : g oc = some (.inr (5, [.ref lo, .int on0]))) (h3 : g lo = some (.inl (cI, 120, .inl fo))) (hp1 : g p1 = some (.inr (3, [.ref z1, .int u1, .int v1]))) (hp2 : g p2 = some (.inr (3, [.ref z2, .int u2, .int v2]))) (hp3 : g p3 = some (.inr (3, [.ref z3, .int u3, .int v3]))) : hMv l yMg_run cMg_run 4 (hRm 5 113 0 0) D (hT cI cR cJ) g sz [.ref mo, .ref rB, .ref rL, .ref rR] (fun g1 => hfr g g1 [mo, cc, oc, lo, p1, p2, p3, c1, a1, b1, c2, a2, b2, len] ∧ ∃ (fcx fox flx ga1 gb1 ga2 gb2 : Nat → Int32) (y1 w1 y2 w2 y3 w3 q1 q2 : Int32), g1 mo = some (.inr (2, [.ref oc, .ref cc, .int (nI (mgF bs lf rt).2.length), .ref c1, .ref c2, .ref p1, .ref p2, .ref p3])) ∧ g1 cc = some (.inl (cI, 183, .inl fcx)) ∧ g1 oc = some (.inr (5, [.ref lo, .int (nI (mgF bs lf rt).1.length)])) ∧ g1 lo = some (.inl (cI, 120, .inl fox)) ∧ g1 p1 = some (.inr (3, [.ref rB, .int y1, .int w1])) ∧ g1 p2 = some (.inr (3, [.ref rL, .int y2, .int w2])) ∧ g1 p3 = some (.inr (3, [.ref rR, .int y3, .int w3])) ∧ g1 c1 = some (.inr (0, [.ref a1, .ref b1, .int q1, .ref len])) ∧ g1 a1 = some (.inl (cI, 60, .inl ga1)) ∧ g1 b1 = some (.inl (cI, 60, .inl gb1)) ∧ g1 c2 = some (.inr (0, [.ref a2, .ref b2, .int q2, .ref len])) ∧ g1 a2 = some (.inl (cI, 60, .inl ga2)) ∧ g1 b2 = some (.inl (cI, 60, .inl gb2)) ∧ g1 len = some (.inl (cI, 3721, .inl flx)) ∧ rp fox (mgF bs lf rt).1 ∧ rpN fcx (fl3 (mgF bs lf rt).2)) := by
  refine hMv_of (by decide +kernel) (Nat.le_of_ble_eq_true rfl) ?_
  intro pX eX RX sX mX argsX belowX methX cX QX AX hR S0 hnm hsz hg hK hS hA0 hend ls hl
  have hl : lv_has ls 4 [(0, .ref mo), (1, .ref rB), (2, .ref rL), (3, .ref rR)] := hl
  have fr : hfr g g [mo, cc, oc, lo, p1, p2, p3, c1, a1, b1, c2, a2, b2, len] := hfr.rf
  refine lv_aload_n S0.1 S0.2.1 dMg_run_0 rfl (lv_at hl 0 rfl) ?_
  refine hw_get S0 hK hg h0 rfl inMg 3 (by decide) lf_Mg_28 rfl rfl dMg_run_1 ?_
  refine lv_aload_n S0.1 S0.2.1 dMg_run_4 rfl (lv_at hl 1 rfl) ?_
  refine lv_aload_n S0.1 S0.2.1 dMg_run_5 rfl (lv_at hl 2 rfl) ?_
  refine hw_Vv (As := [.ref rB, .ref rL]) (rest := []) S0 hK hg hS hA0 hk1 rfl (c_Co_find l D cI cR cJ g _ c1 a1 b1 len rB lB cB rL lL cL k1 bs lf fB fL fl hk1 hlen hrB hlB hrL hlL eB eL n_lB_len n_lL_len hb60 hl60 hcB hcL hdB hdL fa1 fb1 ha1 hb1 n_lB_a1 n_lB_b1 n_lL_a1 n_lL_b1 n_a1_b1 n_a1_len n_b1_len) kCo_find lm_Mg_48 (hR.call rfl) rfl hl.1 rfl (Nat.le_of_ble_eq_true rfl) dMg_run_6 (hR.new (by decide) (by decide)) (fun g_1 H locs hp_6 hg hS => ?_)
  obtain ⟨fr1, A1, B1, L1, c01, c11, c21, c31, c41, c51⟩ := hp_6
  have k1_0 := fr1.at (h_nm (h_ne h0 hk1 (fun h => by simp at h)) (h_nm (h_ne h0 ha1 (fun h => by cases h)) (h_nm (h_ne h0 hb1 (fun h => by cases h)) (h_nm (h_ne h0 hlen (fun h => by cases h)) h_n0)))) h0
  have k1_1 := fr1.at (h_nm (h_ne h1 hk1 (fun h => by cases h)) (h_nm (Ne.symm n_a1_cc) (h_nm (Ne.symm n_b1_cc) (h_nm (Ne.symm n_len_cc) h_n0)))) h1
  have k1_2 := fr1.at (h_nm (h_ne h2 hk1 (fun h => by simp at h)) (h_nm (h_ne h2 ha1 (fun h => by cases h)) (h_nm (h_ne h2 hb1 (fun h => by cases h)) (h_nm (h_ne h2 hlen (fun h => by cases h)) h_n0)))) h2
  have k1_3 := fr1.at (h_nm (h_ne h3 hk1 (fun h => by cases h)) (h_nm (Ne.symm n_a1_lo) (h_nm (Ne.symm n_b1_lo) (h_nm (Ne.symm n_len_lo) h_n0)))) h3
  have k1_4 := fr1.at (h_nm (h_ne hp1 hk1 (fun h => by simp at h)) (h_nm (h_ne hp1 ha1 (fun h => by cases h)) (h_nm (h_ne hp1 hb1 (fun h => by cases h)) (h_nm (h_ne hp1 hlen (fun h => by cases h)) h_n0)))) hp1
  have k1_5 := fr1.at (h_nm (h_ne hp2 hk1 (fun h => by simp at h)) (h_nm (h_ne hp2 ha1 (fun h => by cases h)) (h_nm (h_ne hp2 hb1 (fun h => by cases h)) (h_nm (h_ne hp2 hlen (fun h => by cases h)) h_n0)))) hp2
  have k1_6 := fr1.at (h_nm (h_ne hp3 hk1 (fun h => by simp at h)) (h_nm (h_ne hp3 ha1 (fun h => by cases h)) (h_nm (h_ne hp3 hb1 (fun h => by cases h)) (h_nm (h_ne hp3 hlen (fun h => by cases h)) h_n0)))) hp3
  have k1_7 := fr1.at (h_nm (h_ne hrB hk1 (fun h => by simp at h)) (h_nm (h_ne hrB ha1 (fun h => by cases h)) (h_nm (h_ne hrB hb1 (fun h => by cases h)) (h_nm (h_ne hrB hlen (fun h => by cases h)) h_n0)))) hrB
  have k1_8 := fr1.at (h_nm (h_ne hlB hk1 (fun h => by cases h)) (h_nm n_lB_a1 (h_nm n_lB_b1 (h_nm n_lB_len h_n0)))) hlB
  have k1_9 := fr1.at (h_nm (h_ne hrL hk1 (fun h => by simp at h)) (h_nm (h_ne hrL ha1 (fun h => by cases h)) (h_nm (h_ne hrL hb1 (fun h => by cases h)) (h_nm (h_ne hrL hlen (fun h => by cases h)) h_n0)))) hrL
  have k1_10 := fr1.at (h_nm (h_ne hlL hk1 (fun h => by cases h)) (h_nm n_lL_a1 (h_nm n_lL_b1 (h_nm n_lL_len h_n0)))) hlL
  have k1_11 := fr1.at (h_nm (h_ne hrR hk1 (fun h => by simp at h)) (h_nm (h_ne hrR ha1 (fun h => by cases h)) (h_nm (h_ne hrR hb1 (fun h => by cases h)) (h_nm (h_ne hrR hlen (fun h => by cases h)) h_n0)))) hrR
  have k1_12 := fr1.at (h_nm (h_ne hlR hk1 (fun h => by cases h)) (h_nm n_lR_a1 (h_nm n_lR_b1 (h_nm n_lR_len h_n0)))) hlR
  have k1_13 := fr1.at (h_nm (Ne.symm n_c1_c2) (h_nm (h_ne hk2 ha1 (fun h => by cases h)) (h_nm (h_ne hk2 hb1 (fun h => by cases h)) (h_nm (h_ne hk2 hlen (fun h => by cases h)) h_n0)))) hk2
  have k1_14 := fr1.at (h_nm (h_ne ha2 hk1 (fun h => by cases h)) (h_nm (Ne.symm n_a1_a2) (h_nm (Ne.symm n_b1_a2) (h_nm n_a2_len h_n0)))) ha2
  have k1_15 := fr1.at (h_nm (h_ne hb2 hk1 (fun h => by cases h)) (h_nm (Ne.symm n_a1_b2) (h_nm (Ne.symm n_b1_b2) (h_nm n_b2_len h_n0)))) hb2
  have fr := fr.call fr1 (by simp)
  refine lv_aload_n S0.1 S0.2.1 dMg_run_9 rfl (lv_at hl 0 rfl) ?_
  refine hw_get S0 hK hg k1_0 rfl inMg 4 (by decide) lf_Mg_32 rfl rfl dMg_run_10 ?_
  refine lv_aload_n S0.1 S0.2.1 dMg_run_13 rfl (lv_at hl 1 rfl) ?_
  refine lv_aload_n S0.1 S0.2.1 dMg_run_14 rfl (lv_at hl 3 rfl) ?_
  refine hw_Vv (As := [.ref rB, .ref rR]) (rest := []) S0 hK hg hS hA0 k1_13 rfl (c_Co_find l D cI cR cJ g_1 _ c2 a2 b2 len rB lB cB rR lR cR_ k2 bs rt fB fR L1 k1_13 c31 k1_7 k1_8 k1_11 k1_12 eB eR n_lB_len n_lR_len hb60 hr60 hcB hcR hdB hdR fa2 fb2 k1_14 k1_15 n_lB_a2 n_lB_b2 n_lR_a2 n_lR_b2 n_a2_b2 n_a2_len n_b2_len) kCo_find lm_Mg_48 (hR.call rfl) rfl hl.1 rfl (Nat.le_of_ble_eq_true rfl) dMg_run_15 (hR.new (by decide) (by decide)) (fun g_2 H locs hp_15 hg hS => ?_)
  obtain ⟨fr2, A2, B2, L2, c02, c12, c22, c32, c42, c52⟩ := hp_15
  have k2_0 := fr2.at (h_nm (h_ne k1_0 k1_13 (fun h => by simp at h)) (h_nm (h_ne k1_0 k1_14 (fun h => by cases h)) (h_nm (h_ne k1_0 k1_15 (fun h => by cases h)) (h_nm (h_ne k1_0 c31 (fun h => by cases h)) h_n0)))) k1_0
  have k2_1 := fr2.at (h_nm (h_ne k1_1 k1_13 (fun h => by cases h)) (h_nm (Ne.symm n_a2_cc) (h_nm (Ne.symm n_b2_cc) (h_nm (Ne.symm n_len_cc) h_n0)))) k1_1
  have k2_2 := fr2.at (h_nm (h_ne k1_2 k1_13 (fun h => by simp at h)) (h_nm (h_ne k1_2 k1_14 (fun h => by cases h)) (h_nm (h_ne k1_2 k1_15 (fun h => by cases h)) (h_nm (h_ne k1_2 c31 (fun h => by cases h)) h_n0)))) k1_2
  have k2_3 := fr2.at (h_nm (h_ne k1_3 k1_13 (fun h => by cases h)) (h_nm (Ne.symm n_a2_lo) (h_nm (Ne.symm n_b2_lo) (h_nm (Ne.symm n_len_lo) h_n0)))) k1_3
  have k2_4 := fr2.at (h_nm (h_ne k1_4 k1_13 (fun h => by simp at h)) (h_nm (h_ne k1_4 k1_14 (fun h => by cases h)) (h_nm (h_ne k1_4 k1_15 (fun h => by cases h)) (h_nm (h_ne k1_4 c31 (fun h => by cases h)) h_n0)))) k1_4
  have k2_5 := fr2.at (h_nm (h_ne k1_5 k1_13 (fun h => by simp at h)) (h_nm (h_ne k1_5 k1_14 (fun h => by cases h)) (h_nm (h_ne k1_5 k1_15 (fun h => by cases h)) (h_nm (h_ne k1_5 c31 (fun h => by cases h)) h_n0)))) k1_5
  have k2_6 := fr2.at (h_nm (h_ne k1_6 k1_13 (fun h => by simp at h)) (h_nm (h_ne k1_6 k1_14 (fun h => by cases h)) (h_nm (h_ne k1_6 k1_15 (fun h => by cases h)) (h_nm (h_ne k1_6 c31 (fun h => by cases h)) h_n0)))) k1_6
  have k2_7 := fr2.at (h_nm (h_ne k1_7 k1_13 (fun h => by simp at h)) (h_nm (h_ne k1_7 k1_14 (fun h => by cases h)) (h_nm (h_ne k1_7 k1_15 (fun h => by cases h)) (h_nm (h_ne k1_7 c31 (fun h => by cases h)) h_n0)))) k1_7
  have k2_8 := fr2.at (h_nm (h_ne k1_8 k1_13 (fun h => by cases h)) (h_nm n_lB_a2 (h_nm n_lB_b2 (h_nm n_lB_len h_n0)))) k1_8
  have k2_9 := fr2.at (h_nm (h_ne k1_9 k1_13 (fun h => by simp at h)) (h_nm (h_ne k1_9 k1_14 (fun h => by cases h)) (h_nm (h_ne k1_9 k1_15 (fun h => by cases h)) (h_nm (h_ne k1_9 c31 (fun h => by cases h)) h_n0)))) k1_9
  have k2_10 := fr2.at (h_nm (h_ne k1_10 k1_13 (fun h => by cases h)) (h_nm n_lL_a2 (h_nm n_lL_b2 (h_nm n_lL_len h_n0)))) k1_10
  have k2_11 := fr2.at (h_nm (h_ne k1_11 k1_13 (fun h => by simp at h)) (h_nm (h_ne k1_11 k1_14 (fun h => by cases h)) (h_nm (h_ne k1_11 k1_15 (fun h => by cases h)) (h_nm (h_ne k1_11 c31 (fun h => by cases h)) h_n0)))) k1_11
  have k2_12 := fr2.at (h_nm (h_ne k1_12 k1_13 (fun h => by cases h)) (h_nm n_lR_a2 (h_nm n_lR_b2 (h_nm n_lR_len h_n0)))) k1_12
  have k2_13 := fr2.at (h_nm n_c1_c2 (h_nm (h_ne c01 k1_14 (fun h => by cases h)) (h_nm (h_ne c01 k1_15 (fun h => by cases h)) (h_nm (h_ne c01 c31 (fun h => by cases h)) h_n0)))) c01
  have k2_14 := fr2.at (h_nm (h_ne c11 k1_13 (fun h => by cases h)) (h_nm n_a1_a2 (h_nm n_a1_b2 (h_nm n_a1_len h_n0)))) c11
  have k2_15 := fr2.at (h_nm (h_ne c21 k1_13 (fun h => by cases h)) (h_nm n_b1_a2 (h_nm n_b1_b2 (h_nm n_b1_len h_n0)))) c21
  have fr := fr.call fr2 (by simp)
  refine lv_aload_n S0.1 S0.2.1 dMg_run_18 rfl (lv_at hl 0 rfl) ?_
  refine hw_get S0 hK hg k2_0 rfl inMg 0 (by decide) lf_Mg_14 rfl rfl dMg_run_19 ?_
  refine lv_iconst (v := nI 0) S0.1 S0.2.1 dMg_run_22 (by decide) ?_
  refine hw_put S0 hK hg hS k2_2 rfl inRo tyRo tokRo nmRo 1 (by decide) lf_Mg_54 rfl rfl rfl rfl (Nat.le_of_ble_eq_true rfl) dMg_run_23 (fun H locs hg hS => ?_)
  obtain ⟨g_3, eg_3⟩ : ∃ z, z = hs g_2 oc (.inr (5, [.ref lo, .int (nI 0)])) := ⟨_, rfl⟩
  have hg : hw D hC AX g_3 H := by rw [eg_3]; exact hg
  have f3_0 : g_3 mo = some (.inr (2, [.ref oc, .ref cc, .int cn0, .ref c1, .ref c2, .ref p1, .ref p2, .ref p3])) := by rw [eg_3, hs_n _ _ (h_ne k2_0 k2_2 (fun h => by simp at h))]; exact k2_0
  have f3_1 : g_3 cc = some (.inl (cI, 183, .inl fc)) := by rw [eg_3, hs_n _ _ (h_ne k2_1 k2_2 (fun h => by cases h))]; exact k2_1
  have f3_2 : g_3 lo = some (.inl (cI, 120, .inl fo)) := by rw [eg_3, hs_n _ _ (h_ne k2_3 k2_2 (fun h => by cases h))]; exact k2_3
  have f3_3 : g_3 p1 = some (.inr (3, [.ref z1, .int u1, .int v1])) := by rw [eg_3, hs_n _ _ (h_ne k2_4 k2_2 (fun h => by simp at h))]; exact k2_4
  have f3_4 : g_3 p2 = some (.inr (3, [.ref z2, .int u2, .int v2])) := by rw [eg_3, hs_n _ _ (h_ne k2_5 k2_2 (fun h => by simp at h))]; exact k2_5
  have f3_5 : g_3 p3 = some (.inr (3, [.ref z3, .int u3, .int v3])) := by rw [eg_3, hs_n _ _ (h_ne k2_6 k2_2 (fun h => by simp at h))]; exact k2_6
  have f3_6 : g_3 rB = some (.inr (5, [.ref lB, .int (nI bs.length)])) := by rw [eg_3, hs_n _ _ n_rB_oc]; exact k2_7
  have f3_7 : g_3 lB = some (.inl (cI, cB, .inl fB)) := by rw [eg_3, hs_n _ _ (h_ne k2_8 k2_2 (fun h => by cases h))]; exact k2_8
  have f3_8 : g_3 rL = some (.inr (5, [.ref lL, .int (nI lf.length)])) := by rw [eg_3, hs_n _ _ n_rL_oc]; exact k2_9
  have f3_9 : g_3 lL = some (.inl (cI, cL, .inl fL)) := by rw [eg_3, hs_n _ _ (h_ne k2_10 k2_2 (fun h => by cases h))]; exact k2_10
  have f3_10 : g_3 rR = some (.inr (5, [.ref lR, .int (nI rt.length)])) := by rw [eg_3, hs_n _ _ n_rR_oc]; exact k2_11
  have f3_11 : g_3 lR = some (.inl (cI, cR_, .inl fR)) := by rw [eg_3, hs_n _ _ (h_ne k2_12 k2_2 (fun h => by cases h))]; exact k2_12
  have f3_12 : g_3 c1 = some (.inr (0, [.ref a1, .ref b1, .int (nI ((prs bs lf bs.length).length)), .ref len])) := by rw [eg_3, hs_n _ _ (h_ne k2_13 k2_2 (fun h => by simp at h))]; exact k2_13
  have f3_13 : g_3 a1 = some (.inl (cI, 60, .inl A1)) := by rw [eg_3, hs_n _ _ (h_ne k2_14 k2_2 (fun h => by cases h))]; exact k2_14
  have f3_14 : g_3 b1 = some (.inl (cI, 60, .inl B1)) := by rw [eg_3, hs_n _ _ (h_ne k2_15 k2_2 (fun h => by cases h))]; exact k2_15
  have f3_15 : g_3 c2 = some (.inr (0, [.ref a2, .ref b2, .int (nI ((prs bs rt bs.length).length)), .ref len])) := by rw [eg_3, hs_n _ _ (h_ne c02 k2_2 (fun h => by simp at h))]; exact c02
  have f3_16 : g_3 a2 = some (.inl (cI, 60, .inl A2)) := by rw [eg_3, hs_n _ _ (h_ne c12 k2_2 (fun h => by cases h))]; exact c12
  have f3_17 : g_3 b2 = some (.inl (cI, 60, .inl B2)) := by rw [eg_3, hs_n _ _ (h_ne c22 k2_2 (fun h => by cases h))]; exact c22
  have f3_18 : g_3 len = some (.inl (cI, 3721, .inl L2)) := by rw [eg_3, hs_n _ _ (h_ne c32 k2_2 (fun h => by cases h))]; exact c32
  have f3_19 : g_3 oc = some (.inr (5, [.ref lo, .int (nI 0)])) := by rw [eg_3]; exact hs_s _ _ _
  have fr := fr.put eg_3 (by simp)
  refine lv_aload_n S0.1 S0.2.1 dMg_run_26 rfl (lv_at hl 0 rfl) ?_
  refine lv_iconst (v := nI 0) S0.1 S0.2.1 dMg_run_27 (by decide) ?_
  refine hw_put S0 hK hg hS f3_0 rfl inMg tyMg tokMg nmMg 2 (by decide) lf_Mg_24 rfl rfl rfl rfl (Nat.le_of_ble_eq_true rfl) dMg_run_28 (fun H locs hg hS => ?_)
  obtain ⟨g_4, eg_4⟩ : ∃ z, z = hs g_3 mo (.inr (2, [.ref oc, .ref cc, .int (nI 0), .ref c1, .ref c2, .ref p1, .ref p2, .ref p3])) := ⟨_, rfl⟩
  have hg : hw D hC AX g_4 H := by rw [eg_4]; exact hg
  have f4_0 : g_4 cc = some (.inl (cI, 183, .inl fc)) := by rw [eg_4, hs_n _ _ (h_ne f3_1 f3_0 (fun h => by cases h))]; exact f3_1
  have f4_1 : g_4 lo = some (.inl (cI, 120, .inl fo)) := by rw [eg_4, hs_n _ _ (h_ne f3_2 f3_0 (fun h => by cases h))]; exact f3_2
  have f4_2 : g_4 p1 = some (.inr (3, [.ref z1, .int u1, .int v1])) := by rw [eg_4, hs_n _ _ (h_ne f3_3 f3_0 (fun h => by simp at h))]; exact f3_3
  have f4_3 : g_4 p2 = some (.inr (3, [.ref z2, .int u2, .int v2])) := by rw [eg_4, hs_n _ _ (h_ne f3_4 f3_0 (fun h => by simp at h))]; exact f3_4
  have f4_4 : g_4 p3 = some (.inr (3, [.ref z3, .int u3, .int v3])) := by rw [eg_4, hs_n _ _ (h_ne f3_5 f3_0 (fun h => by simp at h))]; exact f3_5
  have f4_5 : g_4 rB = some (.inr (5, [.ref lB, .int (nI bs.length)])) := by rw [eg_4, hs_n _ _ (h_ne f3_6 f3_0 (fun h => by simp at h))]; exact f3_6
  have f4_6 : g_4 lB = some (.inl (cI, cB, .inl fB)) := by rw [eg_4, hs_n _ _ (h_ne f3_7 f3_0 (fun h => by cases h))]; exact f3_7
  have f4_7 : g_4 rL = some (.inr (5, [.ref lL, .int (nI lf.length)])) := by rw [eg_4, hs_n _ _ (h_ne f3_8 f3_0 (fun h => by simp at h))]; exact f3_8
  have f4_8 : g_4 lL = some (.inl (cI, cL, .inl fL)) := by rw [eg_4, hs_n _ _ (h_ne f3_9 f3_0 (fun h => by cases h))]; exact f3_9
  have f4_9 : g_4 rR = some (.inr (5, [.ref lR, .int (nI rt.length)])) := by rw [eg_4, hs_n _ _ (h_ne f3_10 f3_0 (fun h => by simp at h))]; exact f3_10
  have f4_10 : g_4 lR = some (.inl (cI, cR_, .inl fR)) := by rw [eg_4, hs_n _ _ (h_ne f3_11 f3_0 (fun h => by cases h))]; exact f3_11
  have f4_11 : g_4 c1 = some (.inr (0, [.ref a1, .ref b1, .int (nI ((prs bs lf bs.length).length)), .ref len])) := by rw [eg_4, hs_n _ _ (h_ne f3_12 f3_0 (fun h => by simp at h))]; exact f3_12
  have f4_12 : g_4 a1 = some (.inl (cI, 60, .inl A1)) := by rw [eg_4, hs_n _ _ (h_ne f3_13 f3_0 (fun h => by cases h))]; exact f3_13
  have f4_13 : g_4 b1 = some (.inl (cI, 60, .inl B1)) := by rw [eg_4, hs_n _ _ (h_ne f3_14 f3_0 (fun h => by cases h))]; exact f3_14
  have f4_14 : g_4 c2 = some (.inr (0, [.ref a2, .ref b2, .int (nI ((prs bs rt bs.length).length)), .ref len])) := by rw [eg_4, hs_n _ _ (h_ne f3_15 f3_0 (fun h => by simp at h))]; exact f3_15
  have f4_15 : g_4 a2 = some (.inl (cI, 60, .inl A2)) := by rw [eg_4, hs_n _ _ (h_ne f3_16 f3_0 (fun h => by cases h))]; exact f3_16
  have f4_16 : g_4 b2 = some (.inl (cI, 60, .inl B2)) := by rw [eg_4, hs_n _ _ (h_ne f3_17 f3_0 (fun h => by cases h))]; exact f3_17
  have f4_17 : g_4 len = some (.inl (cI, 3721, .inl L2)) := by rw [eg_4, hs_n _ _ (h_ne f3_18 f3_0 (fun h => by cases h))]; exact f3_18
  have f4_18 : g_4 oc = some (.inr (5, [.ref lo, .int (nI 0)])) := by rw [eg_4, hs_n _ _ (h_ne f3_19 f3_0 (fun h => by simp at h))]; exact f3_19
  have f4_19 : g_4 mo = some (.inr (2, [.ref oc, .ref cc, .int (nI 0), .ref c1, .ref c2, .ref p1, .ref p2, .ref p3])) := by rw [eg_4]; exact hs_s _ _ _
  have fr := fr.put eg_4 (by simp)
  refine lv_aload_n S0.1 S0.2.1 dMg_run_31 rfl (lv_at hl 0 rfl) ?_
  refine hw_get S0 hK hg f4_19 rfl inMg 5 (by decide) lf_Mg_38 rfl rfl dMg_run_32 ?_
  refine lv_aload_n S0.1 S0.2.1 dMg_run_35 rfl (lv_at hl 1 rfl) ?_
  refine hw_Vv (As := [.ref rB]) (rest := []) S0 hK hg hS hA0 f4_2 rfl (c_Pa_startOn l D cI cR cJ g_4 _ p1 rB _ _ _ f4_2) kPa_startOn lm_Mg_57 (hR.call rfl) rfl hl.1 rfl (Nat.le_of_ble_eq_true rfl) dMg_run_36 (hR.new (by decide) (by decide)) (fun g_5 H locs hp_36 hg hS => ?_)
  obtain ⟨frp1, sp1⟩ := hp_36
  have k5_0 := frp1.at (h_nm (h_ne f4_0 f4_2 (fun h => by cases h)) h_n0) f4_0
  have k5_1 := frp1.at (h_nm (h_ne f4_1 f4_2 (fun h => by cases h)) h_n0) f4_1
  have k5_2 := frp1.at (h_nm (Ne.symm n_p1_p2) h_n0) f4_3
  have k5_3 := frp1.at (h_nm (Ne.symm n_p1_p3) h_n0) f4_4
  have k5_4 := frp1.at (h_nm (h_ne f4_5 f4_2 (fun h => by simp at h)) h_n0) f4_5
  have k5_5 := frp1.at (h_nm (h_ne f4_6 f4_2 (fun h => by cases h)) h_n0) f4_6
  have k5_6 := frp1.at (h_nm (h_ne f4_7 f4_2 (fun h => by simp at h)) h_n0) f4_7
  have k5_7 := frp1.at (h_nm (h_ne f4_8 f4_2 (fun h => by cases h)) h_n0) f4_8
  have k5_8 := frp1.at (h_nm (h_ne f4_9 f4_2 (fun h => by simp at h)) h_n0) f4_9
  have k5_9 := frp1.at (h_nm (h_ne f4_10 f4_2 (fun h => by cases h)) h_n0) f4_10
  have k5_10 := frp1.at (h_nm (h_ne f4_11 f4_2 (fun h => by simp at h)) h_n0) f4_11
  have k5_11 := frp1.at (h_nm (h_ne f4_12 f4_2 (fun h => by cases h)) h_n0) f4_12
  have k5_12 := frp1.at (h_nm (h_ne f4_13 f4_2 (fun h => by cases h)) h_n0) f4_13
  have k5_13 := frp1.at (h_nm (h_ne f4_14 f4_2 (fun h => by simp at h)) h_n0) f4_14
  have k5_14 := frp1.at (h_nm (h_ne f4_15 f4_2 (fun h => by cases h)) h_n0) f4_15
  have k5_15 := frp1.at (h_nm (h_ne f4_16 f4_2 (fun h => by cases h)) h_n0) f4_16
  have k5_16 := frp1.at (h_nm (h_ne f4_17 f4_2 (fun h => by cases h)) h_n0) f4_17
  have k5_17 := frp1.at (h_nm (h_ne f4_18 f4_2 (fun h => by simp at h)) h_n0) f4_18
  have k5_18 := frp1.at (h_nm (h_ne f4_19 f4_2 (fun h => by simp at h)) h_n0) f4_19
  have fr := fr.call frp1 (by simp)
  refine lv_aload_n S0.1 S0.2.1 dMg_run_39 rfl (lv_at hl 0 rfl) ?_
  refine hw_get S0 hK hg k5_18 rfl inMg 6 (by decide) lf_Mg_42 rfl rfl dMg_run_40 ?_
  refine lv_aload_n S0.1 S0.2.1 dMg_run_43 rfl (lv_at hl 2 rfl) ?_
  refine hw_Vv (As := [.ref rL]) (rest := []) S0 hK hg hS hA0 k5_2 rfl (c_Pa_startOn l D cI cR cJ g_5 _ p2 rL _ _ _ k5_2) kPa_startOn lm_Mg_57 (hR.call rfl) rfl hl.1 rfl (Nat.le_of_ble_eq_true rfl) dMg_run_44 (hR.new (by decide) (by decide)) (fun g_6 H locs hp_44 hg hS => ?_)
  obtain ⟨frp2, sp2⟩ := hp_44
  have k6_0 := frp2.at (h_nm (h_ne k5_0 k5_2 (fun h => by cases h)) h_n0) k5_0
  have k6_1 := frp2.at (h_nm (h_ne k5_1 k5_2 (fun h => by cases h)) h_n0) k5_1
  have k6_2 := frp2.at (h_nm (Ne.symm n_p2_p3) h_n0) k5_3
  have k6_3 := frp2.at (h_nm (h_ne k5_4 k5_2 (fun h => by simp at h)) h_n0) k5_4
  have k6_4 := frp2.at (h_nm (h_ne k5_5 k5_2 (fun h => by cases h)) h_n0) k5_5
  have k6_5 := frp2.at (h_nm (h_ne k5_6 k5_2 (fun h => by simp at h)) h_n0) k5_6
  have k6_6 := frp2.at (h_nm (h_ne k5_7 k5_2 (fun h => by cases h)) h_n0) k5_7
  have k6_7 := frp2.at (h_nm (h_ne k5_8 k5_2 (fun h => by simp at h)) h_n0) k5_8
  have k6_8 := frp2.at (h_nm (h_ne k5_9 k5_2 (fun h => by cases h)) h_n0) k5_9
  have k6_9 := frp2.at (h_nm (h_ne k5_10 k5_2 (fun h => by simp at h)) h_n0) k5_10
  have k6_10 := frp2.at (h_nm (h_ne k5_11 k5_2 (fun h => by cases h)) h_n0) k5_11
  have k6_11 := frp2.at (h_nm (h_ne k5_12 k5_2 (fun h => by cases h)) h_n0) k5_12
  have k6_12 := frp2.at (h_nm (h_ne k5_13 k5_2 (fun h => by simp at h)) h_n0) k5_13
  have k6_13 := frp2.at (h_nm (h_ne k5_14 k5_2 (fun h => by cases h)) h_n0) k5_14
  have k6_14 := frp2.at (h_nm (h_ne k5_15 k5_2 (fun h => by cases h)) h_n0) k5_15
  have k6_15 := frp2.at (h_nm (h_ne k5_16 k5_2 (fun h => by cases h)) h_n0) k5_16
  have k6_16 := frp2.at (h_nm (h_ne k5_17 k5_2 (fun h => by simp at h)) h_n0) k5_17
  have k6_17 := frp2.at (h_nm (h_ne k5_18 k5_2 (fun h => by simp at h)) h_n0) k5_18
  have k6_18 := frp2.at (h_nm n_p1_p2 h_n0) sp1
  have fr := fr.call frp2 (by simp)
  refine lv_aload_n S0.1 S0.2.1 dMg_run_47 rfl (lv_at hl 0 rfl) ?_
  refine hw_get S0 hK hg k6_17 rfl inMg 7 (by decide) lf_Mg_45 rfl rfl dMg_run_48 ?_
  refine lv_aload_n S0.1 S0.2.1 dMg_run_51 rfl (lv_at hl 3 rfl) ?_
  refine hw_Vv (As := [.ref rR]) (rest := []) S0 hK hg hS hA0 k6_2 rfl (c_Pa_startOn l D cI cR cJ g_6 _ p3 rR _ _ _ k6_2) kPa_startOn lm_Mg_57 (hR.call rfl) rfl hl.1 rfl (Nat.le_of_ble_eq_true rfl) dMg_run_52 (hR.new (by decide) (by decide)) (fun g_7 H locs hp_52 hg hS => ?_)
  obtain ⟨frp3, sp3⟩ := hp_52
  have k7_0 := frp3.at (h_nm (h_ne k6_0 k6_2 (fun h => by cases h)) h_n0) k6_0
  have k7_1 := frp3.at (h_nm (h_ne k6_1 k6_2 (fun h => by cases h)) h_n0) k6_1
  have k7_2 := frp3.at (h_nm (h_ne k6_3 k6_2 (fun h => by simp at h)) h_n0) k6_3
  have k7_3 := frp3.at (h_nm (h_ne k6_4 k6_2 (fun h => by cases h)) h_n0) k6_4
  have k7_4 := frp3.at (h_nm (h_ne k6_5 k6_2 (fun h => by simp at h)) h_n0) k6_5
  have k7_5 := frp3.at (h_nm (h_ne k6_6 k6_2 (fun h => by cases h)) h_n0) k6_6
  have k7_6 := frp3.at (h_nm (h_ne k6_7 k6_2 (fun h => by simp at h)) h_n0) k6_7
  have k7_7 := frp3.at (h_nm (h_ne k6_8 k6_2 (fun h => by cases h)) h_n0) k6_8
  have k7_8 := frp3.at (h_nm (h_ne k6_9 k6_2 (fun h => by simp at h)) h_n0) k6_9
  have k7_9 := frp3.at (h_nm (h_ne k6_10 k6_2 (fun h => by cases h)) h_n0) k6_10
  have k7_10 := frp3.at (h_nm (h_ne k6_11 k6_2 (fun h => by cases h)) h_n0) k6_11
  have k7_11 := frp3.at (h_nm (h_ne k6_12 k6_2 (fun h => by simp at h)) h_n0) k6_12
  have k7_12 := frp3.at (h_nm (h_ne k6_13 k6_2 (fun h => by cases h)) h_n0) k6_13
  have k7_13 := frp3.at (h_nm (h_ne k6_14 k6_2 (fun h => by cases h)) h_n0) k6_14
  have k7_14 := frp3.at (h_nm (h_ne k6_15 k6_2 (fun h => by cases h)) h_n0) k6_15
  have k7_15 := frp3.at (h_nm (h_ne k6_16 k6_2 (fun h => by simp at h)) h_n0) k6_16
  have k7_16 := frp3.at (h_nm (h_ne k6_17 k6_2 (fun h => by simp at h)) h_n0) k6_17
  have k7_17 := frp3.at (h_nm n_p1_p3 h_n0) k6_18
  have k7_18 := frp3.at (h_nm n_p2_p3 h_n0) sp2
  have fr := fr.call frp3 (by simp)
  refine lv_aload_n S0.1 S0.2.1 dMg_run_55 rfl (lv_at hl 0 rfl) ?_
  refine lv_aload_n S0.1 S0.2.1 dMg_run_56 rfl (lv_at hl 1 rfl) ?_
  refine hw_Vv (As := [.ref rB]) (rest := []) S0 hK hg hS hA0 k7_16 rfl (c_Mg_mergeUpToAnchors l D cI cR cJ g_7 _ mo oc cc c1 c2 p1 p2 p3 lo rB lB cB rL lL cL rR lR cR_ bs lf rt fB fL fR fc fo k7_2 k7_3 eB hcB hdB k7_4 k7_5 eL hcL hdL k7_6 k7_7 eR hcR hdR n_rB_oc n_rL_oc n_rR_oc n_lB_cc n_lB_lo n_lL_cc n_lL_lo n_lR_cc n_lR_lo (Ne.symm n_cc_lo) n_p1_p2 n_p1_p3 n_p2_p3 a1 b1 a2 b2 len A1 B1 A2 B2 n_a1_cc n_a1_lo n_b1_cc n_b1_lo n_a2_cc n_a2_lo n_b2_cc n_b2_lo (prs bs lf bs.length) (prs bs rt bs.length) rfl rfl k7_8 k7_9 k7_10 c41 c51 k7_11 k7_12 k7_13 c42 c52 hb60 hl60 hr60 _ _ _ k7_16 k7_0 k7_15 k7_1 k7_17 k7_18 sp3) kMg_mergeUpToAnchors lm_Mg_61 (hR.call rfl) rfl hl.1 rfl (Nat.le_of_ble_eq_true rfl) dMg_run_57 (hR.new (by decide) (by decide)) (fun g_8 H locs hp_57 hg hS => ?_)
  obtain ⟨fru, x1, x2, x3, fcx, fox, m0, m1, m2, m3, m4, m5, m6, m7, m8⟩ := hp_57
  have k8_0 := fru.at (h_nm (h_ne k7_2 k7_16 (fun h => by simp at h)) (h_nm (h_ne k7_2 k7_0 (fun h => by cases h)) (h_nm n_rB_oc (h_nm (h_ne k7_2 k7_1 (fun h => by cases h)) (h_nm (h_ne k7_2 k7_17 (fun h => by simp at h)) (h_nm (h_ne k7_2 k7_18 (fun h => by simp at h)) (h_nm (h_ne k7_2 sp3 (fun h => by simp at h)) h_n0))))))) k7_2
  have k8_1 := fru.at (h_nm (h_ne k7_3 k7_16 (fun h => by cases h)) (h_nm n_lB_cc (h_nm (h_ne k7_3 k7_15 (fun h => by cases h)) (h_nm n_lB_lo (h_nm (h_ne k7_3 k7_17 (fun h => by cases h)) (h_nm (h_ne k7_3 k7_18 (fun h => by cases h)) (h_nm (h_ne k7_3 sp3 (fun h => by cases h)) h_n0))))))) k7_3
  have k8_2 := fru.at (h_nm (h_ne k7_4 k7_16 (fun h => by simp at h)) (h_nm (h_ne k7_4 k7_0 (fun h => by cases h)) (h_nm n_rL_oc (h_nm (h_ne k7_4 k7_1 (fun h => by cases h)) (h_nm (h_ne k7_4 k7_17 (fun h => by simp at h)) (h_nm (h_ne k7_4 k7_18 (fun h => by simp at h)) (h_nm (h_ne k7_4 sp3 (fun h => by simp at h)) h_n0))))))) k7_4
  have k8_3 := fru.at (h_nm (h_ne k7_5 k7_16 (fun h => by cases h)) (h_nm n_lL_cc (h_nm (h_ne k7_5 k7_15 (fun h => by cases h)) (h_nm n_lL_lo (h_nm (h_ne k7_5 k7_17 (fun h => by cases h)) (h_nm (h_ne k7_5 k7_18 (fun h => by cases h)) (h_nm (h_ne k7_5 sp3 (fun h => by cases h)) h_n0))))))) k7_5
  have k8_4 := fru.at (h_nm (h_ne k7_6 k7_16 (fun h => by simp at h)) (h_nm (h_ne k7_6 k7_0 (fun h => by cases h)) (h_nm n_rR_oc (h_nm (h_ne k7_6 k7_1 (fun h => by cases h)) (h_nm (h_ne k7_6 k7_17 (fun h => by simp at h)) (h_nm (h_ne k7_6 k7_18 (fun h => by simp at h)) (h_nm (h_ne k7_6 sp3 (fun h => by simp at h)) h_n0))))))) k7_6
  have k8_5 := fru.at (h_nm (h_ne k7_7 k7_16 (fun h => by cases h)) (h_nm n_lR_cc (h_nm (h_ne k7_7 k7_15 (fun h => by cases h)) (h_nm n_lR_lo (h_nm (h_ne k7_7 k7_17 (fun h => by cases h)) (h_nm (h_ne k7_7 k7_18 (fun h => by cases h)) (h_nm (h_ne k7_7 sp3 (fun h => by cases h)) h_n0))))))) k7_7
  have k8_6 := fru.at (h_nm (h_ne k7_8 k7_16 (fun h => by simp at h)) (h_nm (h_ne k7_8 k7_0 (fun h => by cases h)) (h_nm (h_ne k7_8 k7_15 (fun h => by simp at h)) (h_nm (h_ne k7_8 k7_1 (fun h => by cases h)) (h_nm (h_ne k7_8 k7_17 (fun h => by simp at h)) (h_nm (h_ne k7_8 k7_18 (fun h => by simp at h)) (h_nm (h_ne k7_8 sp3 (fun h => by simp at h)) h_n0))))))) k7_8
  have k8_7 := fru.at (h_nm (h_ne k7_9 k7_16 (fun h => by cases h)) (h_nm n_a1_cc (h_nm (h_ne k7_9 k7_15 (fun h => by cases h)) (h_nm n_a1_lo (h_nm (h_ne k7_9 k7_17 (fun h => by cases h)) (h_nm (h_ne k7_9 k7_18 (fun h => by cases h)) (h_nm (h_ne k7_9 sp3 (fun h => by cases h)) h_n0))))))) k7_9
  have k8_8 := fru.at (h_nm (h_ne k7_10 k7_16 (fun h => by cases h)) (h_nm n_b1_cc (h_nm (h_ne k7_10 k7_15 (fun h => by cases h)) (h_nm n_b1_lo (h_nm (h_ne k7_10 k7_17 (fun h => by cases h)) (h_nm (h_ne k7_10 k7_18 (fun h => by cases h)) (h_nm (h_ne k7_10 sp3 (fun h => by cases h)) h_n0))))))) k7_10
  have k8_9 := fru.at (h_nm (h_ne k7_11 k7_16 (fun h => by simp at h)) (h_nm (h_ne k7_11 k7_0 (fun h => by cases h)) (h_nm (h_ne k7_11 k7_15 (fun h => by simp at h)) (h_nm (h_ne k7_11 k7_1 (fun h => by cases h)) (h_nm (h_ne k7_11 k7_17 (fun h => by simp at h)) (h_nm (h_ne k7_11 k7_18 (fun h => by simp at h)) (h_nm (h_ne k7_11 sp3 (fun h => by simp at h)) h_n0))))))) k7_11
  have k8_10 := fru.at (h_nm (h_ne k7_12 k7_16 (fun h => by cases h)) (h_nm n_a2_cc (h_nm (h_ne k7_12 k7_15 (fun h => by cases h)) (h_nm n_a2_lo (h_nm (h_ne k7_12 k7_17 (fun h => by cases h)) (h_nm (h_ne k7_12 k7_18 (fun h => by cases h)) (h_nm (h_ne k7_12 sp3 (fun h => by cases h)) h_n0))))))) k7_12
  have k8_11 := fru.at (h_nm (h_ne k7_13 k7_16 (fun h => by cases h)) (h_nm n_b2_cc (h_nm (h_ne k7_13 k7_15 (fun h => by cases h)) (h_nm n_b2_lo (h_nm (h_ne k7_13 k7_17 (fun h => by cases h)) (h_nm (h_ne k7_13 k7_18 (fun h => by cases h)) (h_nm (h_ne k7_13 sp3 (fun h => by cases h)) h_n0))))))) k7_13
  have k8_12 := fru.at (h_nm (h_ne k7_14 k7_16 (fun h => by cases h)) (h_nm n_len_cc (h_nm (h_ne k7_14 k7_15 (fun h => by cases h)) (h_nm n_len_lo (h_nm (h_ne k7_14 k7_17 (fun h => by cases h)) (h_nm (h_ne k7_14 k7_18 (fun h => by cases h)) (h_nm (h_ne k7_14 sp3 (fun h => by cases h)) h_n0))))))) k7_14
  have fr := fr.call fru (by simp)
  have hin := mg_in bs lf rt bs.length
  have hf1 := fro_le bs lf bs.length
  have hf2 := fro_le bs rt bs.length
  refine lv_aload_n S0.1 S0.2.1 dMg_run_60 rfl (lv_at hl 0 rfl) ?_
  refine lv_aload_n S0.1 S0.2.1 dMg_run_61 rfl (lv_at hl 1 rfl) ?_
  refine hw_get S0 hK hg k8_0 rfl inRo 1 (by decide) lf_Mg_54 rfl rfl dMg_run_62 ?_
  refine lv_aload_n S0.1 S0.2.1 dMg_run_65 rfl (lv_at hl 2 rfl) ?_
  refine hw_get S0 hK hg k8_2 rfl inRo 1 (by decide) lf_Mg_54 rfl rfl dMg_run_66 ?_
  refine lv_aload_n S0.1 S0.2.1 dMg_run_69 rfl (lv_at hl 3 rfl) ?_
  refine hw_get S0 hK hg k8_4 rfl inRo 1 (by decide) lf_Mg_54 rfl rfl dMg_run_70 ?_
  refine hw_Vv (As := [.int (nI bs.length), .int (nI lf.length), .int (nI rt.length)]) (rest := []) S0 hK hg hS hA0 m0 rfl (c_Mg_mergeParts l D cI cR cJ g_8 _ mo oc cc c1 c2 p1 p2 p3 lo rB lB cB rL lL cL rR lR cR_ bs lf rt fB fL fR fcx fox k8_0 k8_1 eB hcB hdB k8_2 k8_3 eL hcL hdL k8_4 k8_5 eR hcR hdR n_rB_oc n_rL_oc n_rR_oc n_lB_cc n_lB_lo n_lL_cc n_lL_lo n_lR_cc n_lR_lo (Ne.symm n_cc_lo) n_p1_p2 n_p1_p3 n_p2_p3 (mg bs lf rt bs.length).1 bs.length (mg bs lf rt bs.length).2.1 lf.length (mg bs lf rt bs.length).2.2.1 rt.length x1 x2 x3 (mg bs lf rt bs.length).2.2.2 m0 m1 m2 m3 m4 m5 m6 m7 m8 (by omega) (Nat.le_refl _) (by omega) (Nat.le_refl _) (by omega) (Nat.le_refl _) (by omega) (by omega)) kMg_mergeParts lm_Mg_64 (hR.call rfl) rfl hl.1 rfl (Nat.le_of_ble_eq_true rfl) dMg_run_73 (hR.new (by decide) (by decide)) (fun g_9 H locs hp_73 hg hS => ?_)
  obtain ⟨frm, fc1, fo1, j0, j1, j2, j3, j4, j5, j6, j7, j8⟩ := hp_73
  have k9_0 := frm.at (h_nm (h_ne k8_0 m0 (fun h => by simp at h)) (h_nm (h_ne k8_0 m1 (fun h => by cases h)) (h_nm n_rB_oc (h_nm (h_ne k8_0 m3 (fun h => by cases h)) (h_nm (h_ne k8_0 m4 (fun h => by simp at h)) (h_nm (h_ne k8_0 m5 (fun h => by simp at h)) (h_nm (h_ne k8_0 m6 (fun h => by simp at h)) h_n0))))))) k8_0
  have k9_1 := frm.at (h_nm (h_ne k8_1 m0 (fun h => by cases h)) (h_nm n_lB_cc (h_nm (h_ne k8_1 m2 (fun h => by cases h)) (h_nm n_lB_lo (h_nm (h_ne k8_1 m4 (fun h => by cases h)) (h_nm (h_ne k8_1 m5 (fun h => by cases h)) (h_nm (h_ne k8_1 m6 (fun h => by cases h)) h_n0))))))) k8_1
  have k9_2 := frm.at (h_nm (h_ne k8_2 m0 (fun h => by simp at h)) (h_nm (h_ne k8_2 m1 (fun h => by cases h)) (h_nm n_rL_oc (h_nm (h_ne k8_2 m3 (fun h => by cases h)) (h_nm (h_ne k8_2 m4 (fun h => by simp at h)) (h_nm (h_ne k8_2 m5 (fun h => by simp at h)) (h_nm (h_ne k8_2 m6 (fun h => by simp at h)) h_n0))))))) k8_2
  have k9_3 := frm.at (h_nm (h_ne k8_3 m0 (fun h => by cases h)) (h_nm n_lL_cc (h_nm (h_ne k8_3 m2 (fun h => by cases h)) (h_nm n_lL_lo (h_nm (h_ne k8_3 m4 (fun h => by cases h)) (h_nm (h_ne k8_3 m5 (fun h => by cases h)) (h_nm (h_ne k8_3 m6 (fun h => by cases h)) h_n0))))))) k8_3
  have k9_4 := frm.at (h_nm (h_ne k8_4 m0 (fun h => by simp at h)) (h_nm (h_ne k8_4 m1 (fun h => by cases h)) (h_nm n_rR_oc (h_nm (h_ne k8_4 m3 (fun h => by cases h)) (h_nm (h_ne k8_4 m4 (fun h => by simp at h)) (h_nm (h_ne k8_4 m5 (fun h => by simp at h)) (h_nm (h_ne k8_4 m6 (fun h => by simp at h)) h_n0))))))) k8_4
  have k9_5 := frm.at (h_nm (h_ne k8_5 m0 (fun h => by cases h)) (h_nm n_lR_cc (h_nm (h_ne k8_5 m2 (fun h => by cases h)) (h_nm n_lR_lo (h_nm (h_ne k8_5 m4 (fun h => by cases h)) (h_nm (h_ne k8_5 m5 (fun h => by cases h)) (h_nm (h_ne k8_5 m6 (fun h => by cases h)) h_n0))))))) k8_5
  have k9_6 := frm.at (h_nm (h_ne k8_6 m0 (fun h => by simp at h)) (h_nm (h_ne k8_6 m1 (fun h => by cases h)) (h_nm (h_ne k8_6 m2 (fun h => by simp at h)) (h_nm (h_ne k8_6 m3 (fun h => by cases h)) (h_nm (h_ne k8_6 m4 (fun h => by simp at h)) (h_nm (h_ne k8_6 m5 (fun h => by simp at h)) (h_nm (h_ne k8_6 m6 (fun h => by simp at h)) h_n0))))))) k8_6
  have k9_7 := frm.at (h_nm (h_ne k8_7 m0 (fun h => by cases h)) (h_nm n_a1_cc (h_nm (h_ne k8_7 m2 (fun h => by cases h)) (h_nm n_a1_lo (h_nm (h_ne k8_7 m4 (fun h => by cases h)) (h_nm (h_ne k8_7 m5 (fun h => by cases h)) (h_nm (h_ne k8_7 m6 (fun h => by cases h)) h_n0))))))) k8_7
  have k9_8 := frm.at (h_nm (h_ne k8_8 m0 (fun h => by cases h)) (h_nm n_b1_cc (h_nm (h_ne k8_8 m2 (fun h => by cases h)) (h_nm n_b1_lo (h_nm (h_ne k8_8 m4 (fun h => by cases h)) (h_nm (h_ne k8_8 m5 (fun h => by cases h)) (h_nm (h_ne k8_8 m6 (fun h => by cases h)) h_n0))))))) k8_8
  have k9_9 := frm.at (h_nm (h_ne k8_9 m0 (fun h => by simp at h)) (h_nm (h_ne k8_9 m1 (fun h => by cases h)) (h_nm (h_ne k8_9 m2 (fun h => by simp at h)) (h_nm (h_ne k8_9 m3 (fun h => by cases h)) (h_nm (h_ne k8_9 m4 (fun h => by simp at h)) (h_nm (h_ne k8_9 m5 (fun h => by simp at h)) (h_nm (h_ne k8_9 m6 (fun h => by simp at h)) h_n0))))))) k8_9
  have k9_10 := frm.at (h_nm (h_ne k8_10 m0 (fun h => by cases h)) (h_nm n_a2_cc (h_nm (h_ne k8_10 m2 (fun h => by cases h)) (h_nm n_a2_lo (h_nm (h_ne k8_10 m4 (fun h => by cases h)) (h_nm (h_ne k8_10 m5 (fun h => by cases h)) (h_nm (h_ne k8_10 m6 (fun h => by cases h)) h_n0))))))) k8_10
  have k9_11 := frm.at (h_nm (h_ne k8_11 m0 (fun h => by cases h)) (h_nm n_b2_cc (h_nm (h_ne k8_11 m2 (fun h => by cases h)) (h_nm n_b2_lo (h_nm (h_ne k8_11 m4 (fun h => by cases h)) (h_nm (h_ne k8_11 m5 (fun h => by cases h)) (h_nm (h_ne k8_11 m6 (fun h => by cases h)) h_n0))))))) k8_11
  have k9_12 := frm.at (h_nm (h_ne k8_12 m0 (fun h => by cases h)) (h_nm n_len_cc (h_nm (h_ne k8_12 m2 (fun h => by cases h)) (h_nm n_len_lo (h_nm (h_ne k8_12 m4 (fun h => by cases h)) (h_nm (h_ne k8_12 m5 (fun h => by cases h)) (h_nm (h_ne k8_12 m6 (fun h => by cases h)) h_n0))))))) k8_12
  have fr := fr.call frm (by simp)
  exact hend _ _ _ _ _ _ _ (by decide) (by decide) (⟨fr, fc1, fo1, _, _, _, _, _, _, _, _, _, _, _, _, _, j0, j1, j2, j3, j4, j5, j6, k9_6, k9_7, k9_8, k9_9, k9_10, k9_11, k9_12, j7, j8⟩) hg hS dMg_run_76
end
section
/-! PATCHING -/
def oI (o : Option Nat) : Int32 := match o with
  | none => -1
  | some p => nI p
theorem ln_of {a c : List Int32} {fa fc : Nat → Int32} {bg p k : Nat} (ea : rp fa a) (ec : rp fc c) (hk : k < a.length) (hc : c.length ≤ 60) (hp : p + k < 500) (hb : bg < 500) (h : ∃ q : Nat, q < c.length ∧ nI (p + k) - nI bg = nI q ∧ fc q = fa k) : lnB a bg c p k := by
  obtain ⟨q, h1, h2, h3⟩ := h
  have e := (nI_subeq (by omega) (by omega) (by omega)).mp h2
  refine ⟨by omega, by omega, ?_⟩
  rw [show p + k - bg = q by omega, ← ec q h1, h3, ea k hk]
theorem ln_not {a c : List Int32} {fa fc : Nat → Int32} {bg p k : Nat} (ea : rp fa a) (ec : rp fc c) (hk : k < a.length) (hc : c.length ≤ 60) (hp : p + k < 500) (hb : bg < 500) (h : ¬ ∃ q : Nat, q < c.length ∧ nI (p + k) - nI bg = nI q ∧ fc q = fa k) : ¬ lnB a bg c p k := by
  rintro ⟨h1, h2, h3⟩
  exact h ⟨p + k - bg, h2, (nI_subeq (by omega) (by omega) (by omega)).mpr (by omega), by rw [ec _ h2, h3, ea k hk]⟩
set_option maxRecDepth 100000 in
set_option maxHeartbeats 4000000 in
theorem c_Pg_fits (l : Launch) (D : va_G) (cI cR cJ : ClassId) (g : Nat → Option va_E) (sz : Nat) (ra la ca rc lc cc : Nat) (a c : List Int32) (fa fc : Nat → Int32) (h0 : g ra = some (.inr (5, [.ref la, .int (nI a.length)]))) (h1 : g la = some (.inl (cI, ca, .inl fa))) (h2 : g rc = some (.inr (5, [.ref lc, .int (nI c.length)]))) (h3 : g lc = some (.inl (cI, cc, .inl fc))) (ea : rp fa a) (ec : rp fc c) (hna : a.length ≤ 60) (hnc : c.length ≤ 60) (hca : a.length ≤ ca) (hcc : c.length ≤ cc) (hca4 : ca < 4000) (hcc4 : cc < 4000) (bg ln p : Nat) (hp : p + ln ≤ c.length) (hb : bg + ln ≤ a.length) : hMi l yPg_fits cPg_fits 8 .boolean (hRm 1 22 0 0) D (hT cI cR cJ) g sz [.ref ra, .int (nI bg), .int (nI ln), .ref rc, .int (nI p)] (fun o g1 => g1 = g ∧ ((o = nI 1 ∧ fitB a bg ln c p = true) ∨ (o = nI 0 ∧ ¬ fitB a bg ln c p = true))) := by
  refine hMi_of (by decide +kernel) (Nat.le_of_ble_eq_true rfl) ?_
  intro pX eX RX sX mX argsX belowX methX cX QX AX hR S0 hnm hsz hg hK hS hA0 hend ls hl
  have hl : lv_has ls 8 [(0, .ref ra), (1, .int (nI bg)), (2, .int (nI ln)), (3, .ref rc), (4, .int (nI p))] := hl
  refine lv_iload_n S0.1 S0.2.1 dPg_fits_0 rfl (lv_at hl 1 rfl) ?_
  refine lv_iconst (v := nI 1) S0.1 S0.2.1 dPg_fits_1 (by decide) ?_
  refine lv_isub S0.1 S0.2.1 dPg_fits_2 ?_
  refine hw_top (nJ bg) (rfl) ?_
  refine lv_iconst (v := nI 0) S0.1 S0.2.1 dPg_fits_3 (by decide) ?_
  refine hw_max S0 hR hl.1 lm_Pg_60 rfl ⟨Nat.zero_le _, Nat.zero_le _⟩ dPg_fits_4 ?_
  refine hw_top (nI (bg - 1)) (nJ_max (by omega)) ?_
  refine lv_istore (lv' := [(5, .int (nI (bg - 1))), (0, .ref ra), (1, .int (nI bg)), (2, .int (nI ln)), (3, .ref rc), (4, .int (nI p))]) S0.1 S0.2.1 dPg_fits_7 hl (by decide) rfl (fun ls hl => ?_)
  refine lv_iload_n S0.1 S0.2.1 dPg_fits_9 rfl (lv_at hl 2 rfl) ?_
  refine lv_iload_n S0.1 S0.2.1 dPg_fits_10 rfl (lv_at hl 3 rfl) ?_
  refine lv_iadd S0.1 S0.2.1 dPg_fits_11 ?_
  refine hw_top (nI (bg + ln)) (nI_add _ _) ?_
  refine lv_iconst (v := nI 1) S0.1 S0.2.1 dPg_fits_12 (by decide) ?_
  refine lv_iadd S0.1 S0.2.1 dPg_fits_13 ?_
  refine hw_top (nI ((bg + ln) + 1)) (nI_add _ _) ?_
  refine lv_aload_n S0.1 S0.2.1 dPg_fits_14 rfl (lv_at hl 1 rfl) ?_
  refine hw_get S0 hK hg h0 rfl inRo 1 (by decide) lf_Pg_34 rfl rfl dPg_fits_15 ?_
  refine hw_min S0 hR hl.1 lm_Pg_64 rfl ⟨Nat.zero_le _, Nat.zero_le _⟩ dPg_fits_18 ?_
  refine hw_top (nI (min ((bg + ln) + 1) a.length)) (nI_min (by omega) (by omega)) ?_
  refine lv_istore (lv' := [(6, .int (nI (min ((bg + ln) + 1) a.length))), (5, .int (nI (bg - 1))), (0, .ref ra), (1, .int (nI bg)), (2, .int (nI ln)), (3, .ref rc), (4, .int (nI p))]) S0.1 S0.2.1 dPg_fits_21 hl (by decide) rfl (fun ls hl => ?_)
  refine lv_iload S0.1 S0.2.1 dPg_fits_23 (lv_at hl 1 rfl) ?_
  refine lv_istore (lv' := [(7, .int (nI (bg - 1))), (6, .int (nI (min ((bg + ln) + 1) a.length))), (5, .int (nI (bg - 1))), (0, .ref ra), (1, .int (nI bg)), (2, .int (nI ln)), (3, .ref rc), (4, .int (nI p))]) S0.1 S0.2.1 dPg_fits_25 hl (by decide) rfl (fun ls hl => ?_)
  have loop_27 : ∀ (n_27 : Nat) (k : Nat) (H : Heap) (locs : List Loc) (ls : Array Slot), 61 - k < n_27 → (bg - 1 ≤ k) → (k ≤ max (bg - 1) (min ((bg + ln) + 1) a.length)) → (∀ q, bg - 1 ≤ q → q < k → lnB a bg c p q) → hw D hC AX g H → va_S AX sX.heap H locs → lv_has ls 8 [(0, .ref ra), (1, .int (nI bg)), (3, .ref rc), (4, .int (nI p)), (6, .int (nI (min ((bg + ln) + 1) a.length))), (7, .int (nI k))] → W pX l eX RX sX mX argsX belowX methX cX H locs 0 0 QX (F0 mX 27 ls []) := by
    intro n_27
    induction n_27 with
    | zero => intros; omega
    | succ n_27 ih_27 =>
      intro k H locs ls hm_27 hk1 hk2 hall hg hS hl
      refine lv_iload S0.1 S0.2.1 dPg_fits_27 (lv_at hl 5 rfl) ?_
      refine lv_iload S0.1 S0.2.1 dPg_fits_29 (lv_at hl 4 rfl) ?_
      refine lv_icmp_ge (tgt := 63) S0.1 S0.2.1 dPg_fits_31 (by decide) (fun c_31 => ?_) (fun c_31 => ?_)
      · skip
        have c_31 : (min ((bg + ln) + 1) a.length) ≤ k := (nI_leI (by omega) (by omega)).mp c_31
        refine lv_iconst (v := nI 1) S0.1 S0.2.1 dPg_fits_63 (by decide) ?_
        exact hend _ _ _ _ _ _ _ _ (by decide) (by decide) rfl (⟨rfl, Or.inl ⟨rfl, (fit_lines hp hb).mpr (fun q h1 h2 => hall q h1 (by omega))⟩⟩) hg hS dPg_fits_64
      · skip
        have c_31 : ¬ ((min ((bg + ln) + 1) a.length) ≤ k) := fun h => c_31 ((nI_leI (by omega) (by omega)).mpr h)
        refine lv_aload_n S0.1 S0.2.1 dPg_fits_34 rfl (lv_at hl 2 rfl) ?_
        refine lv_iload S0.1 S0.2.1 dPg_fits_35 (lv_at hl 3 rfl) ?_
        refine lv_iload S0.1 S0.2.1 dPg_fits_37 (lv_at hl 5 rfl) ?_
        refine lv_iadd S0.1 S0.2.1 dPg_fits_39 ?_
        refine hw_top (nI (p + k)) (nI_add _ _) ?_
        refine lv_iload_n S0.1 S0.2.1 dPg_fits_40 rfl (lv_at hl 1 rfl) ?_
        refine lv_isub S0.1 S0.2.1 dPg_fits_41 ?_
        refine lv_aload_n S0.1 S0.2.1 dPg_fits_42 rfl (lv_at hl 0 rfl) ?_
        refine hw_get S0 hK hg h0 rfl inRo 0 (by decide) lf_Pg_67 rfl rfl dPg_fits_43 ?_
        refine lv_iload S0.1 S0.2.1 dPg_fits_46 (lv_at hl 5 rfl) ?_
        refine hw_iald S0 hK hg h1 0 rfl (by omega) (by omega) dPg_fits_48 ?_
        refine hw_Vi (As := [.int ((nI (p + k)) - (nI bg)), .int (fa k)]) (rest := []) S0 hK hg hS hA0 h2 rfl (c_Ro_hasAt l D cI cR cJ g _ rc lc c.length cc fc (nI (p + k) - nI bg) (fa k) h2 h3 hcc hcc4) kRo_hasAt lm_Pg_70 (hR.call rfl) rfl hl.1 rfl (Nat.le_of_ble_eq_true rfl) dPg_fits_49 (hR.new (by decide) (by decide)) (fun r_49 g_1 H locs hp_49 hg hS => ?_)
        rw [hp_49.1] at hg
        replace hp_49 := hp_49.2
        rcases hp_49 with ⟨ho, hq⟩ | ⟨ho, hq⟩
        · skip
          subst ho
          have hln := ln_of ea ec (by omega) hnc (by omega) (by omega) hq
          refine lv_if_ne (tgt := 57) S0.1 S0.2.1 dPg_fits_52 (by decide) (fun c_52 => ?_) (fun c_52 => ?_)
          · skip
            refine lv_iinc (v := nI (k + 1)) (lv' := [(7, .int (nI (k + 1))), (0, .ref ra), (1, .int (nI bg)), (3, .ref rc), (4, .int (nI p)), (6, .int (nI (min ((bg + ln) + 1) a.length)))]) S0.1 S0.2.1 dPg_fits_57 hl (k := 5) rfl (by exact nI_add _ 1) (by decide) rfl (fun ls hl => ?_)
            refine lv_goto (tgt := 27) S0.1 S0.2.1 dPg_fits_60 (by decide) ?_
            exact ih_27 (k + 1) _ _ _ (by omega) (by omega) (by omega) (fun q h1 h2 => by rcases Nat.lt_or_ge q k with h9 | h9; exact hall q h1 h9; rw [show q = k by omega]; exact hln) hg hS (lv_sub hl [1, 2, 3, 4, 5, 0] rfl)
          · skip
            exact absurd c_52 (by decide)
        · skip
          subst ho
          have hln := ln_not ea ec (by omega) hnc (by omega) (by omega) hq
          refine lv_if_ne (tgt := 57) S0.1 S0.2.1 dPg_fits_52 (by decide) (fun c_52 => ?_) (fun c_52 => ?_)
          · skip
            exact absurd c_52 (by decide)
          · skip
            refine lv_iconst (v := nI 0) S0.1 S0.2.1 dPg_fits_55 (by decide) ?_
            exact hend _ _ _ _ _ _ _ _ (by decide) (by decide) rfl (⟨rfl, Or.inr ⟨rfl, fun h => hln ((fit_lines hp hb).mp h k hk1 (by omega))⟩⟩) hg hS dPg_fits_56
  exact loop_27 _ (bg - 1) _ _ _ (Nat.lt_succ_self _) (Nat.le_refl _) (by omega) (fun q h1 h2 => by omega) hg hS (lv_sub hl [3, 4, 6, 7, 1, 0] rfl)
set_option maxRecDepth 100000 in
set_option maxHeartbeats 4000000 in
theorem c_Pg_nearestFit (l : Launch) (D : va_G) (cI cR cJ : ClassId) (g : Nat → Option va_E) (sz : Nat) (ra la ca rc lc cc : Nat) (a c : List Int32) (fa fc : Nat → Int32) (h0 : g ra = some (.inr (5, [.ref la, .int (nI a.length)]))) (h1 : g la = some (.inl (cI, ca, .inl fa))) (h2 : g rc = some (.inr (5, [.ref lc, .int (nI c.length)]))) (h3 : g lc = some (.inl (cI, cc, .inl fc))) (ea : rp fa a) (ec : rp fc c) (hna : a.length ≤ 60) (hnc : c.length ≤ 60) (hca : a.length ≤ ca) (hcc : c.length ≤ cc) (hca4 : ca < 4000) (hcc4 : cc < 4000) (bg ln lo : Nat) (w : Int) (hb : bg + ln ≤ a.length) (hlo : lo ≤ c.length) (hw1 : -200 ≤ w) (hw2 : w ≤ 200) : hMi l yPg_nearestFit cPg_nearestFit 9 .int (hRm 2 49 0 0) D (hT cI cR cJ) g sz [.ref ra, .int (nI bg), .int (nI ln), .ref rc, .int (nI lo), .int (iZ w)] (fun o g1 => g1 = g ∧ o = oI (nrst (fitB a bg ln c) w lo (c.length + 1 - lo))) := by
  refine hMi_of (by decide +kernel) (Nat.le_of_ble_eq_true rfl) ?_
  intro pX eX RX sX mX argsX belowX methX cX QX AX hR S0 hnm hsz hg hK hS hA0 hend ls hl
  have hl : lv_has ls 9 [(0, .ref ra), (1, .int (nI bg)), (2, .int (nI ln)), (3, .ref rc), (4, .int (nI lo)), (5, .int (iZ w))] := hl
  refine lv_iconst (v := (-1)) S0.1 S0.2.1 dPg_nearestFit_0 (by decide) ?_
  refine lv_istore (lv' := [(6, .int (-1)), (0, .ref ra), (1, .int (nI bg)), (2, .int (nI ln)), (3, .ref rc), (4, .int (nI lo)), (5, .int (iZ w))]) S0.1 S0.2.1 dPg_nearestFit_1 hl (by decide) rfl (fun ls hl => ?_)
  refine lv_iload S0.1 S0.2.1 dPg_nearestFit_3 (lv_at hl 5 rfl) ?_
  refine lv_istore (lv' := [(7, .int (nI lo)), (6, .int (-1)), (0, .ref ra), (1, .int (nI bg)), (2, .int (nI ln)), (3, .ref rc), (4, .int (nI lo)), (5, .int (iZ w))]) S0.1 S0.2.1 dPg_nearestFit_5 hl (by decide) rfl (fun ls hl => ?_)
  have loop_7 : ∀ (n_7 : Nat) (t : Nat) (o : Option Nat) (H : Heap) (locs : List Loc) (ls : Array Slot), c.length + 2 - (lo + t) < n_7 → (lo + t ≤ c.length + 1) → (nrst (fitB a bg ln c) w lo t = o) → hw D hC AX g H → va_S AX sX.heap H locs → lv_has ls 9 [(0, .ref ra), (1, .int (nI bg)), (2, .int (nI ln)), (3, .ref rc), (5, .int (iZ w)), (6, .int (oI o)), (7, .int (nI (lo + t)))] → W pX l eX RX sX mX argsX belowX methX cX H locs 0 0 QX (F0 mX 7 ls []) := by
    intro n_7
    induction n_7 with
    | zero => intros; omega
    | succ n_7 ih_7 =>
      intro t o H locs ls hm_7 ht ho hg hS hl
      refine lv_iload S0.1 S0.2.1 dPg_nearestFit_7 (lv_at hl 6 rfl) ?_
      refine lv_aload_n S0.1 S0.2.1 dPg_nearestFit_9 rfl (lv_at hl 3 rfl) ?_
      refine hw_get S0 hK hg h2 rfl inRo 1 (by decide) lf_Pg_34 rfl rfl dPg_nearestFit_10 ?_
      refine lv_iload_n S0.1 S0.2.1 dPg_nearestFit_13 rfl (lv_at hl 2 rfl) ?_
      refine lv_isub S0.1 S0.2.1 dPg_nearestFit_14 ?_
      refine lv_icmp_gt (tgt := 77) S0.1 S0.2.1 dPg_nearestFit_15 (by decide) (fun c_15 => ?_) (fun c_15 => ?_)
      · skip
        have c_15 := (nI_sublt (by omega) (by omega) (by omega)).mp c_15
        refine lv_iload S0.1 S0.2.1 dPg_nearestFit_77 (lv_at hl 5 rfl) ?_
        exact hend _ _ _ _ _ _ _ _ (by decide) (by decide) rfl (⟨rfl, by rw [nrst_ext (t := t) (fun p hp h9 => by have := (fitB_iff.mp h9).1; omega) (by omega), ho]⟩) hg hS dPg_nearestFit_79
      · skip
        have c_15 : ¬ c.length < lo + t + ln := fun h => c_15 ((nI_sublt (by omega) (by omega) (by omega)).mpr h)
        rcases o with _ | q
        · skip
          have hl : lv_has ls 9 [(0, .ref ra), (1, .int (nI bg)), (2, .int (nI ln)), (3, .ref rc), (5, .int (iZ w)), (6, .int (-1)), (7, .int (nI (lo + t)))] := hl
          refine lv_iload S0.1 S0.2.1 dPg_nearestFit_18 (lv_at hl 5 rfl) ?_
          refine lv_iconst (v := (-1)) S0.1 S0.2.1 dPg_nearestFit_20 (by decide) ?_
          refine lv_icmp_eq (tgt := 43) S0.1 S0.2.1 dPg_nearestFit_21 (by decide) (fun c_21 => ?_) (fun c_21 => ?_)
          · skip
            refine lv_iconst (v := nI 1) S0.1 S0.2.1 dPg_nearestFit_43 (by decide) ?_
            refine lv_goto (tgt := 48) S0.1 S0.2.1 dPg_nearestFit_44 (by decide) ?_
            refine lv_istore (lv' := [(8, .int (nI 1)), (0, .ref ra), (1, .int (nI bg)), (2, .int (nI ln)), (3, .ref rc), (5, .int (iZ w)), (6, .int (-1)), (7, .int (nI (lo + t)))]) S0.1 S0.2.1 dPg_nearestFit_48 hl (by decide) rfl (fun ls hl => ?_)
            refine lv_iload S0.1 S0.2.1 dPg_nearestFit_50 (lv_at hl 0 rfl) ?_
            refine lv_if_eq (tgt := 71) S0.1 S0.2.1 dPg_nearestFit_52 (by decide) (fun c_52 => ?_) (fun c_52 => ?_)
            · skip
              rw [← nI_0] at c_52
              have c_52 : 1 = 0 := (nI_eq (by omega) (by omega)).mp c_52
              exact absurd c_52 (by decide)
            · skip
              rw [← nI_0] at c_52
              have c_52 : ¬ (1 = 0) := fun h => c_52 ((nI_eq (by omega) (by omega)).mpr h)
              refine lv_aload_n S0.1 S0.2.1 dPg_nearestFit_55 rfl (lv_at hl 1 rfl) ?_
              refine lv_iload_n S0.1 S0.2.1 dPg_nearestFit_56 rfl (lv_at hl 2 rfl) ?_
              refine lv_iload_n S0.1 S0.2.1 dPg_nearestFit_57 rfl (lv_at hl 3 rfl) ?_
              refine lv_aload_n S0.1 S0.2.1 dPg_nearestFit_58 rfl (lv_at hl 4 rfl) ?_
              refine lv_iload S0.1 S0.2.1 dPg_nearestFit_59 (lv_at hl 7 rfl) ?_
              refine hw_Si (As := [.ref ra, .int (nI bg), .int (nI ln), .ref rc, .int (nI (lo + t))]) (rest := []) S0 hK hg hS hA0 (c_Pg_fits l D cI cR cJ g _ ra la ca rc lc cc a c fa fc h0 h1 h2 h3 ea ec hna hnc hca hcc hca4 hcc4 bg ln (lo + t) (by omega) hb) kPg_fits lm_Pg_56 (hR.call rfl) rfl hl.1 rfl (Nat.le_of_ble_eq_true rfl) dPg_nearestFit_61 (hR.new (by decide) (by decide)) (fun r_61 g_1 H locs hp_61 hg hS => ?_)
              rw [hp_61.1] at hg
              replace hp_61 := hp_61.2
              rcases hp_61 with ⟨hf, hq⟩ | ⟨hf, hq⟩
              · skip
                subst hf
                refine lv_if_eq (tgt := 71) S0.1 S0.2.1 dPg_nearestFit_64 (by decide) (fun c_64 => ?_) (fun c_64 => ?_)
                · skip
                  rw [← nI_0] at c_64
                  have c_64 : 1 = 0 := (nI_eq (by omega) (by omega)).mp c_64
                  exact absurd c_64 (by decide)
                · skip
                  rw [← nI_0] at c_64
                  have c_64 : ¬ (1 = 0) := fun h => c_64 ((nI_eq (by omega) (by omega)).mpr h)
                  refine lv_iload S0.1 S0.2.1 dPg_nearestFit_67 (lv_at hl 7 rfl) ?_
                  refine lv_istore (lv' := [(6, .int (nI (lo + t))), (8, .int (nI 1)), (0, .ref ra), (1, .int (nI bg)), (2, .int (nI ln)), (3, .ref rc), (5, .int (iZ w)), (7, .int (nI (lo + t)))]) S0.1 S0.2.1 dPg_nearestFit_69 hl (by decide) rfl (fun ls hl => ?_)
                  refine lv_iinc (v := nI (lo + t + 1)) (lv' := [(7, .int (nI (lo + t + 1))), (6, .int (nI (lo + t))), (8, .int (nI 1)), (0, .ref ra), (1, .int (nI bg)), (2, .int (nI ln)), (3, .ref rc), (5, .int (iZ w))]) S0.1 S0.2.1 dPg_nearestFit_71 hl (k := 7) rfl (by exact nI_add _ 1) (by decide) rfl (fun ls hl => ?_)
                  refine lv_goto (tgt := 7) S0.1 S0.2.1 dPg_nearestFit_74 (by decide) ?_
                  exact ih_7 (t + 1) (some (lo + t)) _ _ _ (by omega) (by omega) (nrst_new hq (Or.inl ho)) hg hS (lv_sub hl [3, 4, 5, 6, 7, 1, 0] rfl)
              · skip
                subst hf
                refine lv_if_eq (tgt := 71) S0.1 S0.2.1 dPg_nearestFit_64 (by decide) (fun c_64 => ?_) (fun c_64 => ?_)
                · skip
                  rw [← nI_0] at c_64
                  have c_64 : 0 = 0 := (nI_eq (by omega) (by omega)).mp c_64
                  refine lv_iinc (v := nI (lo + t + 1)) (lv' := [(7, .int (nI (lo + t + 1))), (8, .int (nI 1)), (0, .ref ra), (1, .int (nI bg)), (2, .int (nI ln)), (3, .ref rc), (5, .int (iZ w)), (6, .int (-1))]) S0.1 S0.2.1 dPg_nearestFit_71 hl (k := 7) rfl (by exact nI_add _ 1) (by decide) rfl (fun ls hl => ?_)
                  refine lv_goto (tgt := 7) S0.1 S0.2.1 dPg_nearestFit_74 (by decide) ?_
                  exact ih_7 (t + 1) none _ _ _ (by omega) (by omega) (by rw [nrst_no hq]; exact ho) hg hS (lv_sub hl [2, 3, 4, 5, 6, 7, 0] rfl)
                · skip
                  rw [← nI_0] at c_64
                  have c_64 : ¬ (0 = 0) := fun h => c_64 ((nI_eq (by omega) (by omega)).mpr h)
                  exact absurd c_64 (by decide)
          · skip
            exact absurd rfl c_21
        · skip
          have hl : lv_has ls 9 [(0, .ref ra), (1, .int (nI bg)), (2, .int (nI ln)), (3, .ref rc), (5, .int (iZ w)), (6, .int (nI q)), (7, .int (nI (lo + t)))] := hl
          have hqi := nrst_in ho
          refine lv_iload S0.1 S0.2.1 dPg_nearestFit_18 (lv_at hl 5 rfl) ?_
          refine lv_iconst (v := (-1)) S0.1 S0.2.1 dPg_nearestFit_20 (by decide) ?_
          refine lv_icmp_eq (tgt := 43) S0.1 S0.2.1 dPg_nearestFit_21 (by decide) (fun c_21 => ?_) (fun c_21 => ?_)
          · skip
            exact absurd c_21 (nI_m1 (by omega))
          · skip
            refine lv_iload S0.1 S0.2.1 dPg_nearestFit_24 (lv_at hl 6 rfl) ?_
            refine lv_iload S0.1 S0.2.1 dPg_nearestFit_26 (lv_at hl 4 rfl) ?_
            refine lv_isub S0.1 S0.2.1 dPg_nearestFit_28 ?_
            refine hw_top (iZ (((lo + t : Nat) : Int) - w)) (by rw [iZ_nat, iZ_sub]) ?_
            refine hw_abs S0 hR hl.1 lm_Pg_50 rfl ⟨Nat.zero_le _, Nat.zero_le _⟩ dPg_nearestFit_29 ?_
            refine hw_top (nI ((((lo + t : Nat) : Int) - w).natAbs)) (iZ_abs (by omega) (by omega)) ?_
            refine lv_iload S0.1 S0.2.1 dPg_nearestFit_32 (lv_at hl 5 rfl) ?_
            refine lv_iload S0.1 S0.2.1 dPg_nearestFit_34 (lv_at hl 4 rfl) ?_
            refine lv_isub S0.1 S0.2.1 dPg_nearestFit_36 ?_
            refine hw_top (iZ (((q : Nat) : Int) - w)) (by rw [iZ_nat, iZ_sub]) ?_
            refine hw_abs S0 hR hl.1 lm_Pg_50 rfl ⟨Nat.zero_le _, Nat.zero_le _⟩ dPg_nearestFit_37 ?_
            refine hw_top (nI ((((q : Nat) : Int) - w).natAbs)) (iZ_abs (by omega) (by omega)) ?_
            refine lv_icmp_ge (tgt := 47) S0.1 S0.2.1 dPg_nearestFit_40 (by decide) (fun c_40 => ?_) (fun c_40 => ?_)
            · skip
              have c_40 : ((((q : Nat) : Int) - w).natAbs) ≤ ((((lo + t : Nat) : Int) - w).natAbs) := (nI_leI (by omega) (by omega)).mp c_40
              refine lv_iconst (v := nI 0) S0.1 S0.2.1 dPg_nearestFit_47 (by decide) ?_
              refine lv_istore (lv' := [(8, .int (nI 0)), (0, .ref ra), (1, .int (nI bg)), (2, .int (nI ln)), (3, .ref rc), (5, .int (iZ w)), (6, .int (nI q)), (7, .int (nI (lo + t)))]) S0.1 S0.2.1 dPg_nearestFit_48 hl (by decide) rfl (fun ls hl => ?_)
              refine lv_iload S0.1 S0.2.1 dPg_nearestFit_50 (lv_at hl 0 rfl) ?_
              refine lv_if_eq (tgt := 71) S0.1 S0.2.1 dPg_nearestFit_52 (by decide) (fun c_52 => ?_) (fun c_52 => ?_)
              · skip
                rw [← nI_0] at c_52
                have c_52 : 0 = 0 := (nI_eq (by omega) (by omega)).mp c_52
                refine lv_iinc (v := nI (lo + t + 1)) (lv' := [(7, .int (nI (lo + t + 1))), (8, .int (nI 0)), (0, .ref ra), (1, .int (nI bg)), (2, .int (nI ln)), (3, .ref rc), (5, .int (iZ w)), (6, .int (nI q))]) S0.1 S0.2.1 dPg_nearestFit_71 hl (k := 7) rfl (by exact nI_add _ 1) (by decide) rfl (fun ls hl => ?_)
                refine lv_goto (tgt := 7) S0.1 S0.2.1 dPg_nearestFit_74 (by decide) ?_
                exact ih_7 (t + 1) (some q) _ _ _ (by omega) (by omega) (by rw [nrst_far ho (by omega)]; exact ho) hg hS (lv_sub hl [2, 3, 4, 5, 6, 7, 0] rfl)
              · skip
                rw [← nI_0] at c_52
                have c_52 : ¬ (0 = 0) := fun h => c_52 ((nI_eq (by omega) (by omega)).mpr h)
                exact absurd c_52 (by decide)
            · skip
              have c_40 : ¬ (((((q : Nat) : Int) - w).natAbs) ≤ ((((lo + t : Nat) : Int) - w).natAbs)) := fun h => c_40 ((nI_leI (by omega) (by omega)).mpr h)
              refine lv_iconst (v := nI 1) S0.1 S0.2.1 dPg_nearestFit_43 (by decide) ?_
              refine lv_goto (tgt := 48) S0.1 S0.2.1 dPg_nearestFit_44 (by decide) ?_
              refine lv_istore (lv' := [(8, .int (nI 1)), (0, .ref ra), (1, .int (nI bg)), (2, .int (nI ln)), (3, .ref rc), (5, .int (iZ w)), (6, .int (nI q)), (7, .int (nI (lo + t)))]) S0.1 S0.2.1 dPg_nearestFit_48 hl (by decide) rfl (fun ls hl => ?_)
              refine lv_iload S0.1 S0.2.1 dPg_nearestFit_50 (lv_at hl 0 rfl) ?_
              refine lv_if_eq (tgt := 71) S0.1 S0.2.1 dPg_nearestFit_52 (by decide) (fun c_52 => ?_) (fun c_52 => ?_)
              · skip
                rw [← nI_0] at c_52
                have c_52 : 1 = 0 := (nI_eq (by omega) (by omega)).mp c_52
                exact absurd c_52 (by decide)
              · skip
                rw [← nI_0] at c_52
                have c_52 : ¬ (1 = 0) := fun h => c_52 ((nI_eq (by omega) (by omega)).mpr h)
                refine lv_aload_n S0.1 S0.2.1 dPg_nearestFit_55 rfl (lv_at hl 1 rfl) ?_
                refine lv_iload_n S0.1 S0.2.1 dPg_nearestFit_56 rfl (lv_at hl 2 rfl) ?_
                refine lv_iload_n S0.1 S0.2.1 dPg_nearestFit_57 rfl (lv_at hl 3 rfl) ?_
                refine lv_aload_n S0.1 S0.2.1 dPg_nearestFit_58 rfl (lv_at hl 4 rfl) ?_
                refine lv_iload S0.1 S0.2.1 dPg_nearestFit_59 (lv_at hl 7 rfl) ?_
                refine hw_Si (As := [.ref ra, .int (nI bg), .int (nI ln), .ref rc, .int (nI (lo + t))]) (rest := []) S0 hK hg hS hA0 (c_Pg_fits l D cI cR cJ g _ ra la ca rc lc cc a c fa fc h0 h1 h2 h3 ea ec hna hnc hca hcc hca4 hcc4 bg ln (lo + t) (by omega) hb) kPg_fits lm_Pg_56 (hR.call rfl) rfl hl.1 rfl (Nat.le_of_ble_eq_true rfl) dPg_nearestFit_61 (hR.new (by decide) (by decide)) (fun r_61 g_2 H locs hp_61 hg hS => ?_)
                rw [hp_61.1] at hg
                replace hp_61 := hp_61.2
                rcases hp_61 with ⟨hf, hq⟩ | ⟨hf, hq⟩
                · skip
                  subst hf
                  refine lv_if_eq (tgt := 71) S0.1 S0.2.1 dPg_nearestFit_64 (by decide) (fun c_64 => ?_) (fun c_64 => ?_)
                  · skip
                    rw [← nI_0] at c_64
                    have c_64 : 1 = 0 := (nI_eq (by omega) (by omega)).mp c_64
                    exact absurd c_64 (by decide)
                  · skip
                    rw [← nI_0] at c_64
                    have c_64 : ¬ (1 = 0) := fun h => c_64 ((nI_eq (by omega) (by omega)).mpr h)
                    refine lv_iload S0.1 S0.2.1 dPg_nearestFit_67 (lv_at hl 7 rfl) ?_
                    refine lv_istore (lv' := [(6, .int (nI (lo + t))), (8, .int (nI 1)), (0, .ref ra), (1, .int (nI bg)), (2, .int (nI ln)), (3, .ref rc), (5, .int (iZ w)), (7, .int (nI (lo + t)))]) S0.1 S0.2.1 dPg_nearestFit_69 hl (by decide) rfl (fun ls hl => ?_)
                    refine lv_iinc (v := nI (lo + t + 1)) (lv' := [(7, .int (nI (lo + t + 1))), (6, .int (nI (lo + t))), (8, .int (nI 1)), (0, .ref ra), (1, .int (nI bg)), (2, .int (nI ln)), (3, .ref rc), (5, .int (iZ w))]) S0.1 S0.2.1 dPg_nearestFit_71 hl (k := 7) rfl (by exact nI_add _ 1) (by decide) rfl (fun ls hl => ?_)
                    refine lv_goto (tgt := 7) S0.1 S0.2.1 dPg_nearestFit_74 (by decide) ?_
                    exact ih_7 (t + 1) (some (lo + t)) _ _ _ (by omega) (by omega) (nrst_new hq (Or.inr ⟨q, ho, by omega⟩)) hg hS (lv_sub hl [3, 4, 5, 6, 7, 1, 0] rfl)
                · skip
                  subst hf
                  refine lv_if_eq (tgt := 71) S0.1 S0.2.1 dPg_nearestFit_64 (by decide) (fun c_64 => ?_) (fun c_64 => ?_)
                  · skip
                    rw [← nI_0] at c_64
                    have c_64 : 0 = 0 := (nI_eq (by omega) (by omega)).mp c_64
                    refine lv_iinc (v := nI (lo + t + 1)) (lv' := [(7, .int (nI (lo + t + 1))), (8, .int (nI 1)), (0, .ref ra), (1, .int (nI bg)), (2, .int (nI ln)), (3, .ref rc), (5, .int (iZ w)), (6, .int (nI q))]) S0.1 S0.2.1 dPg_nearestFit_71 hl (k := 7) rfl (by exact nI_add _ 1) (by decide) rfl (fun ls hl => ?_)
                    refine lv_goto (tgt := 7) S0.1 S0.2.1 dPg_nearestFit_74 (by decide) ?_
                    exact ih_7 (t + 1) (some q) _ _ _ (by omega) (by omega) (by rw [nrst_no hq]; exact ho) hg hS (lv_sub hl [2, 3, 4, 5, 6, 7, 0] rfl)
                  · skip
                    rw [← nI_0] at c_64
                    have c_64 : ¬ (0 = 0) := fun h => c_64 ((nI_eq (by omega) (by omega)).mpr h)
                    exact absurd c_64 (by decide)
  exact loop_7 _ 0 none _ _ _ (Nat.lt_succ_self _) (by omega) rfl hg hS (lv_sub hl [2, 3, 4, 5, 7, 1, 0] rfl)
end
section
/-! PATCHING, on -/
set_option maxRecDepth 100000 in
set_option maxHeartbeats 4000000 in
theorem c_Pg_run (l : Launch) (D : va_G) (cI cR cJ : ClassId) (g : Nat → Option va_E) (sz : Nat) (pg oc lo hu ce cm pa pb len : Nat) (ra la ca rb lb cb rc lc cc : Nat) (a b c : List Int32) (fa fb fc fo fh fp0 fq0 fl : Nat → Int32) (rj0 on0 hc0 cnt : Int32) (hra : g ra = some (.inr (5, [.ref la, .int (nI a.length)]))) (hla : g la = some (.inl (cI, ca, .inl fa))) (ea : rp fa a) (hna : a.length ≤ 60) (hca : a.length ≤ ca) (hda : ca < 4000) (hrb : g rb = some (.inr (5, [.ref lb, .int (nI b.length)]))) (hlb : g lb = some (.inl (cI, cb, .inl fb))) (eb : rp fb b) (hnb : b.length ≤ 60) (hcb : b.length ≤ cb) (hdb : cb < 4000) (hrc : g rc = some (.inr (5, [.ref lc, .int (nI c.length)]))) (hlc : g lc = some (.inl (cI, cc, .inl fc))) (ec : rp fc c) (hnc : c.length ≤ 60) (hcc : c.length ≤ cc) (hdc : cc < 4000) (h0 : g pg = some (.inr (4, [.ref oc, .int rj0, .ref hu]))) (h1 : g oc = some (.inr (5, [.ref lo, .int on0]))) (h2 : g lo = some (.inl (cI, 120, .inl fo))) (h3 : g hu = some (.inr (1, [.ref ce, .int hc0, .ref cm]))) (h4 : g ce = some (.inl (cI, 244, .inl fh))) (h5 : g cm = some (.inr (0, [.ref pa, .ref pb, .int cnt, .ref len]))) (h6 : g pa = some (.inl (cI, 60, .inl fp0))) (h7 : g pb = some (.inl (cI, 60, .inl fq0))) (h8 : g len = some (.inl (cI, 3721, .inl fl))) (n_la_pa : la ≠ pa) (n_la_pb : la ≠ pb) (n_la_len : la ≠ len) (n_la_ce : la ≠ ce) (n_la_lo : la ≠ lo) (n_lb_pa : lb ≠ pa) (n_lb_pb : lb ≠ pb) (n_lb_len : lb ≠ len) (n_lb_ce : lb ≠ ce) (n_lb_lo : lb ≠ lo) (n_lc_pa : lc ≠ pa) (n_lc_pb : lc ≠ pb) (n_lc_len : lc ≠ len) (n_lc_ce : lc ≠ ce) (n_lc_lo : lc ≠ lo) (n_pa_pb : pa ≠ pb) (n_pa_len : pa ≠ len) (n_pa_ce : pa ≠ ce) (n_pa_lo : pa ≠ lo) (n_pb_len : pb ≠ len) (n_pb_ce : pb ≠ ce) (n_pb_lo : pb ≠ lo) (n_len_ce : len ≠ ce) (n_len_lo : len ≠ lo) (n_ce_lo : ce ≠ lo) (n_ra_oc : ra ≠ oc) (n_rb_oc : rb ≠ oc) (n_rc_oc : rc ≠ oc) : hMv l yPg_run cPg_run 12 (hRm 4 98 0 0) D (hT cI cR cJ) g sz [.ref pg, .ref ra, .ref rb, .ref rc] (fun g1 => hfr g g1 [pg, oc, lo, hu, ce, cm, pa, pb, len] ∧ ∃ (fox fhx gp gq gl : Nat → Int32) (k1 k2 : Int32), g1 pg = some (.inr (4, [.ref oc, .int (nI (patF a b c).2), .ref hu])) ∧ g1 oc = some (.inr (5, [.ref lo, .int (nI (patF a b c).1.length)])) ∧ g1 lo = some (.inl (cI, 120, .inl fox)) ∧ g1 hu = some (.inr (1, [.ref ce, .int k1, .ref cm])) ∧ g1 ce = some (.inl (cI, 244, .inl fhx)) ∧ g1 cm = some (.inr (0, [.ref pa, .ref pb, .int k2, .ref len])) ∧ g1 pa = some (.inl (cI, 60, .inl gp)) ∧ g1 pb = some (.inl (cI, 60, .inl gq)) ∧ g1 len = some (.inl (cI, 3721, .inl gl)) ∧ rp fox (patF a b c).1 ∧ (patF a b c).1.length ≤ 120) := by
  refine hMv_of (by decide +kernel) (Nat.le_of_ble_eq_true rfl) ?_
  intro pX eX RX sX mX argsX belowX methX cX QX AX hR S0 hnm hsz hg hK hS hA0 hend ls hl
  have hl : lv_has ls 12 [(0, .ref pg), (1, .ref ra), (2, .ref rb), (3, .ref rc)] := hl
  have fr : hfr g g [pg, oc, lo, hu, ce, cm, pa, pb, len] := hfr.rf
  refine lv_aload_n S0.1 S0.2.1 dPg_run_0 rfl (lv_at hl 0 rfl) ?_
  refine hw_get S0 hK hg h0 rfl inPg 2 (by decide) lf_Pg_24 rfl rfl dPg_run_1 ?_
  refine lv_aload_n S0.1 S0.2.1 dPg_run_4 rfl (lv_at hl 1 rfl) ?_
  refine lv_aload_n S0.1 S0.2.1 dPg_run_5 rfl (lv_at hl 2 rfl) ?_
  refine hw_Vv (As := [.ref ra, .ref rb]) (rest := []) S0 hK hg hS hA0 h3 rfl (c_Hu_find l D cI cR cJ g _ cm pa pb len ra la ca rb lb cb cnt a b fa fb fl h5 h8 hra hla hrb hlb ea eb n_la_len n_lb_len hna hnb hca hcb hda hdb fp0 fq0 h6 h7 n_la_pa n_la_pb n_lb_pa n_lb_pb n_pa_pb n_pa_len n_pb_len hu ce hc0 fh h3 h4 n_la_ce n_lb_ce n_pa_ce n_pb_ce n_len_ce) kHu_find lm_Pg_28 (hR.call rfl) rfl hl.1 rfl (Nat.le_of_ble_eq_true rfl) dPg_run_6 (hR.new (by decide) (by decide)) (fun g_1 H locs hp_6 hg hS => ?_)
  obtain ⟨fr1, n1, gA, gB, gL, gc, a0, a1, a2, a3, a4, a5, hcr⟩ := hp_6
  have hok := hunks_ok a b
  have hpf : ∀ k, k ≤ (hunksOf a b).length → hkok a b ((hunksOf a b).take k) := fun k _ h hh => hok.1 h (List.mem_of_mem_take hh)
  have hpat : patF a b c = ((pfold a b c (hunksOf a b)).2.2.1 ++ pt c (pfold a b c (hunksOf a b)).1 c.length, (pfold a b c (hunksOf a b)).2.2.2) := rfl
  generalize hunksOf a b = Hs at a4 hcr hok hpf hpat
  have k1_0 := fr1.at (h_nm (h_ne hra h3 (fun h => by simp at h)) (h_nm (h_ne hra h4 (fun h => by cases h)) (h_nm (h_ne hra h5 (fun h => by simp at h)) (h_nm (h_ne hra h6 (fun h => by cases h)) (h_nm (h_ne hra h7 (fun h => by cases h)) (h_nm (h_ne hra h8 (fun h => by cases h)) h_n0)))))) hra
  have k1_1 := fr1.at (h_nm (h_ne hla h3 (fun h => by cases h)) (h_nm n_la_ce (h_nm (h_ne hla h5 (fun h => by cases h)) (h_nm n_la_pa (h_nm n_la_pb (h_nm n_la_len h_n0)))))) hla
  have k1_2 := fr1.at (h_nm (h_ne hrb h3 (fun h => by simp at h)) (h_nm (h_ne hrb h4 (fun h => by cases h)) (h_nm (h_ne hrb h5 (fun h => by simp at h)) (h_nm (h_ne hrb h6 (fun h => by cases h)) (h_nm (h_ne hrb h7 (fun h => by cases h)) (h_nm (h_ne hrb h8 (fun h => by cases h)) h_n0)))))) hrb
  have k1_3 := fr1.at (h_nm (h_ne hlb h3 (fun h => by cases h)) (h_nm n_lb_ce (h_nm (h_ne hlb h5 (fun h => by cases h)) (h_nm n_lb_pa (h_nm n_lb_pb (h_nm n_lb_len h_n0)))))) hlb
  have k1_4 := fr1.at (h_nm (h_ne hrc h3 (fun h => by simp at h)) (h_nm (h_ne hrc h4 (fun h => by cases h)) (h_nm (h_ne hrc h5 (fun h => by simp at h)) (h_nm (h_ne hrc h6 (fun h => by cases h)) (h_nm (h_ne hrc h7 (fun h => by cases h)) (h_nm (h_ne hrc h8 (fun h => by cases h)) h_n0)))))) hrc
  have k1_5 := fr1.at (h_nm (h_ne hlc h3 (fun h => by cases h)) (h_nm n_lc_ce (h_nm (h_ne hlc h5 (fun h => by cases h)) (h_nm n_lc_pa (h_nm n_lc_pb (h_nm n_lc_len h_n0)))))) hlc
  have k1_6 := fr1.at (h_nm (h_ne h0 h3 (fun h => by simp at h)) (h_nm (h_ne h0 h4 (fun h => by cases h)) (h_nm (h_ne h0 h5 (fun h => by simp at h)) (h_nm (h_ne h0 h6 (fun h => by cases h)) (h_nm (h_ne h0 h7 (fun h => by cases h)) (h_nm (h_ne h0 h8 (fun h => by cases h)) h_n0)))))) h0
  have k1_7 := fr1.at (h_nm (h_ne h1 h3 (fun h => by simp at h)) (h_nm (h_ne h1 h4 (fun h => by cases h)) (h_nm (h_ne h1 h5 (fun h => by simp at h)) (h_nm (h_ne h1 h6 (fun h => by cases h)) (h_nm (h_ne h1 h7 (fun h => by cases h)) (h_nm (h_ne h1 h8 (fun h => by cases h)) h_n0)))))) h1
  have k1_8 := fr1.at (h_nm (h_ne h2 h3 (fun h => by cases h)) (h_nm (Ne.symm n_ce_lo) (h_nm (h_ne h2 h5 (fun h => by cases h)) (h_nm (Ne.symm n_pa_lo) (h_nm (Ne.symm n_pb_lo) (h_nm (Ne.symm n_len_lo) h_n0)))))) h2
  have fr := fr.call fr1 (by simp)
  refine lv_aload_n S0.1 S0.2.1 dPg_run_9 rfl (lv_at hl 0 rfl) ?_
  refine hw_get S0 hK hg k1_6 rfl inPg 0 (by decide) lf_Pg_14 rfl rfl dPg_run_10 ?_
  refine lv_iconst (v := nI 0) S0.1 S0.2.1 dPg_run_13 (by decide) ?_
  refine hw_put S0 hK hg hS k1_7 rfl inRo tyRo tokRo nmRo 1 (by decide) lf_Pg_34 rfl rfl rfl rfl (Nat.le_of_ble_eq_true rfl) dPg_run_14 (fun H locs hg hS => ?_)
  obtain ⟨g_2, eg_2⟩ : ∃ z, z = hs g_1 oc (.inr (5, [.ref lo, .int (nI 0)])) := ⟨_, rfl⟩
  have hg : hw D hC AX g_2 H := by rw [eg_2]; exact hg
  have f2_0 : g_2 ra = some (.inr (5, [.ref la, .int (nI a.length)])) := by rw [eg_2, hs_n _ _ n_ra_oc]; exact k1_0
  have f2_1 : g_2 la = some (.inl (cI, ca, .inl fa)) := by rw [eg_2, hs_n _ _ (h_ne k1_1 k1_7 (fun h => by cases h))]; exact k1_1
  have f2_2 : g_2 rb = some (.inr (5, [.ref lb, .int (nI b.length)])) := by rw [eg_2, hs_n _ _ n_rb_oc]; exact k1_2
  have f2_3 : g_2 lb = some (.inl (cI, cb, .inl fb)) := by rw [eg_2, hs_n _ _ (h_ne k1_3 k1_7 (fun h => by cases h))]; exact k1_3
  have f2_4 : g_2 rc = some (.inr (5, [.ref lc, .int (nI c.length)])) := by rw [eg_2, hs_n _ _ n_rc_oc]; exact k1_4
  have f2_5 : g_2 lc = some (.inl (cI, cc, .inl fc)) := by rw [eg_2, hs_n _ _ (h_ne k1_5 k1_7 (fun h => by cases h))]; exact k1_5
  have f2_6 : g_2 pg = some (.inr (4, [.ref oc, .int rj0, .ref hu])) := by rw [eg_2, hs_n _ _ (h_ne k1_6 k1_7 (fun h => by simp at h))]; exact k1_6
  have f2_7 : g_2 lo = some (.inl (cI, 120, .inl fo)) := by rw [eg_2, hs_n _ _ (h_ne k1_8 k1_7 (fun h => by cases h))]; exact k1_8
  have f2_8 : g_2 cm = some (.inr (0, [.ref pa, .ref pb, .int (nI n1), .ref len])) := by rw [eg_2, hs_n _ _ (h_ne a0 k1_7 (fun h => by simp at h))]; exact a0
  have f2_9 : g_2 pa = some (.inl (cI, 60, .inl gA)) := by rw [eg_2, hs_n _ _ (h_ne a1 k1_7 (fun h => by cases h))]; exact a1
  have f2_10 : g_2 pb = some (.inl (cI, 60, .inl gB)) := by rw [eg_2, hs_n _ _ (h_ne a2 k1_7 (fun h => by cases h))]; exact a2
  have f2_11 : g_2 len = some (.inl (cI, 3721, .inl gL)) := by rw [eg_2, hs_n _ _ (h_ne a3 k1_7 (fun h => by cases h))]; exact a3
  have f2_12 : g_2 hu = some (.inr (1, [.ref ce, .int (nI Hs.length), .ref cm])) := by rw [eg_2, hs_n _ _ (h_ne a4 k1_7 (fun h => by simp at h))]; exact a4
  have f2_13 : g_2 ce = some (.inl (cI, 244, .inl gc)) := by rw [eg_2, hs_n _ _ (h_ne a5 k1_7 (fun h => by cases h))]; exact a5
  have f2_14 : g_2 oc = some (.inr (5, [.ref lo, .int (nI 0)])) := by rw [eg_2]; exact hs_s _ _ _
  have fr := fr.put eg_2 (by simp)
  refine lv_aload_n S0.1 S0.2.1 dPg_run_17 rfl (lv_at hl 0 rfl) ?_
  refine lv_iconst (v := nI 0) S0.1 S0.2.1 dPg_run_18 (by decide) ?_
  refine hw_put S0 hK hg hS f2_6 rfl inPg tyPg tokPg nmPg 1 (by decide) lf_Pg_20 rfl rfl rfl rfl (Nat.le_of_ble_eq_true rfl) dPg_run_19 (fun H locs hg hS => ?_)
  obtain ⟨g_3, eg_3⟩ : ∃ z, z = hs g_2 pg (.inr (4, [.ref oc, .int (nI 0), .ref hu])) := ⟨_, rfl⟩
  have hg : hw D hC AX g_3 H := by rw [eg_3]; exact hg
  have f3_0 : g_3 ra = some (.inr (5, [.ref la, .int (nI a.length)])) := by rw [eg_3, hs_n _ _ (h_ne f2_0 f2_6 (fun h => by simp at h))]; exact f2_0
  have f3_1 : g_3 la = some (.inl (cI, ca, .inl fa)) := by rw [eg_3, hs_n _ _ (h_ne f2_1 f2_6 (fun h => by cases h))]; exact f2_1
  have f3_2 : g_3 rb = some (.inr (5, [.ref lb, .int (nI b.length)])) := by rw [eg_3, hs_n _ _ (h_ne f2_2 f2_6 (fun h => by simp at h))]; exact f2_2
  have f3_3 : g_3 lb = some (.inl (cI, cb, .inl fb)) := by rw [eg_3, hs_n _ _ (h_ne f2_3 f2_6 (fun h => by cases h))]; exact f2_3
  have f3_4 : g_3 rc = some (.inr (5, [.ref lc, .int (nI c.length)])) := by rw [eg_3, hs_n _ _ (h_ne f2_4 f2_6 (fun h => by simp at h))]; exact f2_4
  have f3_5 : g_3 lc = some (.inl (cI, cc, .inl fc)) := by rw [eg_3, hs_n _ _ (h_ne f2_5 f2_6 (fun h => by cases h))]; exact f2_5
  have f3_6 : g_3 lo = some (.inl (cI, 120, .inl fo)) := by rw [eg_3, hs_n _ _ (h_ne f2_7 f2_6 (fun h => by cases h))]; exact f2_7
  have f3_7 : g_3 cm = some (.inr (0, [.ref pa, .ref pb, .int (nI n1), .ref len])) := by rw [eg_3, hs_n _ _ (h_ne f2_8 f2_6 (fun h => by simp at h))]; exact f2_8
  have f3_8 : g_3 pa = some (.inl (cI, 60, .inl gA)) := by rw [eg_3, hs_n _ _ (h_ne f2_9 f2_6 (fun h => by cases h))]; exact f2_9
  have f3_9 : g_3 pb = some (.inl (cI, 60, .inl gB)) := by rw [eg_3, hs_n _ _ (h_ne f2_10 f2_6 (fun h => by cases h))]; exact f2_10
  have f3_10 : g_3 len = some (.inl (cI, 3721, .inl gL)) := by rw [eg_3, hs_n _ _ (h_ne f2_11 f2_6 (fun h => by cases h))]; exact f2_11
  have f3_11 : g_3 hu = some (.inr (1, [.ref ce, .int (nI Hs.length), .ref cm])) := by rw [eg_3, hs_n _ _ (h_ne f2_12 f2_6 (fun h => by simp at h))]; exact f2_12
  have f3_12 : g_3 ce = some (.inl (cI, 244, .inl gc)) := by rw [eg_3, hs_n _ _ (h_ne f2_13 f2_6 (fun h => by cases h))]; exact f2_13
  have f3_13 : g_3 oc = some (.inr (5, [.ref lo, .int (nI 0)])) := by rw [eg_3, hs_n _ _ (h_ne f2_14 f2_6 (fun h => by simp at h))]; exact f2_14
  have f3_14 : g_3 pg = some (.inr (4, [.ref oc, .int (nI 0), .ref hu])) := by rw [eg_3]; exact hs_s _ _ _
  have fr := fr.put eg_3 (by simp)
  refine lv_iconst (v := nI 0) S0.1 S0.2.1 dPg_run_22 (by decide) ?_
  refine lv_istore (lv' := [(4, .int (nI 0)), (0, .ref pg), (1, .ref ra), (2, .ref rb), (3, .ref rc)]) S0.1 S0.2.1 dPg_run_23 hl (by decide) rfl (fun ls hl => ?_)
  refine lv_iconst (v := nI 0) S0.1 S0.2.1 dPg_run_25 (by decide) ?_
  refine lv_istore (lv' := [(5, .int (nI 0)), (4, .int (nI 0)), (0, .ref pg), (1, .ref ra), (2, .ref rb), (3, .ref rc)]) S0.1 S0.2.1 dPg_run_26 hl (by decide) rfl (fun ls hl => ?_)
  refine lv_iconst (v := nI 0) S0.1 S0.2.1 dPg_run_28 (by decide) ?_
  refine lv_istore (lv' := [(6, .int (nI 0)), (5, .int (nI 0)), (4, .int (nI 0)), (0, .ref pg), (1, .ref ra), (2, .ref rb), (3, .ref rc)]) S0.1 S0.2.1 dPg_run_29 hl (by decide) rfl (fun ls hl => ?_)
  have hl : lv_has ls 12 [(6, .int (nI 0)), (5, .int (iZ 0)), (4, .int (nI 0)), (0, .ref pg), (1, .ref ra), (2, .ref rb), (3, .ref rc)] := hl
  have loop_31 : ∀ (n_31 : Nat) (k : Nat) (s : PS) (fx : Nat → Int32) (gl : Nat → Option va_E) (H : Heap) (locs : List Loc) (ls : Array Slot), Hs.length - k < n_31 → (k ≤ Hs.length) → (s = pfold a b c (Hs.take k)) → (rp fx s.2.2.1) → (hfr g gl [pg, oc, lo, hu, ce, cm, pa, pb, len]) → (gl pg = some (.inr (4, [.ref oc, .int (nI s.2.2.2), .ref hu]))) → (gl oc = some (.inr (5, [.ref lo, .int (nI s.2.2.1.length)]))) → (gl lo = some (.inl (cI, 120, .inl fx))) → (gl hu = some (.inr (1, [.ref ce, .int (nI Hs.length), .ref cm]))) → (gl ce = some (.inl (cI, 244, .inl gc))) → (gl cm = some (.inr (0, [.ref pa, .ref pb, .int (nI n1), .ref len]))) → (gl pa = some (.inl (cI, 60, .inl gA))) → (gl pb = some (.inl (cI, 60, .inl gB))) → (gl len = some (.inl (cI, 3721, .inl gL))) → hw D hC AX gl H → va_S AX sX.heap H locs → lv_has ls 12 [(0, .ref pg), (1, .ref ra), (2, .ref rb), (3, .ref rc), (4, .int (nI s.1)), (5, .int (iZ s.2.1)), (6, .int (nI k))] → W pX l eX RX sX mX argsX belowX methX cX H locs 0 0 QX (F0 mX 31 ls []) := by
    intro n_31
    induction n_31 with
    | zero => intros; omega
    | succ n_31 ih_31 =>
      intro k s fx gl H locs ls hm_31 hk hs_ eo fr i_pg i_oc i_lo i_hu i_ce i_cm i_pa i_pb i_len hg hS hl
      have q31_ra := fr.at (h_nm (h_ne f3_0 f3_14 (fun h => by simp at h)) (h_nm n_ra_oc (h_nm (h_ne f3_0 f3_6 (fun h => by cases h)) (h_nm (h_ne f3_0 f3_11 (fun h => by simp at h)) (h_nm (h_ne f3_0 f3_12 (fun h => by cases h)) (h_nm (h_ne f3_0 f3_7 (fun h => by simp at h)) (h_nm (h_ne f3_0 f3_8 (fun h => by cases h)) (h_nm (h_ne f3_0 f3_9 (fun h => by cases h)) (h_nm (h_ne f3_0 f3_10 (fun h => by cases h)) h_n0))))))))) hra
      have q31_la := fr.at (h_nm (h_ne f3_1 f3_14 (fun h => by cases h)) (h_nm (h_ne f3_1 f3_13 (fun h => by cases h)) (h_nm n_la_lo (h_nm (h_ne f3_1 f3_11 (fun h => by cases h)) (h_nm n_la_ce (h_nm (h_ne f3_1 f3_7 (fun h => by cases h)) (h_nm n_la_pa (h_nm n_la_pb (h_nm n_la_len h_n0))))))))) hla
      have q31_rb := fr.at (h_nm (h_ne f3_2 f3_14 (fun h => by simp at h)) (h_nm n_rb_oc (h_nm (h_ne f3_2 f3_6 (fun h => by cases h)) (h_nm (h_ne f3_2 f3_11 (fun h => by simp at h)) (h_nm (h_ne f3_2 f3_12 (fun h => by cases h)) (h_nm (h_ne f3_2 f3_7 (fun h => by simp at h)) (h_nm (h_ne f3_2 f3_8 (fun h => by cases h)) (h_nm (h_ne f3_2 f3_9 (fun h => by cases h)) (h_nm (h_ne f3_2 f3_10 (fun h => by cases h)) h_n0))))))))) hrb
      have q31_lb := fr.at (h_nm (h_ne f3_3 f3_14 (fun h => by cases h)) (h_nm (h_ne f3_3 f3_13 (fun h => by cases h)) (h_nm n_lb_lo (h_nm (h_ne f3_3 f3_11 (fun h => by cases h)) (h_nm n_lb_ce (h_nm (h_ne f3_3 f3_7 (fun h => by cases h)) (h_nm n_lb_pa (h_nm n_lb_pb (h_nm n_lb_len h_n0))))))))) hlb
      have q31_rc := fr.at (h_nm (h_ne f3_4 f3_14 (fun h => by simp at h)) (h_nm n_rc_oc (h_nm (h_ne f3_4 f3_6 (fun h => by cases h)) (h_nm (h_ne f3_4 f3_11 (fun h => by simp at h)) (h_nm (h_ne f3_4 f3_12 (fun h => by cases h)) (h_nm (h_ne f3_4 f3_7 (fun h => by simp at h)) (h_nm (h_ne f3_4 f3_8 (fun h => by cases h)) (h_nm (h_ne f3_4 f3_9 (fun h => by cases h)) (h_nm (h_ne f3_4 f3_10 (fun h => by cases h)) h_n0))))))))) hrc
      have q31_lc := fr.at (h_nm (h_ne f3_5 f3_14 (fun h => by cases h)) (h_nm (h_ne f3_5 f3_13 (fun h => by cases h)) (h_nm n_lc_lo (h_nm (h_ne f3_5 f3_11 (fun h => by cases h)) (h_nm n_lc_ce (h_nm (h_ne f3_5 f3_7 (fun h => by cases h)) (h_nm n_lc_pa (h_nm n_lc_pb (h_nm n_lc_len h_n0))))))))) hlc
      refine lv_iload S0.1 S0.2.1 dPg_run_31 (lv_at hl 6 rfl) ?_
      refine lv_aload_n S0.1 S0.2.1 dPg_run_33 rfl (lv_at hl 0 rfl) ?_
      refine hw_get S0 hK hg i_pg rfl inPg 2 (by decide) lf_Pg_24 rfl rfl dPg_run_34 ?_
      refine hw_get S0 hK hg i_hu rfl inHu 1 (by decide) lf_Pg_37 rfl rfl dPg_run_37 ?_
      refine lv_icmp_ge (tgt := 185) S0.1 S0.2.1 dPg_run_40 (by decide) (fun c_40 => ?_) (fun c_40 => ?_)
      · skip
        have c_40 : Hs.length ≤ k := (nI_leI (by omega) (by omega)).mp c_40
        have ek : k = Hs.length := by omega
        rw [ek, List.take_length] at hs_
        have hpo := pfold_ok (a := a) (b := b) (c := c) hok.1 hna hnc
        rw [← hs_] at hpo hpat
        refine lv_aload_n S0.1 S0.2.1 dPg_run_185 rfl (lv_at hl 0 rfl) ?_
        refine hw_get S0 hK hg i_pg rfl inPg 0 (by decide) lf_Pg_14 rfl rfl dPg_run_186 ?_
        refine lv_aload_n S0.1 S0.2.1 dPg_run_189 rfl (lv_at hl 3 rfl) ?_
        refine lv_iload S0.1 S0.2.1 dPg_run_190 (lv_at hl 4 rfl) ?_
        refine lv_aload_n S0.1 S0.2.1 dPg_run_192 rfl (lv_at hl 3 rfl) ?_
        refine hw_get S0 hK hg q31_rc rfl inRo 1 (by decide) lf_Pg_34 rfl rfl dPg_run_193 ?_
        refine hw_Vv (As := [.ref rc, .int (nI s.1), .int (nI c.length)]) (rest := []) S0 hK hg hS hA0 i_oc rfl (c_Ro_addPart l D cI cR cJ gl _ oc lo s.2.2.1.length 120 rc lc c.length cc s.1 c.length fx fc i_oc i_lo q31_rc q31_lc n_rc_oc n_lc_lo (by omega) (by omega) (by first | omega | (rw [List.length_append, pt_len (by omega)]; omega)) (by omega) (by omega)) kRo_addPart lm_Pg_46 (hR.call rfl) rfl hl.1 rfl (Nat.le_of_ble_eq_true rfl) dPg_run_196 (hR.new (by decide) (by decide)) (fun g_4 H locs hp_196 hg hS => ?_)
        obtain ⟨frA196, z0196, fz196, z1196, z2196, z3196⟩ := hp_196
        have eo3 : rp fz196 (s.2.2.1 ++ pt c s.1 c.length) := rp_app eo ec (by omega) z2196 z3196
        have z0196 : g_4 oc = some (.inr (5, [.ref lo, .int (nI (s.2.2.1 ++ pt c s.1 c.length).length)])) := by rw [List.length_append, pt_len (by omega)]; exact z0196
        have k4_0 := frA196.at (h_nm n_ra_oc (h_nm (h_ne q31_ra i_lo (fun h => by cases h)) h_n0)) q31_ra
        have k4_1 := frA196.at (h_nm (h_ne q31_la i_oc (fun h => by cases h)) (h_nm n_la_lo h_n0)) q31_la
        have k4_2 := frA196.at (h_nm n_rb_oc (h_nm (h_ne q31_rb i_lo (fun h => by cases h)) h_n0)) q31_rb
        have k4_3 := frA196.at (h_nm (h_ne q31_lb i_oc (fun h => by cases h)) (h_nm n_lb_lo h_n0)) q31_lb
        have k4_4 := frA196.at (h_nm n_rc_oc (h_nm (h_ne q31_rc i_lo (fun h => by cases h)) h_n0)) q31_rc
        have k4_5 := frA196.at (h_nm (h_ne q31_lc i_oc (fun h => by cases h)) (h_nm n_lc_lo h_n0)) q31_lc
        have k4_6 := frA196.at (h_nm (h_ne i_pg i_oc (fun h => by simp at h)) (h_nm (h_ne i_pg i_lo (fun h => by cases h)) h_n0)) i_pg
        have k4_7 := frA196.at (h_nm (h_ne i_hu i_oc (fun h => by simp at h)) (h_nm (h_ne i_hu i_lo (fun h => by cases h)) h_n0)) i_hu
        have k4_8 := frA196.at (h_nm (h_ne i_ce i_oc (fun h => by cases h)) (h_nm n_ce_lo h_n0)) i_ce
        have k4_9 := frA196.at (h_nm (h_ne i_cm i_oc (fun h => by simp at h)) (h_nm (h_ne i_cm i_lo (fun h => by cases h)) h_n0)) i_cm
        have k4_10 := frA196.at (h_nm (h_ne i_pa i_oc (fun h => by cases h)) (h_nm n_pa_lo h_n0)) i_pa
        have k4_11 := frA196.at (h_nm (h_ne i_pb i_oc (fun h => by cases h)) (h_nm n_pb_lo h_n0)) i_pb
        have k4_12 := frA196.at (h_nm (h_ne i_len i_oc (fun h => by cases h)) (h_nm n_len_lo h_n0)) i_len
        have fr := fr.call frA196 (by simp)
        have hbt : s.2.2.1.length + (c.length - s.1) ≤ 120 := by omega
        exact hend _ _ _ _ _ _ _ (by decide) (by decide) (by rw [hpat]; exact ⟨fr, _, _, _, _, _, _, _, k4_6, z0196, z1196, k4_7, k4_8, k4_9, k4_10, k4_11, k4_12, eo3, by dsimp only; rw [List.length_append, pt_len (Nat.le_refl _)]; exact hbt⟩) hg hS dPg_run_199
      · skip
        have c_40 : ¬ (Hs.length ≤ k) := fun h => c_40 ((nI_leI (by omega) (by omega)).mpr h)
        have hkl : k < Hs.length := by omega
        obtain ⟨h, hget⟩ : ∃ h, Hs[k]? = some h := ⟨_, List.getElem?_eq_getElem hkl⟩
        obtain ⟨q0, q1, q2, q3⟩ := rp4_at hcr hget
        have hho := hok.1 h (List.mem_of_getElem? hget)
        have hpo := pfold_ok (a := a) (b := b) (c := c) (hpf k (by omega)) hna hnc
        rw [← hs_] at hpo
        have hbs := bsum_take Hs (k + 1)
        rw [take_snoc hget, bsum_app, show bsum [h] = h.2.2.2 by simp [bsum]] at hbs
        refine lv_iload S0.1 S0.2.1 dPg_run_43 (lv_at hl 6 rfl) ?_
        refine lv_iconst (v := nI 4) S0.1 S0.2.1 dPg_run_45 (by decide) ?_
        refine lv_imul S0.1 S0.2.1 dPg_run_46 ?_
        refine hw_top (nI (k * 4)) (pk_mul _ _) ?_
        refine lv_istore (lv' := [(7, .int (nI (k * 4))), (0, .ref pg), (1, .ref ra), (2, .ref rb), (3, .ref rc), (4, .int (nI s.1)), (5, .int (iZ s.2.1)), (6, .int (nI k))]) S0.1 S0.2.1 dPg_run_47 hl (by decide) rfl (fun ls hl => ?_)
        refine lv_aload_n S0.1 S0.2.1 dPg_run_49 rfl (lv_at hl 1 rfl) ?_
        refine hw_get S0 hK hg i_pg rfl inPg 2 (by decide) lf_Pg_24 rfl rfl dPg_run_50 ?_
        refine hw_get S0 hK hg i_hu rfl inHu 0 (by decide) lf_Pg_38 rfl rfl dPg_run_53 ?_
        refine lv_iload S0.1 S0.2.1 dPg_run_56 (lv_at hl 0 rfl) ?_
        refine lv_iconst (v := nI 0) S0.1 S0.2.1 dPg_run_58 (by decide) ?_
        refine lv_iadd S0.1 S0.2.1 dPg_run_59 ?_
        refine hw_top (nI ((k * 4) + 0)) (nI_add _ _) ?_
        refine hw_iald S0 hK hg i_ce 0 rfl (by omega) (by omega) dPg_run_60 ?_
        refine hw_top (nI h.1) q0 ?_
        refine lv_istore (lv' := [(8, .int (nI h.1)), (7, .int (nI (k * 4))), (0, .ref pg), (1, .ref ra), (2, .ref rb), (3, .ref rc), (4, .int (nI s.1)), (5, .int (iZ s.2.1)), (6, .int (nI k))]) S0.1 S0.2.1 dPg_run_61 hl (by decide) rfl (fun ls hl => ?_)
        refine lv_aload_n S0.1 S0.2.1 dPg_run_63 rfl (lv_at hl 2 rfl) ?_
        refine hw_get S0 hK hg i_pg rfl inPg 2 (by decide) lf_Pg_24 rfl rfl dPg_run_64 ?_
        refine hw_get S0 hK hg i_hu rfl inHu 0 (by decide) lf_Pg_38 rfl rfl dPg_run_67 ?_
        refine lv_iload S0.1 S0.2.1 dPg_run_70 (lv_at hl 1 rfl) ?_
        refine lv_iconst (v := nI 1) S0.1 S0.2.1 dPg_run_72 (by decide) ?_
        refine lv_iadd S0.1 S0.2.1 dPg_run_73 ?_
        refine hw_top (nI ((k * 4) + 1)) (nI_add _ _) ?_
        refine hw_iald S0 hK hg i_ce 0 rfl (by omega) (by omega) dPg_run_74 ?_
        refine hw_top (nI h.2.1) q1 ?_
        refine lv_istore (lv' := [(9, .int (nI h.2.1)), (8, .int (nI h.1)), (7, .int (nI (k * 4))), (0, .ref pg), (1, .ref ra), (2, .ref rb), (3, .ref rc), (4, .int (nI s.1)), (5, .int (iZ s.2.1)), (6, .int (nI k))]) S0.1 S0.2.1 dPg_run_75 hl (by decide) rfl (fun ls hl => ?_)
        refine lv_aload_n S0.1 S0.2.1 dPg_run_77 rfl (lv_at hl 3 rfl) ?_
        refine hw_get S0 hK hg i_pg rfl inPg 2 (by decide) lf_Pg_24 rfl rfl dPg_run_78 ?_
        refine hw_get S0 hK hg i_hu rfl inHu 0 (by decide) lf_Pg_38 rfl rfl dPg_run_81 ?_
        refine lv_iload S0.1 S0.2.1 dPg_run_84 (lv_at hl 2 rfl) ?_
        refine lv_iconst (v := nI 2) S0.1 S0.2.1 dPg_run_86 (by decide) ?_
        refine lv_iadd S0.1 S0.2.1 dPg_run_87 ?_
        refine hw_top (nI ((k * 4) + 2)) (nI_add _ _) ?_
        refine hw_iald S0 hK hg i_ce 0 rfl (by omega) (by omega) dPg_run_88 ?_
        refine hw_top (nI h.2.2.1) q2 ?_
        refine lv_istore (lv' := [(10, .int (nI h.2.2.1)), (9, .int (nI h.2.1)), (8, .int (nI h.1)), (7, .int (nI (k * 4))), (0, .ref pg), (1, .ref ra), (2, .ref rb), (3, .ref rc), (4, .int (nI s.1)), (5, .int (iZ s.2.1)), (6, .int (nI k))]) S0.1 S0.2.1 dPg_run_89 hl (by decide) rfl (fun ls hl => ?_)
        refine lv_aload_n S0.1 S0.2.1 dPg_run_91 rfl (lv_at hl 5 rfl) ?_
        refine lv_iload S0.1 S0.2.1 dPg_run_92 (lv_at hl 2 rfl) ?_
        refine lv_iload S0.1 S0.2.1 dPg_run_94 (lv_at hl 1 rfl) ?_
        refine lv_aload_n S0.1 S0.2.1 dPg_run_96 rfl (lv_at hl 7 rfl) ?_
        refine lv_iload S0.1 S0.2.1 dPg_run_97 (lv_at hl 8 rfl) ?_
        refine lv_iload S0.1 S0.2.1 dPg_run_99 (lv_at hl 2 rfl) ?_
        refine lv_iload S0.1 S0.2.1 dPg_run_101 (lv_at hl 9 rfl) ?_
        refine lv_iadd S0.1 S0.2.1 dPg_run_103 ?_
        refine hw_top (iZ ((h.1 : Int) + s.2.1)) (by rw [iZ_nat, iZ_add]) ?_
        refine hw_Si (As := [.ref ra, .int (nI h.1), .int (nI h.2.1), .ref rc, .int (nI s.1), .int (iZ ((h.1 : Int) + s.2.1))]) (rest := []) S0 hK hg hS hA0 (c_Pg_nearestFit l D cI cR cJ gl _ ra la ca rc lc cc a c fa fc q31_ra q31_la q31_rc q31_lc ea ec hna hnc hca hcc hda hdc h.1 h.2.1 s.1 ((h.1 : Int) + s.2.1) (by omega) (by omega) (by omega) (by omega)) kPg_nearestFit lm_Pg_42 (hR.call rfl) rfl hl.1 rfl (Nat.le_of_ble_eq_true rfl) dPg_run_104 (hR.new (by decide) (by decide)) (fun r_104 g_5 H locs hp_104 hg hS => ?_)
        rw [hp_104.1] at hg
        replace hp_104 := hp_104.2
        have hp_104 : r_104 = oI (pwh a c s h) := hp_104
        rcases e9 : pwh a c s h with _ | p
        · skip
          have hp_104 : r_104 = -1 := by rw [hp_104, e9]; rfl
          subst hp_104
          refine lv_istore (lv' := [(11, .int (-1)), (10, .int (nI h.2.2.1)), (9, .int (nI h.2.1)), (8, .int (nI h.1)), (7, .int (nI (k * 4))), (0, .ref pg), (1, .ref ra), (2, .ref rb), (3, .ref rc), (4, .int (nI s.1)), (5, .int (iZ s.2.1)), (6, .int (nI k))]) S0.1 S0.2.1 dPg_run_107 hl (by decide) rfl (fun ls hl => ?_)
          refine lv_iload S0.1 S0.2.1 dPg_run_109 (lv_at hl 0 rfl) ?_
          refine lv_iconst (v := (-1)) S0.1 S0.2.1 dPg_run_111 (by decide) ?_
          refine lv_icmp_ne (tgt := 128) S0.1 S0.2.1 dPg_run_112 (by decide) (fun c_112 => ?_) (fun c_112 => ?_)
          · skip
            exact absurd rfl c_112
          · skip
            refine lv_aload_n S0.1 S0.2.1 dPg_run_115 rfl (lv_at hl 5 rfl) ?_
            refine lv_dup S0.1 S0.2.1 dPg_run_116 rfl ?_
            refine hw_get S0 hK hg i_pg rfl inPg 1 (by decide) lf_Pg_20 rfl rfl dPg_run_117 ?_
            refine lv_iconst (v := nI 1) S0.1 S0.2.1 dPg_run_120 (by decide) ?_
            refine lv_iadd S0.1 S0.2.1 dPg_run_121 ?_
            refine hw_top (nI (s.2.2.2 + 1)) (nI_add _ _) ?_
            refine hw_put S0 hK hg hS i_pg rfl inPg tyPg tokPg nmPg 1 (by decide) lf_Pg_20 rfl rfl rfl rfl (Nat.le_of_ble_eq_true rfl) dPg_run_122 (fun H locs hg hS => ?_)
            obtain ⟨g_6, eg_6⟩ : ∃ z, z = hs gl pg (.inr (4, [.ref oc, .int (nI (s.2.2.2 + 1)), .ref hu])) := ⟨_, rfl⟩
            have hg : hw D hC AX g_6 H := by rw [eg_6]; exact hg
            have f6_0 : g_6 ra = some (.inr (5, [.ref la, .int (nI a.length)])) := by rw [eg_6, hs_n _ _ (h_ne q31_ra i_pg (fun h => by simp at h))]; exact q31_ra
            have f6_1 : g_6 la = some (.inl (cI, ca, .inl fa)) := by rw [eg_6, hs_n _ _ (h_ne q31_la i_pg (fun h => by cases h))]; exact q31_la
            have f6_2 : g_6 rb = some (.inr (5, [.ref lb, .int (nI b.length)])) := by rw [eg_6, hs_n _ _ (h_ne q31_rb i_pg (fun h => by simp at h))]; exact q31_rb
            have f6_3 : g_6 lb = some (.inl (cI, cb, .inl fb)) := by rw [eg_6, hs_n _ _ (h_ne q31_lb i_pg (fun h => by cases h))]; exact q31_lb
            have f6_4 : g_6 rc = some (.inr (5, [.ref lc, .int (nI c.length)])) := by rw [eg_6, hs_n _ _ (h_ne q31_rc i_pg (fun h => by simp at h))]; exact q31_rc
            have f6_5 : g_6 lc = some (.inl (cI, cc, .inl fc)) := by rw [eg_6, hs_n _ _ (h_ne q31_lc i_pg (fun h => by cases h))]; exact q31_lc
            have f6_6 : g_6 oc = some (.inr (5, [.ref lo, .int (nI s.2.2.1.length)])) := by rw [eg_6, hs_n _ _ (h_ne i_oc i_pg (fun h => by simp at h))]; exact i_oc
            have f6_7 : g_6 lo = some (.inl (cI, 120, .inl fx)) := by rw [eg_6, hs_n _ _ (h_ne i_lo i_pg (fun h => by cases h))]; exact i_lo
            have f6_8 : g_6 hu = some (.inr (1, [.ref ce, .int (nI Hs.length), .ref cm])) := by rw [eg_6, hs_n _ _ (h_ne i_hu i_pg (fun h => by simp at h))]; exact i_hu
            have f6_9 : g_6 ce = some (.inl (cI, 244, .inl gc)) := by rw [eg_6, hs_n _ _ (h_ne i_ce i_pg (fun h => by cases h))]; exact i_ce
            have f6_10 : g_6 cm = some (.inr (0, [.ref pa, .ref pb, .int (nI n1), .ref len])) := by rw [eg_6, hs_n _ _ (h_ne i_cm i_pg (fun h => by simp at h))]; exact i_cm
            have f6_11 : g_6 pa = some (.inl (cI, 60, .inl gA)) := by rw [eg_6, hs_n _ _ (h_ne i_pa i_pg (fun h => by cases h))]; exact i_pa
            have f6_12 : g_6 pb = some (.inl (cI, 60, .inl gB)) := by rw [eg_6, hs_n _ _ (h_ne i_pb i_pg (fun h => by cases h))]; exact i_pb
            have f6_13 : g_6 len = some (.inl (cI, 3721, .inl gL)) := by rw [eg_6, hs_n _ _ (h_ne i_len i_pg (fun h => by cases h))]; exact i_len
            have f6_14 : g_6 pg = some (.inr (4, [.ref oc, .int (nI (s.2.2.2 + 1)), .ref hu])) := by rw [eg_6]; exact hs_s _ _ _
            have fr := fr.put eg_6 (by simp)
            refine lv_goto (tgt := 179) S0.1 S0.2.1 dPg_run_125 (by decide) ?_
            refine lv_iinc (v := nI (k + 1)) (lv' := [(6, .int (nI (k + 1))), (11, .int (-1)), (10, .int (nI h.2.2.1)), (9, .int (nI h.2.1)), (8, .int (nI h.1)), (7, .int (nI (k * 4))), (0, .ref pg), (1, .ref ra), (2, .ref rb), (3, .ref rc), (4, .int (nI s.1)), (5, .int (iZ s.2.1))]) S0.1 S0.2.1 dPg_run_179 hl (k := 11) rfl (by exact nI_add _ 1) (by decide) rfl (fun ls hl => ?_)
            refine lv_goto (tgt := 31) S0.1 S0.2.1 dPg_run_182 (by decide) ?_
            exact ih_31 (k + 1) (s.1, s.2.1, s.2.2.1, s.2.2.2 + 1) fx g_6 _ _ _ (by omega) (by omega) (by rw [take_snoc hget, pfold_snoc, ← hs_, pstep_none e9]) eo fr f6_14 f6_6 f6_7 f6_8 f6_9 f6_10 f6_11 f6_12 f6_13 hg hS (lv_sub hl [6, 7, 8, 9, 10, 11, 0] rfl)
        · skip
          have hp_104 : r_104 = nI p := by rw [hp_104, e9]; rfl
          subst hp_104
          have hin := nrst_in e9
          have hfi := (fitB_iff.mp hin.2.2).1
          refine lv_istore (lv' := [(11, .int (nI p)), (10, .int (nI h.2.2.1)), (9, .int (nI h.2.1)), (8, .int (nI h.1)), (7, .int (nI (k * 4))), (0, .ref pg), (1, .ref ra), (2, .ref rb), (3, .ref rc), (4, .int (nI s.1)), (5, .int (iZ s.2.1)), (6, .int (nI k))]) S0.1 S0.2.1 dPg_run_107 hl (by decide) rfl (fun ls hl => ?_)
          refine lv_iload S0.1 S0.2.1 dPg_run_109 (lv_at hl 0 rfl) ?_
          refine lv_iconst (v := (-1)) S0.1 S0.2.1 dPg_run_111 (by decide) ?_
          refine lv_icmp_ne (tgt := 128) S0.1 S0.2.1 dPg_run_112 (by decide) (fun c_112 => ?_) (fun c_112 => ?_)
          · skip
            refine lv_aload_n S0.1 S0.2.1 dPg_run_128 rfl (lv_at hl 5 rfl) ?_
            refine hw_get S0 hK hg i_pg rfl inPg 0 (by decide) lf_Pg_14 rfl rfl dPg_run_129 ?_
            refine lv_aload_n S0.1 S0.2.1 dPg_run_132 rfl (lv_at hl 8 rfl) ?_
            refine lv_iload S0.1 S0.2.1 dPg_run_133 (lv_at hl 9 rfl) ?_
            refine lv_iload S0.1 S0.2.1 dPg_run_135 (lv_at hl 0 rfl) ?_
            refine hw_Vv (As := [.ref rc, .int (nI s.1), .int (nI p)]) (rest := []) S0 hK hg hS hA0 i_oc rfl (c_Ro_addPart l D cI cR cJ gl _ oc lo s.2.2.1.length 120 rc lc c.length cc s.1 p fx fc i_oc i_lo q31_rc q31_lc n_rc_oc n_lc_lo (by omega) (by omega) (by first | omega | (rw [List.length_append, pt_len (by omega)]; omega)) (by omega) (by omega)) kRo_addPart lm_Pg_46 (hR.call rfl) rfl hl.1 rfl (Nat.le_of_ble_eq_true rfl) dPg_run_137 (hR.new (by decide) (by decide)) (fun g_7 H locs hp_137 hg hS => ?_)
            obtain ⟨frA137, z0137, fz137, z1137, z2137, z3137⟩ := hp_137
            have eo1 : rp fz137 (s.2.2.1 ++ pt c s.1 p) := rp_app eo ec (by omega) z2137 z3137
            have z0137 : g_7 oc = some (.inr (5, [.ref lo, .int (nI (s.2.2.1 ++ pt c s.1 p).length)])) := by rw [List.length_append, pt_len (by omega)]; exact z0137
            have k7_0 := frA137.at (h_nm n_ra_oc (h_nm (h_ne q31_ra i_lo (fun h => by cases h)) h_n0)) q31_ra
            have k7_1 := frA137.at (h_nm (h_ne q31_la i_oc (fun h => by cases h)) (h_nm n_la_lo h_n0)) q31_la
            have k7_2 := frA137.at (h_nm n_rb_oc (h_nm (h_ne q31_rb i_lo (fun h => by cases h)) h_n0)) q31_rb
            have k7_3 := frA137.at (h_nm (h_ne q31_lb i_oc (fun h => by cases h)) (h_nm n_lb_lo h_n0)) q31_lb
            have k7_4 := frA137.at (h_nm n_rc_oc (h_nm (h_ne q31_rc i_lo (fun h => by cases h)) h_n0)) q31_rc
            have k7_5 := frA137.at (h_nm (h_ne q31_lc i_oc (fun h => by cases h)) (h_nm n_lc_lo h_n0)) q31_lc
            have k7_6 := frA137.at (h_nm (h_ne i_pg i_oc (fun h => by simp at h)) (h_nm (h_ne i_pg i_lo (fun h => by cases h)) h_n0)) i_pg
            have k7_7 := frA137.at (h_nm (h_ne i_hu i_oc (fun h => by simp at h)) (h_nm (h_ne i_hu i_lo (fun h => by cases h)) h_n0)) i_hu
            have k7_8 := frA137.at (h_nm (h_ne i_ce i_oc (fun h => by cases h)) (h_nm n_ce_lo h_n0)) i_ce
            have k7_9 := frA137.at (h_nm (h_ne i_cm i_oc (fun h => by simp at h)) (h_nm (h_ne i_cm i_lo (fun h => by cases h)) h_n0)) i_cm
            have k7_10 := frA137.at (h_nm (h_ne i_pa i_oc (fun h => by cases h)) (h_nm n_pa_lo h_n0)) i_pa
            have k7_11 := frA137.at (h_nm (h_ne i_pb i_oc (fun h => by cases h)) (h_nm n_pb_lo h_n0)) i_pb
            have k7_12 := frA137.at (h_nm (h_ne i_len i_oc (fun h => by cases h)) (h_nm n_len_lo h_n0)) i_len
            have fr := fr.call frA137 (by simp)
            refine lv_aload_n S0.1 S0.2.1 dPg_run_140 rfl (lv_at hl 5 rfl) ?_
            refine hw_get S0 hK hg k7_6 rfl inPg 0 (by decide) lf_Pg_14 rfl rfl dPg_run_141 ?_
            refine lv_aload_n S0.1 S0.2.1 dPg_run_144 rfl (lv_at hl 7 rfl) ?_
            refine lv_iload S0.1 S0.2.1 dPg_run_145 (lv_at hl 1 rfl) ?_
            refine lv_iload S0.1 S0.2.1 dPg_run_147 (lv_at hl 1 rfl) ?_
            refine lv_aload_n S0.1 S0.2.1 dPg_run_149 rfl (lv_at hl 5 rfl) ?_
            refine hw_get S0 hK hg k7_6 rfl inPg 2 (by decide) lf_Pg_24 rfl rfl dPg_run_150 ?_
            refine hw_get S0 hK hg k7_7 rfl inHu 0 (by decide) lf_Pg_38 rfl rfl dPg_run_153 ?_
            refine lv_iload S0.1 S0.2.1 dPg_run_156 (lv_at hl 4 rfl) ?_
            refine lv_iconst (v := nI 3) S0.1 S0.2.1 dPg_run_158 (by decide) ?_
            refine lv_iadd S0.1 S0.2.1 dPg_run_159 ?_
            refine hw_top (nI ((k * 4) + 3)) (nI_add _ _) ?_
            refine hw_iald S0 hK hg k7_8 0 rfl (by omega) (by omega) dPg_run_160 ?_
            refine hw_top (nI h.2.2.2) q3 ?_
            refine lv_iadd S0.1 S0.2.1 dPg_run_161 ?_
            refine hw_top (nI (h.2.2.1 + h.2.2.2)) (nI_add _ _) ?_
            refine hw_Vv (As := [.ref rb, .int (nI h.2.2.1), .int (nI (h.2.2.1 + h.2.2.2))]) (rest := []) S0 hK hg hS hA0 z0137 rfl (c_Ro_addPart l D cI cR cJ g_7 _ oc lo (s.2.2.1 ++ pt c s.1 p).length 120 rb lb b.length cb h.2.2.1 (h.2.2.1 + h.2.2.2) fz137 fb z0137 z1137 k7_2 k7_3 n_rb_oc n_lb_lo (by omega) (by omega) (by first | omega | (rw [List.length_append, pt_len (by omega)]; omega)) (by omega) (by omega)) kRo_addPart lm_Pg_46 (hR.call rfl) rfl hl.1 rfl (Nat.le_of_ble_eq_true rfl) dPg_run_162 (hR.new (by decide) (by decide)) (fun g_8 H locs hp_162 hg hS => ?_)
            obtain ⟨frA162, z0162, fz162, z1162, z2162, z3162⟩ := hp_162
            have eo2 : rp fz162 ((s.2.2.1 ++ pt c s.1 p) ++ pt b h.2.2.1 (h.2.2.1 + h.2.2.2)) := rp_app eo1 eb (by omega) z2162 z3162
            have z0162 : g_8 oc = some (.inr (5, [.ref lo, .int (nI ((s.2.2.1 ++ pt c s.1 p) ++ pt b h.2.2.1 (h.2.2.1 + h.2.2.2)).length)])) := by rw [List.length_append, pt_len (by omega)]; exact z0162
            have k8_0 := frA162.at (h_nm n_ra_oc (h_nm (h_ne k7_0 z1137 (fun h => by cases h)) h_n0)) k7_0
            have k8_1 := frA162.at (h_nm (h_ne k7_1 z0137 (fun h => by cases h)) (h_nm n_la_lo h_n0)) k7_1
            have k8_2 := frA162.at (h_nm n_rb_oc (h_nm (h_ne k7_2 z1137 (fun h => by cases h)) h_n0)) k7_2
            have k8_3 := frA162.at (h_nm (h_ne k7_3 z0137 (fun h => by cases h)) (h_nm n_lb_lo h_n0)) k7_3
            have k8_4 := frA162.at (h_nm n_rc_oc (h_nm (h_ne k7_4 z1137 (fun h => by cases h)) h_n0)) k7_4
            have k8_5 := frA162.at (h_nm (h_ne k7_5 z0137 (fun h => by cases h)) (h_nm n_lc_lo h_n0)) k7_5
            have k8_6 := frA162.at (h_nm (h_ne k7_6 z0137 (fun h => by simp at h)) (h_nm (h_ne k7_6 z1137 (fun h => by cases h)) h_n0)) k7_6
            have k8_7 := frA162.at (h_nm (h_ne k7_7 z0137 (fun h => by simp at h)) (h_nm (h_ne k7_7 z1137 (fun h => by cases h)) h_n0)) k7_7
            have k8_8 := frA162.at (h_nm (h_ne k7_8 z0137 (fun h => by cases h)) (h_nm n_ce_lo h_n0)) k7_8
            have k8_9 := frA162.at (h_nm (h_ne k7_9 z0137 (fun h => by simp at h)) (h_nm (h_ne k7_9 z1137 (fun h => by cases h)) h_n0)) k7_9
            have k8_10 := frA162.at (h_nm (h_ne k7_10 z0137 (fun h => by cases h)) (h_nm n_pa_lo h_n0)) k7_10
            have k8_11 := frA162.at (h_nm (h_ne k7_11 z0137 (fun h => by cases h)) (h_nm n_pb_lo h_n0)) k7_11
            have k8_12 := frA162.at (h_nm (h_ne k7_12 z0137 (fun h => by cases h)) (h_nm n_len_lo h_n0)) k7_12
            have fr := fr.call frA162 (by simp)
            refine lv_iload S0.1 S0.2.1 dPg_run_165 (lv_at hl 0 rfl) ?_
            refine lv_iload S0.1 S0.2.1 dPg_run_167 (lv_at hl 2 rfl) ?_
            refine lv_iadd S0.1 S0.2.1 dPg_run_169 ?_
            refine hw_top (nI (p + h.2.1)) (nI_add _ _) ?_
            refine lv_istore (lv' := [(4, .int (nI (p + h.2.1))), (11, .int (nI p)), (10, .int (nI h.2.2.1)), (9, .int (nI h.2.1)), (8, .int (nI h.1)), (7, .int (nI (k * 4))), (0, .ref pg), (1, .ref ra), (2, .ref rb), (3, .ref rc), (5, .int (iZ s.2.1)), (6, .int (nI k))]) S0.1 S0.2.1 dPg_run_170 hl (by decide) rfl (fun ls hl => ?_)
            refine lv_iload S0.1 S0.2.1 dPg_run_172 (lv_at hl 1 rfl) ?_
            refine lv_iload S0.1 S0.2.1 dPg_run_174 (lv_at hl 4 rfl) ?_
            refine lv_isub S0.1 S0.2.1 dPg_run_176 ?_
            refine hw_top (iZ ((p : Int) - (h.1 : Int))) (nI_subI _ _) ?_
            refine lv_istore (lv' := [(5, .int (iZ ((p : Int) - (h.1 : Int)))), (4, .int (nI (p + h.2.1))), (11, .int (nI p)), (10, .int (nI h.2.2.1)), (9, .int (nI h.2.1)), (8, .int (nI h.1)), (7, .int (nI (k * 4))), (0, .ref pg), (1, .ref ra), (2, .ref rb), (3, .ref rc), (6, .int (nI k))]) S0.1 S0.2.1 dPg_run_177 hl (by decide) rfl (fun ls hl => ?_)
            refine lv_iinc (v := nI (k + 1)) (lv' := [(6, .int (nI (k + 1))), (5, .int (iZ ((p : Int) - (h.1 : Int)))), (4, .int (nI (p + h.2.1))), (11, .int (nI p)), (10, .int (nI h.2.2.1)), (9, .int (nI h.2.1)), (8, .int (nI h.1)), (7, .int (nI (k * 4))), (0, .ref pg), (1, .ref ra), (2, .ref rb), (3, .ref rc)]) S0.1 S0.2.1 dPg_run_179 hl (k := 11) rfl (by exact nI_add _ 1) (by decide) rfl (fun ls hl => ?_)
            refine lv_goto (tgt := 31) S0.1 S0.2.1 dPg_run_182 (by decide) ?_
            exact ih_31 (k + 1) (p + h.2.1, (p : Int) - (h.1 : Int), (s.2.2.1 ++ pt c s.1 p) ++ pt b h.2.2.1 (h.2.2.1 + h.2.2.2), s.2.2.2) fz162 g_8 _ _ _ (by omega) (by omega) (by rw [take_snoc hget, pfold_snoc, ← hs_, pstep_some e9]) eo2 fr k8_6 z0162 z1162 k8_7 k8_8 k8_9 k8_10 k8_11 k8_12 hg hS (lv_sub hl [8, 9, 10, 11, 2, 1, 0] rfl)
          · skip
            exact absurd c_112 (nI_m1 (by omega))
  exact loop_31 _ 0 (0, 0, [], 0) fo g_3 _ _ _ (Nat.lt_succ_self _) (Nat.zero_le _) rfl (rp_nil _) fr f3_14 f3_13 f3_6 f3_11 f3_12 f3_7 f3_8 f3_9 f3_10 hg hS (lv_sub hl [3, 4, 5, 6, 2, 1, 0] rfl)
end
section
/-! VERSIONS -/
set_option maxRecDepth 100000 in
set_option maxHeartbeats 4000000 in
theorem c_Ve_fillOrigins (l : Launch) (D : va_G) (cI cR cJ : ClassId) (g : Nat → Option va_E) (sz : Nat) (ve sv og nr ln cm pa pb len rx lx cx : Nat) (vs : List (List Nat)) (nw xs : List Int32) (fs fg fn fx_ fp0 fq0 fl : Nat → Int32) (cnt : Int32) (h0 : g ve = some (.inr (6, [.ref sv, .ref og, .int (nI vs.length), .ref nr, .ref cm]))) (h1 : g og = some (.inl (cI, 1800, .inl fg))) (h2 : g nr = some (.inr (5, [.ref ln, .int (nI nw.length)]))) (h3 : g ln = some (.inl (cI, 60, .inl fn))) (h4 : g rx = some (.inr (5, [.ref lx, .int (nI xs.length)]))) (h5 : g lx = some (.inl (cI, cx, .inl fx_))) (h6 : g cm = some (.inr (0, [.ref pa, .ref pb, .int cnt, .ref len]))) (h7 : g pa = some (.inl (cI, 60, .inl fp0))) (h8 : g pb = some (.inl (cI, 60, .inl fq0))) (h9 : g len = some (.inl (cI, 3721, .inl fl))) (en : rp fn nw) (ex : rp fx_ xs) (hx6 : xs.length ≤ 60) (hcx : xs.length ≤ cx) (hdx : cx < 4000) (hv : vok vs nw) (hv3 : vs.length < 30) (hg_ : rpV fg vs) (n_ln_pa : ln ≠ pa) (n_ln_pb : ln ≠ pb) (n_ln_len : ln ≠ len) (n_ln_og : ln ≠ og) (n_lx_pa : lx ≠ pa) (n_lx_pb : lx ≠ pb) (n_lx_len : lx ≠ len) (n_lx_og : lx ≠ og) (n_pa_pb : pa ≠ pb) (n_pa_len : pa ≠ len) (n_pa_og : pa ≠ og) (n_pb_len : pb ≠ len) (n_pb_og : pb ≠ og) (n_len_og : len ≠ og) : hMv l yVe_fillOrigins cVe_fillOrigins 4 (hRm 3 73 0 0) D (hT cI cR cJ) g sz [.ref ve, .ref rx] (fun g1 => hfr g g1 [og, cm, pa, pb, len] ∧ ∃ (f1 gp gq gl_ : Nat → Int32) (k2 : Int32), g1 og = some (.inl (cI, 1800, .inl f1)) ∧ g1 cm = some (.inr (0, [.ref pa, .ref pb, .int k2, .ref len])) ∧ g1 pa = some (.inl (cI, 60, .inl gp)) ∧ g1 pb = some (.inl (cI, 60, .inl gq)) ∧ g1 len = some (.inl (cI, 3721, .inl gl_)) ∧ (∀ q, q < vs.length * 60 → f1 q = fg q) ∧ ∀ k, k < xs.length → f1 (vs.length * 60 + k) = nI ((orig vs nw xs).getD k 0)) := by
  refine hMv_of (by decide +kernel) (Nat.le_of_ble_eq_true rfl) ?_
  intro pX eX RX sX mX argsX belowX methX cX QX AX hR S0 hnm hsz hg hK hS hA0 hend ls hl
  have hl : lv_has ls 4 [(0, .ref ve), (1, .ref rx)] := hl
  have fr : hfr g g [og, cm, pa, pb, len] := hfr.rf
  obtain ⟨v1, v2, v3, v4, v5⟩ := id hv
  refine lv_aload_n S0.1 S0.2.1 dVe_fillOrigins_0 rfl (lv_at hl 0 rfl) ?_
  refine hw_get S0 hK hg h0 rfl inVe 2 (by decide) lf_Ve_18 rfl rfl dVe_fillOrigins_1 ?_
  refine lv_bipush (v := nI 60) S0.1 S0.2.1 dVe_fillOrigins_4 (by decide) ?_
  refine lv_imul S0.1 S0.2.1 dVe_fillOrigins_6 ?_
  refine hw_top (nI (vs.length * 60)) (pk_mul _ _) ?_
  refine lv_istore_n (lv' := [(2, .int (nI (vs.length * 60))), (0, .ref ve), (1, .ref rx)]) S0.1 S0.2.1 dVe_fillOrigins_7 rfl hl (by decide) rfl (fun ls hl => ?_)
  refine lv_iconst (v := nI 0) S0.1 S0.2.1 dVe_fillOrigins_8 (by decide) ?_
  refine lv_istore_n (lv' := [(3, .int (nI 0)), (2, .int (nI (vs.length * 60))), (0, .ref ve), (1, .ref rx)]) S0.1 S0.2.1 dVe_fillOrigins_9 rfl hl (by decide) rfl (fun ls hl => ?_)
  have loop_10 : ∀ (n_10 : Nat) (k : Nat) (fk : Nat → Int32) (gl : Nat → Option va_E) (H : Heap) (locs : List Loc) (ls : Array Slot), xs.length - k < n_10 → (k ≤ xs.length) → (∀ q, q < vs.length * 60 → fk q = fg q) → (∀ q, q < k → fk (vs.length * 60 + q) = nI vs.length) → (hfr g gl [og, cm, pa, pb, len]) → (gl og = some (.inl (cI, 1800, .inl fk))) → (gl cm = some (.inr (0, [.ref pa, .ref pb, .int cnt, .ref len]))) → (gl pa = some (.inl (cI, 60, .inl fp0))) → (gl pb = some (.inl (cI, 60, .inl fq0))) → (gl len = some (.inl (cI, 3721, .inl fl))) → hw D hC AX gl H → va_S AX sX.heap H locs → lv_has ls 4 [(0, .ref ve), (1, .ref rx), (2, .int (nI (vs.length * 60))), (3, .int (nI k))] → W pX l eX RX sX mX argsX belowX methX cX H locs 0 0 QX (F0 mX 10 ls []) := by
    intro n_10
    induction n_10 with
    | zero => intros; omega
    | succ n_10 ih_10 =>
      intro k fk gl H locs ls hm_10 hk hq1 hq2 fr e1 e_cm e_pa e_pb e_len hg hS hl
      have q10_ve := fr.at (h_nm (h_ne h0 h1 (fun h => by cases h)) (h_nm (h_ne h0 h6 (fun h => by simp at h)) (h_nm (h_ne h0 h7 (fun h => by cases h)) (h_nm (h_ne h0 h8 (fun h => by cases h)) (h_nm (h_ne h0 h9 (fun h => by cases h)) h_n0))))) h0
      have q10_nr := fr.at (h_nm (h_ne h2 h1 (fun h => by cases h)) (h_nm (h_ne h2 h6 (fun h => by simp at h)) (h_nm (h_ne h2 h7 (fun h => by cases h)) (h_nm (h_ne h2 h8 (fun h => by cases h)) (h_nm (h_ne h2 h9 (fun h => by cases h)) h_n0))))) h2
      have q10_ln := fr.at (h_nm n_ln_og (h_nm (h_ne h3 h6 (fun h => by cases h)) (h_nm n_ln_pa (h_nm n_ln_pb (h_nm n_ln_len h_n0))))) h3
      have q10_rx := fr.at (h_nm (h_ne h4 h1 (fun h => by cases h)) (h_nm (h_ne h4 h6 (fun h => by simp at h)) (h_nm (h_ne h4 h7 (fun h => by cases h)) (h_nm (h_ne h4 h8 (fun h => by cases h)) (h_nm (h_ne h4 h9 (fun h => by cases h)) h_n0))))) h4
      have q10_lx := fr.at (h_nm n_lx_og (h_nm (h_ne h5 h6 (fun h => by cases h)) (h_nm n_lx_pa (h_nm n_lx_pb (h_nm n_lx_len h_n0))))) h5
      refine lv_iload_n S0.1 S0.2.1 dVe_fillOrigins_10 rfl (lv_at hl 3 rfl) ?_
      refine lv_aload_n S0.1 S0.2.1 dVe_fillOrigins_11 rfl (lv_at hl 1 rfl) ?_
      refine hw_get S0 hK hg q10_rx rfl inRo 1 (by decide) lf_Ve_39 rfl rfl dVe_fillOrigins_12 ?_
      refine lv_icmp_ge (tgt := 36) S0.1 S0.2.1 dVe_fillOrigins_15 (by decide) (fun c_15 => ?_) (fun c_15 => ?_)
      · skip
        have c_15 : xs.length ≤ k := (nI_leI (by omega) (by omega)).mp c_15
        refine lv_aload_n S0.1 S0.2.1 dVe_fillOrigins_36 rfl (lv_at hl 0 rfl) ?_
        refine hw_get S0 hK hg q10_ve rfl inVe 2 (by decide) lf_Ve_18 rfl rfl dVe_fillOrigins_37 ?_
        refine lv_if_le (tgt := 109) S0.1 S0.2.1 dVe_fillOrigins_40 (by decide) (fun c_40 => ?_) (fun c_40 => ?_)
        · skip
          rw [← nI_0] at c_40
          have c_40 : vs.length ≤ 0 := (nI_leI (by omega) (by omega)).mp c_40
          have e0 : vs.length = 0 := by omega
          have enw := v4 e0
          have eor : orig vs nw xs = List.replicate xs.length vs.length := by rw [enw]; rfl
          exact hend _ _ _ _ _ _ _ (by decide) (by decide) (⟨fr, fk, _, _, _, _, e1, e_cm, e_pa, e_pb, e_len, hq1, fun q h => by rw [eor, getD_rep h]; exact hq2 q (by omega)⟩) hg hS dVe_fillOrigins_109
        · skip
          rw [← nI_0] at c_40
          have c_40 : ¬ (vs.length ≤ 0) := fun h => c_40 ((nI_leI (by omega) (by omega)).mpr h)
          refine lv_aload_n S0.1 S0.2.1 dVe_fillOrigins_43 rfl (lv_at hl 0 rfl) ?_
          refine hw_get S0 hK hg q10_ve rfl inVe 4 (by decide) lf_Ve_31 rfl rfl dVe_fillOrigins_44 ?_
          refine lv_aload_n S0.1 S0.2.1 dVe_fillOrigins_47 rfl (lv_at hl 0 rfl) ?_
          refine hw_get S0 hK hg q10_ve rfl inVe 3 (by decide) lf_Ve_27 rfl rfl dVe_fillOrigins_48 ?_
          refine lv_aload_n S0.1 S0.2.1 dVe_fillOrigins_51 rfl (lv_at hl 1 rfl) ?_
          refine hw_Vv (As := [.ref nr, .ref rx]) (rest := []) S0 hK hg hS hA0 e_cm rfl (c_Co_find l D cI cR cJ gl _ cm pa pb len nr ln 60 rx lx cx cnt nw xs fn fx_ fl e_cm e_len q10_nr q10_ln q10_rx q10_lx en ex n_ln_len n_lx_len v2 hx6 v2 hcx (by omega) hdx fp0 fq0 e_pa e_pb n_ln_pa n_ln_pb n_lx_pa n_lx_pb n_pa_pb n_pa_len n_pb_len) kCo_find lm_Ve_43 (hR.call rfl) rfl hl.1 rfl (Nat.le_of_ble_eq_true rfl) dVe_fillOrigins_52 (hR.new (by decide) (by decide)) (fun g_1 H locs hp_52 hg hS => ?_)
          obtain ⟨fr1, fA, fB, fL, a0, a1, a2, a3, hA, hB⟩ := hp_52
          have eor : orig vs nw xs = ofold (vs.getD (vs.length - 1) []) (prs nw xs nw.length) (List.replicate xs.length vs.length) := rfl
          have hP60 := prs_len nw xs nw.length
          have hfl := fro_le nw xs nw.length
          generalize hP : prs nw xs nw.length = P at a0 hA hB eor hP60
          have k1_0 := fr1.at (h_nm (h_ne q10_ve e_cm (fun h => by simp at h)) (h_nm (h_ne q10_ve e_pa (fun h => by cases h)) (h_nm (h_ne q10_ve e_pb (fun h => by cases h)) (h_nm (h_ne q10_ve e_len (fun h => by cases h)) h_n0)))) q10_ve
          have k1_1 := fr1.at (h_nm (h_ne q10_nr e_cm (fun h => by simp at h)) (h_nm (h_ne q10_nr e_pa (fun h => by cases h)) (h_nm (h_ne q10_nr e_pb (fun h => by cases h)) (h_nm (h_ne q10_nr e_len (fun h => by cases h)) h_n0)))) q10_nr
          have k1_2 := fr1.at (h_nm (h_ne q10_ln e_cm (fun h => by cases h)) (h_nm n_ln_pa (h_nm n_ln_pb (h_nm n_ln_len h_n0)))) q10_ln
          have k1_3 := fr1.at (h_nm (h_ne q10_rx e_cm (fun h => by simp at h)) (h_nm (h_ne q10_rx e_pa (fun h => by cases h)) (h_nm (h_ne q10_rx e_pb (fun h => by cases h)) (h_nm (h_ne q10_rx e_len (fun h => by cases h)) h_n0)))) q10_rx
          have k1_4 := fr1.at (h_nm (h_ne q10_lx e_cm (fun h => by cases h)) (h_nm n_lx_pa (h_nm n_lx_pb (h_nm n_lx_len h_n0)))) q10_lx
          have k1_5 := fr1.at (h_nm (h_ne e1 e_cm (fun h => by cases h)) (h_nm (Ne.symm n_pa_og) (h_nm (Ne.symm n_pb_og) (h_nm (Ne.symm n_len_og) h_n0)))) e1
          have fr := fr.call fr1 (by simp)
          have e5 := v5 (by omega)
          generalize hpv : vs.getD (vs.length - 1) [] = pv at eor e5
          refine lv_iconst (v := nI 0) S0.1 S0.2.1 dVe_fillOrigins_55 (by decide) ?_
          refine lv_istore_n (lv' := [(3, .int (nI 0)), (0, .ref ve), (1, .ref rx), (2, .int (nI (vs.length * 60)))]) S0.1 S0.2.1 dVe_fillOrigins_56 rfl hl (by decide) rfl (fun ls hl => ?_)
          have loop_57 : ∀ (n_57 : Nat) (j : Nat) (fj : Nat → Int32) (gm : Nat → Option va_E) (H : Heap) (locs : List Loc) (ls : Array Slot), P.length - j < n_57 → (j ≤ P.length) → (∀ q, q < vs.length * 60 → fj q = fg q) → (∀ q, q < xs.length → fj (vs.length * 60 + q) = nI ((ofold pv (P.take j) (List.replicate xs.length vs.length)).getD q 0)) → (hfr g gm [og, cm, pa, pb, len]) → (gm og = some (.inl (cI, 1800, .inl fj))) → (gm cm = some (.inr (0, [.ref pa, .ref pb, .int (nI P.length), .ref len]))) → (gm pa = some (.inl (cI, 60, .inl fA))) → (gm pb = some (.inl (cI, 60, .inl fB))) → (gm len = some (.inl (cI, 3721, .inl fL))) → hw D hC AX gm H → va_S AX sX.heap H locs → lv_has ls 4 [(0, .ref ve), (1, .ref rx), (2, .int (nI (vs.length * 60))), (3, .int (nI j))] → W pX l eX RX sX mX argsX belowX methX cX H locs 0 0 QX (F0 mX 57 ls []) := by
            intro n_57
            induction n_57 with
            | zero => intros; omega
            | succ n_57 ih_57 =>
              intro j fj gm H locs ls hm_57 hj hr1 hr2 fr d1 d_cm d_pa d_pb d_len hg hS hl
              have q57_ve := fr.at (h_nm (h_ne k1_0 k1_5 (fun h => by cases h)) (h_nm (h_ne k1_0 a0 (fun h => by simp at h)) (h_nm (h_ne k1_0 a1 (fun h => by cases h)) (h_nm (h_ne k1_0 a2 (fun h => by cases h)) (h_nm (h_ne k1_0 a3 (fun h => by cases h)) h_n0))))) h0
              have q57_nr := fr.at (h_nm (h_ne k1_1 k1_5 (fun h => by cases h)) (h_nm (h_ne k1_1 a0 (fun h => by simp at h)) (h_nm (h_ne k1_1 a1 (fun h => by cases h)) (h_nm (h_ne k1_1 a2 (fun h => by cases h)) (h_nm (h_ne k1_1 a3 (fun h => by cases h)) h_n0))))) h2
              have q57_ln := fr.at (h_nm n_ln_og (h_nm (h_ne k1_2 a0 (fun h => by cases h)) (h_nm n_ln_pa (h_nm n_ln_pb (h_nm n_ln_len h_n0))))) h3
              have q57_rx := fr.at (h_nm (h_ne k1_3 k1_5 (fun h => by cases h)) (h_nm (h_ne k1_3 a0 (fun h => by simp at h)) (h_nm (h_ne k1_3 a1 (fun h => by cases h)) (h_nm (h_ne k1_3 a2 (fun h => by cases h)) (h_nm (h_ne k1_3 a3 (fun h => by cases h)) h_n0))))) h4
              have q57_lx := fr.at (h_nm n_lx_og (h_nm (h_ne k1_4 a0 (fun h => by cases h)) (h_nm n_lx_pa (h_nm n_lx_pb (h_nm n_lx_len h_n0))))) h5
              refine lv_iload_n S0.1 S0.2.1 dVe_fillOrigins_57 rfl (lv_at hl 3 rfl) ?_
              refine lv_aload_n S0.1 S0.2.1 dVe_fillOrigins_58 rfl (lv_at hl 0 rfl) ?_
              refine hw_get S0 hK hg q57_ve rfl inVe 4 (by decide) lf_Ve_31 rfl rfl dVe_fillOrigins_59 ?_
              refine hw_get S0 hK hg d_cm rfl inCo 2 (by decide) lf_Ve_49 rfl rfl dVe_fillOrigins_62 ?_
              refine lv_icmp_ge (tgt := 109) S0.1 S0.2.1 dVe_fillOrigins_65 (by decide) (fun c_65 => ?_) (fun c_65 => ?_)
              · skip
                have c_65 : P.length ≤ j := (nI_leI (by omega) (by omega)).mp c_65
                have ej : j = P.length := by omega
                rw [ej, List.take_length, ← eor] at hr2
                exact hend _ _ _ _ _ _ _ (by decide) (by decide) (⟨fr, fj, _, _, _, _, d1, d_cm, d_pa, d_pb, d_len, hr1, hr2⟩) hg hS dVe_fillOrigins_109
              · skip
                have c_65 : ¬ (P.length ≤ j) := fun h => c_65 ((nI_leI (by omega) (by omega)).mpr h)
                obtain ⟨ia, jb, hget, htk, hpn, hin⟩ := prs_take (a := nw) (b := xs) (n := nw.length) (k := j) (by rw [hP]; omega)
                rw [hP] at hget htk
                have eA : fA j = nI ia := rpN_at hA hget
                have eB : fB j = nI jb := rpN_at hB hget
                have hsp := stp_spec (show stp nw xs (fro nw xs ia) ia = some jb from hpn)
                have hval : fj (vs.length * 60 - 60 + ia) = nI (pv.getD ia 0) := by rw [hr1 _ (by omega), show vs.length * 60 - 60 + ia = (vs.length - 1) * 60 + ia by omega, ← hpv]; exact hg_ (vs.length - 1) ia (by omega) (by rw [hpv]; omega)
                refine lv_aload_n S0.1 S0.2.1 dVe_fillOrigins_68 rfl (lv_at hl 0 rfl) ?_
                refine hw_get S0 hK hg q57_ve rfl inVe 1 (by decide) lf_Ve_15 rfl rfl dVe_fillOrigins_69 ?_
                refine lv_iload_n S0.1 S0.2.1 dVe_fillOrigins_72 rfl (lv_at hl 2 rfl) ?_
                refine lv_aload_n S0.1 S0.2.1 dVe_fillOrigins_73 rfl (lv_at hl 0 rfl) ?_
                refine hw_get S0 hK hg q57_ve rfl inVe 4 (by decide) lf_Ve_31 rfl rfl dVe_fillOrigins_74 ?_
                refine hw_get S0 hK hg d_cm rfl inCo 1 (by decide) lf_Ve_50 rfl rfl dVe_fillOrigins_77 ?_
                refine lv_iload_n S0.1 S0.2.1 dVe_fillOrigins_80 rfl (lv_at hl 3 rfl) ?_
                refine hw_iald S0 hK hg d_pb 0 rfl (by omega) (by omega) dVe_fillOrigins_81 ?_
                refine hw_top (nI jb) eB ?_
                refine lv_iadd S0.1 S0.2.1 dVe_fillOrigins_82 ?_
                refine hw_top (nI ((vs.length * 60) + jb)) (nI_add _ _) ?_
                refine lv_aload_n S0.1 S0.2.1 dVe_fillOrigins_83 rfl (lv_at hl 0 rfl) ?_
                refine hw_get S0 hK hg q57_ve rfl inVe 1 (by decide) lf_Ve_15 rfl rfl dVe_fillOrigins_84 ?_
                refine lv_iload_n S0.1 S0.2.1 dVe_fillOrigins_87 rfl (lv_at hl 2 rfl) ?_
                refine lv_bipush (v := nI 60) S0.1 S0.2.1 dVe_fillOrigins_88 (by decide) ?_
                refine lv_isub S0.1 S0.2.1 dVe_fillOrigins_90 ?_
                refine hw_top (nI ((vs.length * 60) - 60)) (pk_sub (by omega)) ?_
                refine lv_aload_n S0.1 S0.2.1 dVe_fillOrigins_91 rfl (lv_at hl 0 rfl) ?_
                refine hw_get S0 hK hg q57_ve rfl inVe 4 (by decide) lf_Ve_31 rfl rfl dVe_fillOrigins_92 ?_
                refine hw_get S0 hK hg d_cm rfl inCo 0 (by decide) lf_Ve_53 rfl rfl dVe_fillOrigins_95 ?_
                refine lv_iload_n S0.1 S0.2.1 dVe_fillOrigins_98 rfl (lv_at hl 3 rfl) ?_
                refine hw_iald S0 hK hg d_pa 0 rfl (by omega) (by omega) dVe_fillOrigins_99 ?_
                refine hw_top (nI ia) eA ?_
                refine lv_iadd S0.1 S0.2.1 dVe_fillOrigins_100 ?_
                refine hw_top (nI (((vs.length * 60) - 60) + ia)) (nI_add _ _) ?_
                refine hw_iald S0 hK hg d1 0 rfl (by omega) (by omega) dVe_fillOrigins_101 ?_
                refine hw_iast S0 hK hg hS d1 0 rfl (by omega) (by omega) dVe_fillOrigins_102 (fun H locs hg hS => ?_)
                obtain ⟨g_2, eg_2⟩ : ∃ z, z = hs gm og (.inl (cI, 1800, .inl (upd fj ((vs.length * 60) + jb) (fj (((vs.length * 60) - 60) + ia))))) := ⟨_, rfl⟩
                have hg : hw D hC AX g_2 H := by rw [eg_2]; exact hg
                have f2_0 : g_2 ve = some (.inr (6, [.ref sv, .ref og, .int (nI vs.length), .ref nr, .ref cm])) := by rw [eg_2, hs_n _ _ (h_ne q57_ve d1 (fun h => by cases h))]; exact q57_ve
                have f2_1 : g_2 nr = some (.inr (5, [.ref ln, .int (nI nw.length)])) := by rw [eg_2, hs_n _ _ (h_ne q57_nr d1 (fun h => by cases h))]; exact q57_nr
                have f2_2 : g_2 ln = some (.inl (cI, 60, .inl fn)) := by rw [eg_2, hs_n _ _ n_ln_og]; exact q57_ln
                have f2_3 : g_2 rx = some (.inr (5, [.ref lx, .int (nI xs.length)])) := by rw [eg_2, hs_n _ _ (h_ne q57_rx d1 (fun h => by cases h))]; exact q57_rx
                have f2_4 : g_2 lx = some (.inl (cI, cx, .inl fx_)) := by rw [eg_2, hs_n _ _ n_lx_og]; exact q57_lx
                have f2_5 : g_2 cm = some (.inr (0, [.ref pa, .ref pb, .int (nI P.length), .ref len])) := by rw [eg_2, hs_n _ _ (h_ne d_cm d1 (fun h => by cases h))]; exact d_cm
                have f2_6 : g_2 pa = some (.inl (cI, 60, .inl fA)) := by rw [eg_2, hs_n _ _ n_pa_og]; exact d_pa
                have f2_7 : g_2 pb = some (.inl (cI, 60, .inl fB)) := by rw [eg_2, hs_n _ _ n_pb_og]; exact d_pb
                have f2_8 : g_2 len = some (.inl (cI, 3721, .inl fL)) := by rw [eg_2, hs_n _ _ n_len_og]; exact d_len
                have f2_9 : g_2 og = some (.inl (cI, 1800, .inl (upd fj ((vs.length * 60) + jb) (fj (((vs.length * 60) - 60) + ia))))) := by rw [eg_2]; exact hs_s _ _ _
                have fr := fr.put eg_2 (by simp)
                refine lv_iinc (v := nI (j + 1)) (lv' := [(3, .int (nI (j + 1))), (0, .ref ve), (1, .ref rx), (2, .int (nI (vs.length * 60)))]) S0.1 S0.2.1 dVe_fillOrigins_103 hl (k := 3) rfl (by exact nI_add _ 1) (by decide) rfl (fun ls hl => ?_)
                refine lv_goto (tgt := 57) S0.1 S0.2.1 dVe_fillOrigins_106 (by decide) ?_
                exact ih_57 (j + 1) (upd fj ((vs.length * 60) + jb) (fj (((vs.length * 60) - 60) + ia))) g_2 _ _ _ (by omega) (by omega) (fun q h => by rw [pk_un (by omega)]; exact hr1 q h) (fun q h => by rw [take_snoc hget, ofold_snoc, getD_set (by rw [ofold_len, List.length_replicate]; omega)]; by_cases e : q = jb; rw [if_pos e, e, pk_us, hval]; rw [if_neg e, pk_un (by omega)]; exact hr2 q h) fr f2_9 f2_5 f2_6 f2_7 f2_8 hg hS (lv_sub hl [1, 2, 3, 0] rfl)
          exact loop_57 _ 0 fk g_1 _ _ _ (Nat.lt_succ_self _) (Nat.zero_le _) hq1 (fun q h => by rw [List.take_zero]; rw [show ofold pv [] (List.replicate xs.length vs.length) = List.replicate xs.length vs.length from rfl, getD_rep h]; exact hq2 q (by omega)) fr k1_5 a0 a1 a2 a3 hg hS (lv_sub hl [1, 2, 3, 0] rfl)
      · skip
        have c_15 : ¬ (xs.length ≤ k) := fun h => c_15 ((nI_leI (by omega) (by omega)).mpr h)
        refine lv_aload_n S0.1 S0.2.1 dVe_fillOrigins_18 rfl (lv_at hl 0 rfl) ?_
        refine hw_get S0 hK hg q10_ve rfl inVe 1 (by decide) lf_Ve_15 rfl rfl dVe_fillOrigins_19 ?_
        refine lv_iload_n S0.1 S0.2.1 dVe_fillOrigins_22 rfl (lv_at hl 2 rfl) ?_
        refine lv_iload_n S0.1 S0.2.1 dVe_fillOrigins_23 rfl (lv_at hl 3 rfl) ?_
        refine lv_iadd S0.1 S0.2.1 dVe_fillOrigins_24 ?_
        refine hw_top (nI ((vs.length * 60) + k)) (nI_add _ _) ?_
        refine lv_aload_n S0.1 S0.2.1 dVe_fillOrigins_25 rfl (lv_at hl 0 rfl) ?_
        refine hw_get S0 hK hg q10_ve rfl inVe 2 (by decide) lf_Ve_18 rfl rfl dVe_fillOrigins_26 ?_
        refine hw_iast S0 hK hg hS e1 0 rfl (by omega) (by omega) dVe_fillOrigins_29 (fun H locs hg hS => ?_)
        obtain ⟨g_3, eg_3⟩ : ∃ z, z = hs gl og (.inl (cI, 1800, .inl (upd fk ((vs.length * 60) + k) (nI vs.length)))) := ⟨_, rfl⟩
        have hg : hw D hC AX g_3 H := by rw [eg_3]; exact hg
        have f3_0 : g_3 ve = some (.inr (6, [.ref sv, .ref og, .int (nI vs.length), .ref nr, .ref cm])) := by rw [eg_3, hs_n _ _ (h_ne q10_ve e1 (fun h => by cases h))]; exact q10_ve
        have f3_1 : g_3 nr = some (.inr (5, [.ref ln, .int (nI nw.length)])) := by rw [eg_3, hs_n _ _ (h_ne q10_nr e1 (fun h => by cases h))]; exact q10_nr
        have f3_2 : g_3 ln = some (.inl (cI, 60, .inl fn)) := by rw [eg_3, hs_n _ _ n_ln_og]; exact q10_ln
        have f3_3 : g_3 rx = some (.inr (5, [.ref lx, .int (nI xs.length)])) := by rw [eg_3, hs_n _ _ (h_ne q10_rx e1 (fun h => by cases h))]; exact q10_rx
        have f3_4 : g_3 lx = some (.inl (cI, cx, .inl fx_)) := by rw [eg_3, hs_n _ _ n_lx_og]; exact q10_lx
        have f3_5 : g_3 cm = some (.inr (0, [.ref pa, .ref pb, .int cnt, .ref len])) := by rw [eg_3, hs_n _ _ (h_ne e_cm e1 (fun h => by cases h))]; exact e_cm
        have f3_6 : g_3 pa = some (.inl (cI, 60, .inl fp0)) := by rw [eg_3, hs_n _ _ n_pa_og]; exact e_pa
        have f3_7 : g_3 pb = some (.inl (cI, 60, .inl fq0)) := by rw [eg_3, hs_n _ _ n_pb_og]; exact e_pb
        have f3_8 : g_3 len = some (.inl (cI, 3721, .inl fl)) := by rw [eg_3, hs_n _ _ n_len_og]; exact e_len
        have f3_9 : g_3 og = some (.inl (cI, 1800, .inl (upd fk ((vs.length * 60) + k) (nI vs.length)))) := by rw [eg_3]; exact hs_s _ _ _
        have fr := fr.put eg_3 (by simp)
        refine lv_iinc (v := nI (k + 1)) (lv' := [(3, .int (nI (k + 1))), (0, .ref ve), (1, .ref rx), (2, .int (nI (vs.length * 60)))]) S0.1 S0.2.1 dVe_fillOrigins_30 hl (k := 3) rfl (by exact nI_add _ 1) (by decide) rfl (fun ls hl => ?_)
        refine lv_goto (tgt := 10) S0.1 S0.2.1 dVe_fillOrigins_33 (by decide) ?_
        exact ih_10 (k + 1) (upd fk ((vs.length * 60) + k) (nI vs.length)) g_3 _ _ _ (by omega) (by omega) (fun q h => by rw [pk_un (by omega)]; exact hq1 q h) (fun q h => by rcases Nat.lt_or_ge q k with h9 | h9; rw [pk_un (by omega)]; exact hq2 q h9; rw [show q = k by omega, pk_us]) fr f3_9 f3_5 f3_6 f3_7 f3_8 hg hS (lv_sub hl [1, 2, 3, 0] rfl)
  exact loop_10 _ 0 fg g _ _ _ (Nat.lt_succ_self _) (Nat.zero_le _) (fun q h => rfl) (fun q h => absurd h (Nat.not_lt_zero q)) fr h1 h6 h7 h8 h9 hg hS (lv_sub hl [2, 3, 1, 0] rfl)
set_option maxRecDepth 100000 in
set_option maxHeartbeats 4000000 in
theorem c_Ve_add (l : Launch) (D : va_G) (cI cR cJ : ClassId) (g : Nat → Option va_E) (sz : Nat) (ve sv og nr ln cm pa pb len rx lx cx : Nat) (vs : List (List Nat)) (nw xs : List Int32) (fs fg fn fx_ fp0 fq0 fl : Nat → Int32) (cnt : Int32) (h0 : g ve = some (.inr (6, [.ref sv, .ref og, .int (nI vs.length), .ref nr, .ref cm]))) (h1 : g og = some (.inl (cI, 1800, .inl fg))) (h2 : g nr = some (.inr (5, [.ref ln, .int (nI nw.length)]))) (h3 : g ln = some (.inl (cI, 60, .inl fn))) (h4 : g rx = some (.inr (5, [.ref lx, .int (nI xs.length)]))) (h5 : g lx = some (.inl (cI, cx, .inl fx_))) (h6 : g cm = some (.inr (0, [.ref pa, .ref pb, .int cnt, .ref len]))) (h7 : g pa = some (.inl (cI, 60, .inl fp0))) (h8 : g pb = some (.inl (cI, 60, .inl fq0))) (h9 : g len = some (.inl (cI, 3721, .inl fl))) (en : rp fn nw) (ex : rp fx_ xs) (hx6 : xs.length ≤ 60) (hcx : xs.length ≤ cx) (hdx : cx < 4000) (hv : vok vs nw) (hv3 : vs.length < 30) (hg_ : rpV fg vs) (n_ln_pa : ln ≠ pa) (n_ln_pb : ln ≠ pb) (n_ln_len : ln ≠ len) (n_ln_og : ln ≠ og) (n_lx_pa : lx ≠ pa) (n_lx_pb : lx ≠ pb) (n_lx_len : lx ≠ len) (n_lx_og : lx ≠ og) (n_pa_pb : pa ≠ pb) (n_pa_len : pa ≠ len) (n_pa_og : pa ≠ og) (n_pb_len : pb ≠ len) (n_pb_og : pb ≠ og) (n_len_og : len ≠ og) (n_ln_lx : ln ≠ lx) (n_nr_rx : nr ≠ rx) (n_ln_sv : ln ≠ sv) (n_lx_sv : lx ≠ sv) (n_pa_sv : pa ≠ sv) (n_pb_sv : pb ≠ sv) (n_len_sv : len ≠ sv) (n_og_sv : og ≠ sv) (h10 : g sv = some (.inl (cI, 30, .inl fs))) (hs_ : rpS fs vs) : hMv l yVe_add cVe_add 2 (hRm 4 96 0 0) D (hT cI cR cJ) g sz [.ref ve, .ref rx] (fun g1 => hfr g g1 [ve, sv, og, nr, ln, cm, pa, pb, len] ∧ ∃ (f1 f2 f3 gp gq gl_ : Nat → Int32) (k2 : Int32), g1 ve = some (.inr (6, [.ref sv, .ref og, .int (nI (vs.length + 1)), .ref nr, .ref cm])) ∧ g1 sv = some (.inl (cI, 30, .inl f2)) ∧ g1 og = some (.inl (cI, 1800, .inl f1)) ∧ g1 nr = some (.inr (5, [.ref ln, .int (nI xs.length)])) ∧ g1 ln = some (.inl (cI, 60, .inl f3)) ∧ g1 cm = some (.inr (0, [.ref pa, .ref pb, .int k2, .ref len])) ∧ g1 pa = some (.inl (cI, 60, .inl gp)) ∧ g1 pb = some (.inl (cI, 60, .inl gq)) ∧ g1 len = some (.inl (cI, 3721, .inl gl_)) ∧ rp f3 xs ∧ rpV f1 (vs ++ [orig vs nw xs]) ∧ rpS f2 (vs ++ [orig vs nw xs])) := by
  refine hMv_of (by decide +kernel) (Nat.le_of_ble_eq_true rfl) ?_
  intro pX eX RX sX mX argsX belowX methX cX QX AX hR S0 hnm hsz hg hK hS hA0 hend ls hl
  have hl : lv_has ls 2 [(0, .ref ve), (1, .ref rx)] := hl
  have fr : hfr g g [ve, sv, og, nr, ln, cm, pa, pb, len] := hfr.rf
  obtain ⟨v1, v2, v3, v4, v5⟩ := id hv
  refine lv_aload_n S0.1 S0.2.1 dVe_add_0 rfl (lv_at hl 0 rfl) ?_
  refine hw_get S0 hK hg h0 rfl inVe 2 (by decide) lf_Ve_18 rfl rfl dVe_add_1 ?_
  refine lv_bipush (v := nI 30) S0.1 S0.2.1 dVe_add_4 (by decide) ?_
  refine lv_icmp_ge (tgt := 45) S0.1 S0.2.1 dVe_add_6 (by decide) (fun c_6 => ?_) (fun c_6 => ?_)
  · skip
    have c_6 : 30 ≤ vs.length := (nI_leI (by omega) (by omega)).mp c_6
    exact absurd hv3 (by omega)
  · skip
    have c_6 : ¬ (30 ≤ vs.length) := fun h => c_6 ((nI_leI (by omega) (by omega)).mpr h)
    refine lv_aload_n S0.1 S0.2.1 dVe_add_9 rfl (lv_at hl 0 rfl) ?_
    refine lv_aload_n S0.1 S0.2.1 dVe_add_10 rfl (lv_at hl 1 rfl) ?_
    refine hw_Vv (As := [.ref rx]) (rest := []) S0 hK hg hS hA0 h0 rfl (c_Ve_fillOrigins l D cI cR cJ g _ ve sv og nr ln cm pa pb len rx lx cx vs nw xs fs fg fn fx_ fp0 fq0 fl cnt h0 h1 h2 h3 h4 h5 h6 h7 h8 h9 en ex hx6 hcx hdx hv hv3 hg_ n_ln_pa n_ln_pb n_ln_len n_ln_og n_lx_pa n_lx_pb n_lx_len n_lx_og n_pa_pb n_pa_len n_pa_og n_pb_len n_pb_og n_len_og) kVe_fillOrigins lm_Ve_35 (hR.call rfl) rfl hl.1 rfl (Nat.le_of_ble_eq_true rfl) dVe_add_11 (hR.new (by decide) (by decide)) (fun g_1 H locs hp_11 hg hS => ?_)
    obtain ⟨fr1, f1, gp, gq, gl_, k2, a0, a1, a2, a3, a4, hq1, hq2⟩ := hp_11
    have k1_0 := fr1.at (h_nm (h_ne h0 h1 (fun h => by cases h)) (h_nm (h_ne h0 h6 (fun h => by simp at h)) (h_nm (h_ne h0 h7 (fun h => by cases h)) (h_nm (h_ne h0 h8 (fun h => by cases h)) (h_nm (h_ne h0 h9 (fun h => by cases h)) h_n0))))) h0
    have k1_1 := fr1.at (h_nm (h_ne h2 h1 (fun h => by cases h)) (h_nm (h_ne h2 h6 (fun h => by simp at h)) (h_nm (h_ne h2 h7 (fun h => by cases h)) (h_nm (h_ne h2 h8 (fun h => by cases h)) (h_nm (h_ne h2 h9 (fun h => by cases h)) h_n0))))) h2
    have k1_2 := fr1.at (h_nm n_ln_og (h_nm (h_ne h3 h6 (fun h => by cases h)) (h_nm n_ln_pa (h_nm n_ln_pb (h_nm n_ln_len h_n0))))) h3
    have k1_3 := fr1.at (h_nm (h_ne h4 h1 (fun h => by cases h)) (h_nm (h_ne h4 h6 (fun h => by simp at h)) (h_nm (h_ne h4 h7 (fun h => by cases h)) (h_nm (h_ne h4 h8 (fun h => by cases h)) (h_nm (h_ne h4 h9 (fun h => by cases h)) h_n0))))) h4
    have k1_4 := fr1.at (h_nm n_lx_og (h_nm (h_ne h5 h6 (fun h => by cases h)) (h_nm n_lx_pa (h_nm n_lx_pb (h_nm n_lx_len h_n0))))) h5
    have k1_5 := fr1.at (h_nm (Ne.symm n_og_sv) (h_nm (h_ne h10 h6 (fun h => by cases h)) (h_nm (Ne.symm n_pa_sv) (h_nm (Ne.symm n_pb_sv) (h_nm (Ne.symm n_len_sv) h_n0))))) h10
    have fr := fr.call fr1 (by simp)
    refine lv_aload_n S0.1 S0.2.1 dVe_add_14 rfl (lv_at hl 0 rfl) ?_
    refine hw_get S0 hK hg k1_0 rfl inVe 0 (by decide) lf_Ve_9 rfl rfl dVe_add_15 ?_
    refine lv_aload_n S0.1 S0.2.1 dVe_add_18 rfl (lv_at hl 0 rfl) ?_
    refine hw_get S0 hK hg k1_0 rfl inVe 2 (by decide) lf_Ve_18 rfl rfl dVe_add_19 ?_
    refine lv_aload_n S0.1 S0.2.1 dVe_add_22 rfl (lv_at hl 1 rfl) ?_
    refine hw_get S0 hK hg k1_3 rfl inRo 1 (by decide) lf_Ve_39 rfl rfl dVe_add_23 ?_
    refine hw_iast S0 hK hg hS k1_5 0 rfl (by omega) (by omega) dVe_add_26 (fun H locs hg hS => ?_)
    obtain ⟨g_2, eg_2⟩ : ∃ z, z = hs g_1 sv (.inl (cI, 30, .inl (upd fs vs.length (nI xs.length)))) := ⟨_, rfl⟩
    have hg : hw D hC AX g_2 H := by rw [eg_2]; exact hg
    have f2_0 : g_2 ve = some (.inr (6, [.ref sv, .ref og, .int (nI vs.length), .ref nr, .ref cm])) := by rw [eg_2, hs_n _ _ (h_ne k1_0 k1_5 (fun h => by cases h))]; exact k1_0
    have f2_1 : g_2 nr = some (.inr (5, [.ref ln, .int (nI nw.length)])) := by rw [eg_2, hs_n _ _ (h_ne k1_1 k1_5 (fun h => by cases h))]; exact k1_1
    have f2_2 : g_2 ln = some (.inl (cI, 60, .inl fn)) := by rw [eg_2, hs_n _ _ n_ln_sv]; exact k1_2
    have f2_3 : g_2 rx = some (.inr (5, [.ref lx, .int (nI xs.length)])) := by rw [eg_2, hs_n _ _ (h_ne k1_3 k1_5 (fun h => by cases h))]; exact k1_3
    have f2_4 : g_2 lx = some (.inl (cI, cx, .inl fx_)) := by rw [eg_2, hs_n _ _ n_lx_sv]; exact k1_4
    have f2_5 : g_2 og = some (.inl (cI, 1800, .inl f1)) := by rw [eg_2, hs_n _ _ n_og_sv]; exact a0
    have f2_6 : g_2 cm = some (.inr (0, [.ref pa, .ref pb, .int k2, .ref len])) := by rw [eg_2, hs_n _ _ (h_ne a1 k1_5 (fun h => by cases h))]; exact a1
    have f2_7 : g_2 pa = some (.inl (cI, 60, .inl gp)) := by rw [eg_2, hs_n _ _ n_pa_sv]; exact a2
    have f2_8 : g_2 pb = some (.inl (cI, 60, .inl gq)) := by rw [eg_2, hs_n _ _ n_pb_sv]; exact a3
    have f2_9 : g_2 len = some (.inl (cI, 3721, .inl gl_)) := by rw [eg_2, hs_n _ _ n_len_sv]; exact a4
    have f2_10 : g_2 sv = some (.inl (cI, 30, .inl (upd fs vs.length (nI xs.length)))) := by rw [eg_2]; exact hs_s _ _ _
    have fr := fr.put eg_2 (by simp)
    refine lv_aload_n S0.1 S0.2.1 dVe_add_27 rfl (lv_at hl 0 rfl) ?_
    refine hw_get S0 hK hg f2_0 rfl inVe 3 (by decide) lf_Ve_27 rfl rfl dVe_add_28 ?_
    refine lv_aload_n S0.1 S0.2.1 dVe_add_31 rfl (lv_at hl 1 rfl) ?_
    refine hw_Vv (As := [.ref rx]) (rest := []) S0 hK hg hS hA0 f2_1 rfl (c_Ro_become l D cI cR cJ g_2 _ nr ln nw.length 60 rx lx xs.length cx fn fx_ f2_1 f2_2 f2_3 f2_4 (Ne.symm n_nr_rx) (Ne.symm n_ln_lx) hcx hx6 (by omega) hdx) kRo_become lm_Ve_40 (hR.call rfl) rfl hl.1 rfl (Nat.le_of_ble_eq_true rfl) dVe_add_32 (hR.new (by decide) (by decide)) (fun g_3 H locs hp_32 hg hS => ?_)
    obtain ⟨fr2, b0, f3, b1, b2⟩ := hp_32
    have k3_0 := fr2.at (h_nm (h_ne f2_0 f2_1 (fun h => by simp at h)) (h_nm (h_ne f2_0 f2_2 (fun h => by cases h)) h_n0)) f2_0
    have k3_1 := fr2.at (h_nm (Ne.symm n_nr_rx) (h_nm (h_ne f2_3 f2_2 (fun h => by cases h)) h_n0)) f2_3
    have k3_2 := fr2.at (h_nm (h_ne f2_4 f2_1 (fun h => by cases h)) (h_nm (Ne.symm n_ln_lx) h_n0)) f2_4
    have k3_3 := fr2.at (h_nm (h_ne f2_5 f2_1 (fun h => by cases h)) (h_nm (Ne.symm n_ln_og) h_n0)) f2_5
    have k3_4 := fr2.at (h_nm (h_ne f2_6 f2_1 (fun h => by simp at h)) (h_nm (h_ne f2_6 f2_2 (fun h => by cases h)) h_n0)) f2_6
    have k3_5 := fr2.at (h_nm (h_ne f2_7 f2_1 (fun h => by cases h)) (h_nm (Ne.symm n_ln_pa) h_n0)) f2_7
    have k3_6 := fr2.at (h_nm (h_ne f2_8 f2_1 (fun h => by cases h)) (h_nm (Ne.symm n_ln_pb) h_n0)) f2_8
    have k3_7 := fr2.at (h_nm (h_ne f2_9 f2_1 (fun h => by cases h)) (h_nm (Ne.symm n_ln_len) h_n0)) f2_9
    have k3_8 := fr2.at (h_nm (h_ne f2_10 f2_1 (fun h => by cases h)) (h_nm (Ne.symm n_ln_sv) h_n0)) f2_10
    have fr := fr.call fr2 (by simp)
    refine lv_aload_n S0.1 S0.2.1 dVe_add_35 rfl (lv_at hl 0 rfl) ?_
    refine lv_dup S0.1 S0.2.1 dVe_add_36 rfl ?_
    refine hw_get S0 hK hg k3_0 rfl inVe 2 (by decide) lf_Ve_18 rfl rfl dVe_add_37 ?_
    refine lv_iconst (v := nI 1) S0.1 S0.2.1 dVe_add_40 (by decide) ?_
    refine lv_iadd S0.1 S0.2.1 dVe_add_41 ?_
    refine hw_top (nI (vs.length + 1)) (nI_add _ _) ?_
    refine hw_put S0 hK hg hS k3_0 rfl inVe tyVe tokVe nmVe 2 (by decide) lf_Ve_18 rfl rfl rfl rfl (Nat.le_of_ble_eq_true rfl) dVe_add_42 (fun H locs hg hS => ?_)
    obtain ⟨g_4, eg_4⟩ : ∃ z, z = hs g_3 ve (.inr (6, [.ref sv, .ref og, .int (nI (vs.length + 1)), .ref nr, .ref cm])) := ⟨_, rfl⟩
    have hg : hw D hC AX g_4 H := by rw [eg_4]; exact hg
    have f4_0 : g_4 rx = some (.inr (5, [.ref lx, .int (nI xs.length)])) := by rw [eg_4, hs_n _ _ (h_ne k3_1 k3_0 (fun h => by simp at h))]; exact k3_1
    have f4_1 : g_4 lx = some (.inl (cI, cx, .inl fx_)) := by rw [eg_4, hs_n _ _ (h_ne k3_2 k3_0 (fun h => by cases h))]; exact k3_2
    have f4_2 : g_4 og = some (.inl (cI, 1800, .inl f1)) := by rw [eg_4, hs_n _ _ (h_ne k3_3 k3_0 (fun h => by cases h))]; exact k3_3
    have f4_3 : g_4 cm = some (.inr (0, [.ref pa, .ref pb, .int k2, .ref len])) := by rw [eg_4, hs_n _ _ (h_ne k3_4 k3_0 (fun h => by simp at h))]; exact k3_4
    have f4_4 : g_4 pa = some (.inl (cI, 60, .inl gp)) := by rw [eg_4, hs_n _ _ (h_ne k3_5 k3_0 (fun h => by cases h))]; exact k3_5
    have f4_5 : g_4 pb = some (.inl (cI, 60, .inl gq)) := by rw [eg_4, hs_n _ _ (h_ne k3_6 k3_0 (fun h => by cases h))]; exact k3_6
    have f4_6 : g_4 len = some (.inl (cI, 3721, .inl gl_)) := by rw [eg_4, hs_n _ _ (h_ne k3_7 k3_0 (fun h => by cases h))]; exact k3_7
    have f4_7 : g_4 sv = some (.inl (cI, 30, .inl (upd fs vs.length (nI xs.length)))) := by rw [eg_4, hs_n _ _ (h_ne k3_8 k3_0 (fun h => by cases h))]; exact k3_8
    have f4_8 : g_4 nr = some (.inr (5, [.ref ln, .int (nI xs.length)])) := by rw [eg_4, hs_n _ _ (h_ne b0 k3_0 (fun h => by simp at h))]; exact b0
    have f4_9 : g_4 ln = some (.inl (cI, 60, .inl f3)) := by rw [eg_4, hs_n _ _ (h_ne b1 k3_0 (fun h => by cases h))]; exact b1
    have f4_10 : g_4 ve = some (.inr (6, [.ref sv, .ref og, .int (nI (vs.length + 1)), .ref nr, .ref cm])) := by rw [eg_4]; exact hs_s _ _ _
    have fr := fr.put eg_4 (by simp)
    exact hend _ _ _ _ _ _ _ (by decide) (by decide) (⟨fr, f1, (upd fs vs.length (nI xs.length)), f3, gp, gq, gl_, k2, f4_10, f4_7, f4_2, f4_8, f4_9, f4_3, f4_4, f4_5, f4_6, fun q h => by rw [b2 q h]; exact ex q h, rpV_snoc hg_ v3 hq1 (fun k h => hq2 k (by rw [orig_len] at h; exact h)), by have := rpS_snoc (o := orig vs nw xs) hs_; rw [orig_len] at this; exact this⟩) hg hS dVe_add_45
end
