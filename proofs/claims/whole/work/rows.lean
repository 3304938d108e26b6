section
-- ===== PART A: goes FIRST, ahead of the names: the tables' words, and 'selects' of the private methods out of them =====
/-- a private method of a class that the tables say can be made, by its rows of tables_1 -/
def lw_okq (q : MethodName × Nat) : Prop := (q.1.cls ≠ "java/lang/invoke/MethodHandle" ∧ q.1.cls ≠ "java/lang/invoke/VarHandle") ∧ Cond.instantiable q.1.cls q.2 ∈ tables_1 ∧ Cond.privateMethod q.1 ∈ tables_1 ∧ Cond.instanceMethod q.1 ∈ tables_1
theorem lw_p0 : lw_okq (⟨"MergeRows", "rowAt", "(I)LMergeRows$Row;"⟩, 7) := ⟨⟨by decide +kernel, by decide +kernel⟩, List.mem_of_getElem? (i := 18) (by decide +kernel), List.mem_of_getElem? (i := 238) (by decide +kernel), List.mem_of_getElem? (i := 239) (by decide +kernel)⟩
theorem lw_p1 : lw_okq (⟨"java/lang/Throwable", "fillInStackTrace", "(I)Ljava/lang/Throwable;"⟩, 6) := ⟨⟨by decide +kernel, by decide +kernel⟩, List.mem_of_getElem? (i := 280) (by decide +kernel), List.mem_of_getElem? (i := 278) (by decide +kernel), List.mem_of_getElem? (i := 279) (by decide +kernel)⟩
theorem lw_p2 : lw_okq (⟨"MergeRows$Common", "measure", "(LMergeRows$Row;LMergeRows$Row;)V"⟩, 4) := ⟨⟨by decide +kernel, by decide +kernel⟩, List.mem_of_getElem? (i := 52) (by decide +kernel), List.mem_of_getElem? (i := 379) (by decide +kernel), List.mem_of_getElem? (i := 380) (by decide +kernel)⟩
theorem lw_p3 : lw_okq (⟨"MergeRows$Common", "clearEnds", "(II)V"⟩, 4) := ⟨⟨by decide +kernel, by decide +kernel⟩, List.mem_of_getElem? (i := 52) (by decide +kernel), List.mem_of_getElem? (i := 383) (by decide +kernel), List.mem_of_getElem? (i := 384) (by decide +kernel)⟩
theorem lw_p4 : lw_okq (⟨"MergeRows$Common", "losesNoPair", "(III)Z"⟩, 4) := ⟨⟨by decide +kernel, by decide +kernel⟩, List.mem_of_getElem? (i := 52) (by decide +kernel), List.mem_of_getElem? (i := 394) (by decide +kernel), List.mem_of_getElem? (i := 395) (by decide +kernel)⟩
theorem lw_p5 : lw_okq (⟨"MergeRows$Common", "addPair", "(II)V"⟩, 4) := ⟨⟨by decide +kernel, by decide +kernel⟩, List.mem_of_getElem? (i := 52) (by decide +kernel), List.mem_of_getElem? (i := 398) (by decide +kernel), List.mem_of_getElem? (i := 399) (by decide +kernel)⟩
theorem lw_p6 : lw_okq (⟨"MergeRows$Hunks", "addUnlessEmpty", "(IIII)V"⟩, 3) := ⟨⟨by decide +kernel, by decide +kernel⟩, List.mem_of_getElem? (i := 83) (by decide +kernel), List.mem_of_getElem? (i := 422) (by decide +kernel), List.mem_of_getElem? (i := 423) (by decide +kernel)⟩
theorem lw_p7 : lw_okq (⟨"MergeRows$Merging", "mergeUpToAnchors", "(LMergeRows$Row;)V"⟩, 8) := ⟨⟨by decide +kernel, by decide +kernel⟩, List.mem_of_getElem? (i := 150) (by decide +kernel), List.mem_of_getElem? (i := 450) (by decide +kernel), List.mem_of_getElem? (i := 451) (by decide +kernel)⟩
theorem lw_p8 : lw_okq (⟨"MergeRows$Merging", "mergeParts", "(III)V"⟩, 8) := ⟨⟨by decide +kernel, by decide +kernel⟩, List.mem_of_getElem? (i := 150) (by decide +kernel), List.mem_of_getElem? (i := 454) (by decide +kernel), List.mem_of_getElem? (i := 455) (by decide +kernel)⟩
theorem lw_p9 : lw_okq (⟨"MergeRows$Merging", "take", "(LMergeRows$Part;)V"⟩, 8) := ⟨⟨by decide +kernel, by decide +kernel⟩, List.mem_of_getElem? (i := 150) (by decide +kernel), List.mem_of_getElem? (i := 466) (by decide +kernel), List.mem_of_getElem? (i := 467) (by decide +kernel)⟩
theorem lw_p10 : lw_okq (⟨"MergeRows$Merging", "addConflict", "()V"⟩, 8) := ⟨⟨by decide +kernel, by decide +kernel⟩, List.mem_of_getElem? (i := 150) (by decide +kernel), List.mem_of_getElem? (i := 475) (by decide +kernel), List.mem_of_getElem? (i := 476) (by decide +kernel)⟩
theorem lw_p11 : lw_okq (⟨"MergeRows$Merging", "stepPartsOverAnchor", "()V"⟩, 8) := ⟨⟨by decide +kernel, by decide +kernel⟩, List.mem_of_getElem? (i := 150) (by decide +kernel), List.mem_of_getElem? (i := 481) (by decide +kernel), List.mem_of_getElem? (i := 482) (by decide +kernel)⟩
theorem lw_p12 : lw_okq (⟨"MergeRows$Versions", "fillOrigins", "(LMergeRows$Row;)V"⟩, 5) := ⟨⟨by decide +kernel, by decide +kernel⟩, List.mem_of_getElem? (i := 123) (by decide +kernel), List.mem_of_getElem? (i := 548) (by decide +kernel), List.mem_of_getElem? (i := 549) (by decide +kernel)⟩
theorem lw_p13 : lw_okq (⟨"MergeRowsModel", "refuse", "(ZZ)Z"⟩, 29) := ⟨⟨by decide +kernel, by decide +kernel⟩, List.mem_of_getElem? (i := 562) (by decide +kernel), List.mem_of_getElem? (i := 667) (by decide +kernel), List.mem_of_getElem? (i := 668) (by decide +kernel)⟩
theorem lw_p14 : lw_okq (⟨"MergeRowsModel", "rows", "(II)V"⟩, 29) := ⟨⟨by decide +kernel, by decide +kernel⟩, List.mem_of_getElem? (i := 562) (by decide +kernel), List.mem_of_getElem? (i := 687) (by decide +kernel), List.mem_of_getElem? (i := 688) (by decide +kernel)⟩
theorem lw_p15 : lw_okq (⟨"MergeRowsModel", "first", "([III)V"⟩, 29) := ⟨⟨by decide +kernel, by decide +kernel⟩, List.mem_of_getElem? (i := 562) (by decide +kernel), List.mem_of_getElem? (i := 691) (by decide +kernel), List.mem_of_getElem? (i := 692) (by decide +kernel)⟩
def lw_privs_1 : List (MethodName × Nat) := [(⟨"MergeRows", "rowAt", "(I)LMergeRows$Row;"⟩, 7), (⟨"java/lang/Throwable", "fillInStackTrace", "(I)Ljava/lang/Throwable;"⟩, 6), (⟨"MergeRows$Common", "measure", "(LMergeRows$Row;LMergeRows$Row;)V"⟩, 4), (⟨"MergeRows$Common", "clearEnds", "(II)V"⟩, 4), (⟨"MergeRows$Common", "losesNoPair", "(III)Z"⟩, 4), (⟨"MergeRows$Common", "addPair", "(II)V"⟩, 4), (⟨"MergeRows$Hunks", "addUnlessEmpty", "(IIII)V"⟩, 3), (⟨"MergeRows$Merging", "mergeUpToAnchors", "(LMergeRows$Row;)V"⟩, 8), (⟨"MergeRows$Merging", "mergeParts", "(III)V"⟩, 8), (⟨"MergeRows$Merging", "take", "(LMergeRows$Part;)V"⟩, 8), (⟨"MergeRows$Merging", "addConflict", "()V"⟩, 8), (⟨"MergeRows$Merging", "stepPartsOverAnchor", "()V"⟩, 8), (⟨"MergeRows$Versions", "fillOrigins", "(LMergeRows$Row;)V"⟩, 5), (⟨"MergeRowsModel", "refuse", "(ZZ)Z"⟩, 29), (⟨"MergeRowsModel", "rows", "(II)V"⟩, 29), (⟨"MergeRowsModel", "first", "([III)V"⟩, 29)]
theorem lw_r1 : ∀ q ∈ lw_privs_1, lw_okq q := List.forall_mem_cons.mpr ⟨lw_p0, List.forall_mem_cons.mpr ⟨lw_p1, List.forall_mem_cons.mpr ⟨lw_p2, List.forall_mem_cons.mpr ⟨lw_p3, List.forall_mem_cons.mpr ⟨lw_p4, List.forall_mem_cons.mpr ⟨lw_p5, List.forall_mem_cons.mpr ⟨lw_p6, List.forall_mem_cons.mpr ⟨lw_p7, List.forall_mem_cons.mpr ⟨lw_p8, List.forall_mem_cons.mpr ⟨lw_p9, List.forall_mem_cons.mpr ⟨lw_p10, List.forall_mem_cons.mpr ⟨lw_p11, List.forall_mem_cons.mpr ⟨lw_p12, List.forall_mem_cons.mpr ⟨lw_p13, List.forall_mem_cons.mpr ⟨lw_p14, List.forall_mem_cons.mpr ⟨lw_p15, fun _ h => absurd h List.not_mem_nil⟩⟩⟩⟩⟩⟩⟩⟩⟩⟩⟩⟩⟩⟩⟩⟩
theorem lw_p16 : lw_okq (⟨"MergeRowsModel", "second", "([III)V"⟩, 29) := ⟨⟨by decide +kernel, by decide +kernel⟩, List.mem_of_getElem? (i := 562) (by decide +kernel), List.mem_of_getElem? (i := 695) (by decide +kernel), List.mem_of_getElem? (i := 696) (by decide +kernel)⟩
theorem lw_p17 : lw_okq (⟨"MergeRowsModel", "compare", "()V"⟩, 29) := ⟨⟨by decide +kernel, by decide +kernel⟩, List.mem_of_getElem? (i := 562) (by decide +kernel), List.mem_of_getElem? (i := 699) (by decide +kernel), List.mem_of_getElem? (i := 700) (by decide +kernel)⟩
theorem lw_p18 : lw_okq (⟨"MergeRowsModel", "cut", "()V"⟩, 29) := ⟨⟨by decide +kernel, by decide +kernel⟩, List.mem_of_getElem? (i := 562) (by decide +kernel), List.mem_of_getElem? (i := 711) (by decide +kernel), List.mem_of_getElem? (i := 712) (by decide +kernel)⟩
theorem lw_p19 : lw_okq (⟨"MergeRowsModel", "addPart", "(IIII)V"⟩, 29) := ⟨⟨by decide +kernel, by decide +kernel⟩, List.mem_of_getElem? (i := 562) (by decide +kernel), List.mem_of_getElem? (i := 715) (by decide +kernel), List.mem_of_getElem? (i := 716) (by decide +kernel)⟩
theorem lw_p20 : lw_okq (⟨"MergeRowsModel", "joinParts", "(IIIIIIIII)V"⟩, 29) := ⟨⟨by decide +kernel, by decide +kernel⟩, List.mem_of_getElem? (i := 562) (by decide +kernel), List.mem_of_getElem? (i := 727) (by decide +kernel), List.mem_of_getElem? (i := 728) (by decide +kernel)⟩
theorem lw_p21 : lw_okq (⟨"MergeRowsModel", "alike", "(IIIIII)Z"⟩, 29) := ⟨⟨by decide +kernel, by decide +kernel⟩, List.mem_of_getElem? (i := 562) (by decide +kernel), List.mem_of_getElem? (i := 731) (by decide +kernel), List.mem_of_getElem? (i := 732) (by decide +kernel)⟩
theorem lw_p22 : lw_okq (⟨"MergeRowsModel", "writePart", "(III)V"⟩, 29) := ⟨⟨by decide +kernel, by decide +kernel⟩, List.mem_of_getElem? (i := 562) (by decide +kernel), List.mem_of_getElem? (i := 735) (by decide +kernel), List.mem_of_getElem? (i := 736) (by decide +kernel)⟩
theorem lw_p23 : lw_okq (⟨"MergeRowsModel", "write", "(I)V"⟩, 29) := ⟨⟨by decide +kernel, by decide +kernel⟩, List.mem_of_getElem? (i := 562) (by decide +kernel), List.mem_of_getElem? (i := 739) (by decide +kernel), List.mem_of_getElem? (i := 740) (by decide +kernel)⟩
theorem lw_p24 : lw_okq (⟨"MergeRowsModel", "become", "(I)V"⟩, 29) := ⟨⟨by decide +kernel, by decide +kernel⟩, List.mem_of_getElem? (i := 562) (by decide +kernel), List.mem_of_getElem? (i := 743) (by decide +kernel), List.mem_of_getElem? (i := 744) (by decide +kernel)⟩
theorem lw_p25 : lw_okq (⟨"MergeRowsModel", "fits", "(III)Z"⟩, 29) := ⟨⟨by decide +kernel, by decide +kernel⟩, List.mem_of_getElem? (i := 562) (by decide +kernel), List.mem_of_getElem? (i := 758) (by decide +kernel), List.mem_of_getElem? (i := 759) (by decide +kernel)⟩
def lw_privs_2 : List (MethodName × Nat) := [(⟨"MergeRowsModel", "second", "([III)V"⟩, 29), (⟨"MergeRowsModel", "compare", "()V"⟩, 29), (⟨"MergeRowsModel", "cut", "()V"⟩, 29), (⟨"MergeRowsModel", "addPart", "(IIII)V"⟩, 29), (⟨"MergeRowsModel", "joinParts", "(IIIIIIIII)V"⟩, 29), (⟨"MergeRowsModel", "alike", "(IIIIII)Z"⟩, 29), (⟨"MergeRowsModel", "writePart", "(III)V"⟩, 29), (⟨"MergeRowsModel", "write", "(I)V"⟩, 29), (⟨"MergeRowsModel", "become", "(I)V"⟩, 29), (⟨"MergeRowsModel", "fits", "(III)Z"⟩, 29)]
theorem lw_r2 : ∀ q ∈ lw_privs_2, lw_okq q := List.forall_mem_cons.mpr ⟨lw_p16, List.forall_mem_cons.mpr ⟨lw_p17, List.forall_mem_cons.mpr ⟨lw_p18, List.forall_mem_cons.mpr ⟨lw_p19, List.forall_mem_cons.mpr ⟨lw_p20, List.forall_mem_cons.mpr ⟨lw_p21, List.forall_mem_cons.mpr ⟨lw_p22, List.forall_mem_cons.mpr ⟨lw_p23, List.forall_mem_cons.mpr ⟨lw_p24, List.forall_mem_cons.mpr ⟨lw_p25, fun _ h => absurd h List.not_mem_nil⟩⟩⟩⟩⟩⟩⟩⟩⟩⟩
def lw_privs : List (MethodName × Nat) := lw_privs_1 ++ (lw_privs_2)
def lw_tbl : List Cond := k2_sels lw_privs ++ tables_1
theorem lw_privs_ok : ∀ q ∈ lw_privs, lw_okq q := by
  show ∀ q ∈ lw_privs_1 ++ (lw_privs_2), lw_okq q
  exact List.forall_mem_append.mpr ⟨lw_r1, lw_r2⟩
/-- the words that any method of this claim may need: the good ones of the tables -/
def hB : List Cond := lw_tbl.filter goodWord
theorem hB_in {w : Cond} (k : Nat) (h : lw_tbl[k]? = some w) (hg : goodWord w = true) : w ∈ hB := List.mem_filter.mpr ⟨List.mem_of_getElem? h, hg⟩
theorem hB_of {w : Cond} (h : w ∈ lw_tbl) (hg : goodWord w = true) : w ∈ hB := List.mem_filter.mpr ⟨h, hg⟩
theorem hB_tbl {w : Cond} (h : w ∈ hB) : w ∈ lw_tbl := (List.mem_filter.mp h).1
theorem hB_good : GoodIn hB hB := fun _ h => ⟨h, good_of_word (List.mem_filter.mp h).2⟩
end
section
/-! ===== BEGIN words of one list among another's, by their places ===== -/
theorem goodIn_r {big : List Cond} (ws : List Cond) (ps : List Nat) (hp : ws = ps.filterMap (fun i => big[i]?)) (h : ws.all goodWord = true) : GoodIn big ws := by
  intro w hw
  have h1 := List.all_eq_true.mp h w hw
  rw [hp] at hw
  obtain ⟨i, -, hi⟩ := List.mem_filterMap.mp hw
  have hm : w ∈ big := by first | exact List.mem_of_getElem? hi | exact List.getElem?_mem hi
  exact ⟨hm, good_of_word h1⟩
theorem goodIn_app {big a b : List Cond} (ha : GoodIn big a) (hb : GoodIn big b) : GoodIn big (a ++ b) := fun w h => (List.mem_append.mp h).elim (ha w) (hb w)
theorem goodIn_ca {big a b : List Cond} {c : Cond} (ha : GoodIn big (c :: a)) (hb : GoodIn big b) : GoodIn big (c :: (a ++ b)) := fun w h => (List.mem_cons.mp h).elim (fun e => ha w (List.mem_cons.mpr (Or.inl e))) (fun h => (List.mem_append.mp h).elim (fun h => ha w (List.mem_cons.mpr (Or.inr h))) (hb w))
theorem goodIn_sub {big ws : List Cond} (hm : ∀ w ∈ ws, w ∈ big) (h : ws.all goodWord = true) : GoodIn big ws := fun w hw => ⟨hm w hw, good_of_word (List.all_eq_true.mp h w hw)⟩
/-! ===== END ===== -/

/-! ===== BEGIN exceptions that leave a method, and their catching by the caller (launches without stack traces) ===== -/
section VXA
/-! The laws vx_back, vx_callV, vx_callS, vx_callSW, vx_throw0, vx_throwS follow proofs of the library, with one case more: JvmDerived/Free/Laws.lean (Back.of_free), Shelf42/LK1.lean (callV, callS), Shelf/KitTraced.lean (throwNew0V, throwNewS). -/
/-- where a method has thrown q: the class by its name, the cell, what was written, the world -/
def vx_T (XC : String → State → State → Prop) (st : State) (q : Addr) (t : State) (mc ms : Nat) (free : Addr → Prop) : Prop :=
  ∃ (E : String) (ce : Cell) (L : List Loc), XC E st t ∧ t.heap[q]? = some ce ∧ ce.vm = .none ∧ st.vm.findClass E = some ce.cls ∧ st.WarmedH t.vm ∧ st.sameButNew ({ t with vm := st.vm } : State) L mc ms ∧ ∀ z ∈ L, free z.base
def vx_Q (Qc : Array Value → State → Outcome → State → Prop) (XC : String → State → State → Prop) (mc ms : Nat) (free : Addr → Prop) : Array Value → State → Outcome → State → Prop := fun a st o t =>
  (Qc a st o t ∧ ∃ L, FrameEnd st o t L mc ms ∧ ∀ q ∈ L, free q.base) ∨ ∃ q, o = .threw q ∧ vx_T XC st q t mc ms free
/-- a callee that returns or throws -/
def vx_Met (l : Launch) (y : MethodName) (ws : List Cond) (rm : Room) (Pc : Array Value → State → Prop) (Qc : Array Value → State → Outcome → State → Prop) (XC : String → State → State → Prop) (mc ms : Nat) (free : Addr → Prop) : Prop :=
  MetFree l y (headSpec ws rm) Pc (fun _ _ _ _ _ => True) (vx_Q Qc XC mc ms free)
def vx_Post (XC : String → State → State → Prop) (mc ms : Nat) (free : Addr → Prop) : Pt → Array Value → Addr → Pt → Prop := fun A a q B =>
  ∃ (g : JFrame) (mk : MethodId) (t : State) (L : List Loc) (E : String) (ce : Cell), B.U.heap = t.heap ∧ B.U.vm = t.vm ∧ XC E (A.U.calling g mk a) t ∧ t.heap[q]? = some ce ∧ ce.vm = .none ∧ A.U.vm.findClass E = some ce.cls ∧ B.locs = A.locs ++ L ∧ (∀ z ∈ L, free z.base) ∧ B.cells = A.cells + mc ∧ B.slots = A.slots + ms
def vx_Back (l : Launch) (R : Room) (p : Program) (e : Env) (below : List Frame) (s : State) (sargs : Array Value) (y : MethodName) (len W9 : Nat)
    (Pre : Pt → Array Value → Prop) (Post : Pt → Array Value → Option Value → Pt → Prop) (PostX : Pt → Array Value → Addr → Pt → Prop) : Prop :=
  ∀ (m : MethodId) (meth : Method) (c : Code) (A : Pt) (g : JFrame) (ig : Instr) (mk : MethodId) (a : Array Value),
    Stand p l e R s m sargs below meth c A.U A.locs A.cells A.slots → g.method = m → g.locals.size = c.maxLocals → decode c.code g.pc = .ok (ig, len) →
    2 * g.monitorRoom + (g.stack.map fun v => v.category).sum ≤ W9 → A.U.methodNamed? y = some mk → Pre A a →
    (∃ (v : Option Value) (B : Pt), Stand p l e R s m sargs below meth c B.U B.locs B.cells B.slots ∧ Post A a v B ∧
      Steps p.tables e below (doInvoke e (A.U.setTop g) [] mk a).1 (B.U.setTop { g with pc := g.pc + len, stack := v.toList ++ g.stack })) ∨
    (∃ (q : Addr) (B : Pt), Stand p l e R s m sargs below meth c B.U B.locs B.cells B.slots ∧ PostX A a q B ∧
      Steps p.tables e below (doInvoke e (A.U.setTop g) [] mk a).1 ((B.U.setTop g).pushFrame (.throwing q)))
section Payer
variable {l : Launch} {R : Room} {p : Program} {e : Env} {below : List Frame} {s : State} {sargs : Array Value} {y : MethodName} {len W9 : Nat}
theorem vx_back {ws : List Cond} {rm : Room} {Pc : Array Value → State → Prop} {Qc : Array Value → State → Outcome → State → Prop} {XC : String → State → State → Prop} {mc ms : Nat} {free : Addr → Prop} {bytes : ByteArray} {maxL : Nat} {ret : Option FieldType}
    (hM : vx_Met l y ws rm Pc Qc XC mc ms free) (hblind : FrameBlind Pc) (hrc : rm.cells = mc) (hrs : rm.slots = ms)
    (hframes : rm.frames + 1 ≤ R.frames) (hlocals : W9 + (maxL + 11) + rm.locals ≤ R.locals)
    (hws : ∀ w ∈ ws, ∀ a' U, s.WarmedH U.vm → w.before a' U = true) (hcode : Cond.code y bytes maxL ret ∈ ws) (hinit : ∀ a' U, s.WarmedH U.vm → (Cond.initialized y.cls).before a' U = true) :
    vx_Back l R p e below s sargs y len W9 (PreOf R mc ms Pc) (PostOf Qc mc ms free) (vx_Post XC mc ms free) := by
  intro m meth c A g ig mk a X hg hsize hdg hW hn hp
  have h1 : (headSpec ws rm).pre.before a A.U = true := atoms_intro fun w hw => hws w hw _ _ X.warmed
  have h2 : (Cond.code y bytes maxL ret).before a A.U = true := hws _ hcode _ _ X.warmed
  have h3 : (Cond.initialized y.cls).before a A.U = true := hinit _ _ X.warmed
  have h4 : A.cells + (headSpec ws rm).room.cells ≤ R.cells := by rw [show (headSpec ws rm).room.cells = mc from hrc]; exact hp.1
  have h5 : A.slots + (headSpec ws rm).room.slots ≤ R.slots := by rw [show (headSpec ws rm).room.slots = ms from hrs]; exact hp.2.1
  have hPc : Pc a (A.U.calling g mk a) := hblind _ _ _ _ hp.2.2
  obtain ⟨U, Ls, c0, s0⟩ := A
  dsimp only [Pt.U, Pt.locs, Pt.cells, Pt.slots] at h1 h2 h3 h4 h5 X hn hPc ⊢
  obtain ⟨methY, cY, hmY, hcY, -, hlY, -, -, -, -⟩ := Cond.code_spec hn h2
  obtain ⟨kY, hkY, -⟩ := className_of_methodNamed hn
  have hinitY : kY.init = .initialized := Cond.initialized_spec (findClass_of_methodNamed hn) hkY h3
  have h : At U g.method c below := by rw [hg]; exact X.here
  have hlocals9 : W9 + (maxL + 11) + (headSpec ws rm).room.locals ≤ R.locals := hlocals
  have happ : (headSpec ws rm).appliesLoose y e.platform (U.calling g mk a) = true :=
    Spec.appliesLoose_calling (g := g) h hdg hn hkY hinitY
      (X.room_calling (g := g) (R' := (headSpec ws rm).room) hsize hmY hcY hframes (by rw [hlY]; omega) h4 h5) h1
  obtain ⟨mid, hmid⟩ := h.above
  have hfr : (U.setTop g).frames = (.java g :: mid) ++ below := by rw [State.frames_setTop' g h.top, hmid]; rfl
  obtain ⟨o, s₂, hsteps, -, hend, hq⟩ := Steps.callFree hM p X.admits X.cas X.clock (acts := []) hfr happ hPc trivial
  have hq' : vx_Q Qc XC mc ms free a (U.calling g mk a) o s₂ := hq
  rw [State.frames_setTop' g h.top] at hend
  obtain ⟨g₀, hg0⟩ := Option.isSome_iff_exists.mp h.top
  obtain ⟨r, hr⟩ := State.topJava?_eq_some.mp hg0
  have hr' : (({ U with heap := s₂.heap, slotsUsed := s₂.slotsUsed } : State).setVm s₂.vm).frames = .java g₀ :: r := hr
  rcases hq' with ⟨hqc, L, hfe, hL⟩ | ⟨q, rfl, E, ce, L, hx, hce, hcv, hcl, hW₂, hsm, hL⟩
  · obtain ⟨⟨v, rfl⟩, hW₂, e2, q2, q3, q4, q5, q6⟩ := id hfe
    have e3 : s₂ = ({ (U.calling g mk a).setFrames s₂.frames with heap := s₂.heap, slotsUsed := s₂.slotsUsed } : State).setVm s₂.vm := by
      have : s₂ = ({ s₂ with vm := (U.calling g mk a).vm } : State).setVm s₂.vm := rfl
      rw [e2] at this
      exact this
    obtain ⟨c₂, i₂, len₂, hc₂, hd₂, hf₂⟩ := hend
    have hW' : U.WarmedH s₂.vm := hW₂
    have hcc : c₂ = c := by
      have h1 : s₂.code? g.method = U.code? g.method := by
        rw [State.code?_eq, State.code?_eq, hW'.alike.method?]
      exact Option.some.inj (hc₂.symm.trans (h1.trans h.code))
    subst hcc
    have hlen : len₂ = len := by rw [hdg] at hd₂; cases hd₂; rfl
    subst hlen
    have hs₂ : s₂ = (({ U with heap := s₂.heap, slotsUsed := s₂.slotsUsed } : State).setVm s₂.vm).setTop { g with pc := g.pc + len₂, stack := v.toList ++ g.stack } := by
      refine e3.trans ?_
      rw [hf₂, State.calling_eq h.top, State.setFrames_setFrames, State.setTop_of_frames _ hr', hr]
      rfl
    have hsame : U.sameButNew ({ U with heap := s₂.heap, slotsUsed := s₂.slotsUsed } : State) L mc ms := by
      refine ⟨?_, q2, q3, q4, q5, q6⟩
      obtain ⟨t, ht, -⟩ := State.frames_cons hr
      show ({ U with heap := s₂.heap, slotsUsed := s₂.slotsUsed } : State) = { U.setFrames U.frames with heap := s₂.heap, slotsUsed := s₂.slotsUsed }
      rw [State.setFrames_self ht]
    subst hg
    refine Or.inl ⟨v, ⟨(({ U with heap := s₂.heap, slotsUsed := s₂.slotsUsed } : State).setVm s₂.vm), Ls ++ L, c0 + mc, s0 + ms⟩,
      ⟨X.admits, X.cas, X.clock, X.frames, X.room, X.hears, X.method, X.code, (X.here.setHeapUsed s₂.heap s₂.slotsUsed).setVm hW'.alike, X.tail, State.WarmedH.trans X.warmed hW', X.limits, X.bytes, X.same.trans (hsame.setVm s.vm)⟩,
      ⟨g, mk, s₂, L, rfl, rfl, hqc, rfl, hL, rfl, rfl⟩, ?_⟩
    show Steps p.tables e below _ ((({ U with heap := s₂.heap, slotsUsed := s₂.slotsUsed } : State).setVm s₂.vm).setTop { g with pc := g.pc + len₂, stack := v.toList ++ g.stack })
    rw [← hs₂]
    exact hsteps
  · obtain ⟨e2, q2, q3, q4, q5, q6⟩ := id hsm
    have e3 : s₂ = ({ (U.calling g mk a).setFrames s₂.frames with heap := s₂.heap, slotsUsed := s₂.slotsUsed } : State).setVm s₂.vm := by
      have : s₂ = ({ s₂ with vm := (U.calling g mk a).vm } : State).setVm s₂.vm := rfl
      rw [e2] at this
      exact this
    have hf₂ : s₂.frames = .throwing q :: .java g :: U.frames.tail := hend
    have hW' : U.WarmedH s₂.vm := hW₂
    have hs₂ : s₂ = ((({ U with heap := s₂.heap, slotsUsed := s₂.slotsUsed } : State).setVm s₂.vm).setTop g).pushFrame (.throwing q) := by
      refine e3.trans ?_
      rw [hf₂, State.calling_eq h.top, State.setFrames_setFrames, State.pushFrame, State.frames_setTop _ hr', State.setTop_of_frames _ hr', State.setFrames_setFrames, hr]
      rfl
    have hsame : U.sameButNew ({ U with heap := s₂.heap, slotsUsed := s₂.slotsUsed } : State) L mc ms := by
      refine ⟨?_, q2, q3, q4, q5, q6⟩
      obtain ⟨t, ht, -⟩ := State.frames_cons hr
      show ({ U with heap := s₂.heap, slotsUsed := s₂.slotsUsed } : State) = { U.setFrames U.frames with heap := s₂.heap, slotsUsed := s₂.slotsUsed }
      rw [State.setFrames_self ht]
    subst hg
    refine Or.inr ⟨q, ⟨(({ U with heap := s₂.heap, slotsUsed := s₂.slotsUsed } : State).setVm s₂.vm), Ls ++ L, c0 + mc, s0 + ms⟩,
      ⟨X.admits, X.cas, X.clock, X.frames, X.room, X.hears, X.method, X.code, (X.here.setHeapUsed s₂.heap s₂.slotsUsed).setVm hW'.alike, X.tail, State.WarmedH.trans X.warmed hW', X.limits, X.bytes, X.same.trans (hsame.setVm s.vm)⟩,
      ⟨g, mk, s₂, L, E, ce, rfl, rfl, hx, hce, hcv, hcl, rfl, hL, rfl, rfl⟩, ?_⟩
    show Steps p.tables e below _ (((({ U with heap := s₂.heap, slotsUsed := s₂.slotsUsed } : State).setVm s₂.vm).setTop g).pushFrame (.throwing q))
    rw [← hs₂]
    exact hsteps
end Payer
section Calls
variable {p : Program} {l : Launch} {e : Env} {R : Room} {s : State} {m : MethodId} {args : Array Value} {below : List Frame} {meth : Method} {c : Code} {T : State} {locs : List Loc} {cells slots : Nat}
theorem vx_callV (X : Stand p l e R s m args below meth c T locs cells slots) (hexec : p.tables.exec = Jvm.exec) {own C : String} {index : Nat} {y : MethodName} {bytes : ByteArray} {maxL : Nat} {ret : Option FieldType}
    (hown : s.vm.findClass own = some m.cls) (hlink : (Cond.methodLink own index y).before args s = true) (hinst : (Cond.instanceMethod y).before args s = true) (hsel : (Cond.selects C y y).before args s = true)
    (hcode : (Cond.code y bytes maxL ret).before args s = true) (hy : y.cls ≠ "java/lang/invoke/MethodHandle" ∧ y.cls ≠ "java/lang/invoke/VarHandle")
    {W9 : Nat} {Pre : Pt → Array Value → Prop} {Post : Pt → Array Value → Option Value → Pt → Prop} {PostX : Pt → Array Value → Addr → Pt → Prop} (hK : vx_Back l R p e below s args y 3 W9 Pre Post PostX)
    {b : Addr} {cellB : Cell} (hcell : T.heap[b]? = some cellB) (hobj : cellB.vm.isStatics = false) (hcls : s.vm.findClass C = some cellB.cls)
    {g : JFrame} (hg : g.method = m) (hsize : g.locals.size = c.maxLocals) {argsL rest : List Value} (hlen : ∀ sig, parseMethodDescriptor y.desc = some sig → argsL.length = sig.parameters.length)
    (hstack : g.stack = argsL.reverse ++ .ref b :: rest) (hW : 2 * g.monitorRoom + (rest.map fun v => v.category).sum ≤ W9) (hdg : decode c.code g.pc = .ok (.invokevirtual index, 3))
    (hpre : ∀ vm₁, s.WarmedH vm₁ → Pre ⟨T.setVm vm₁, locs, cells, slots⟩ (Value.ref b :: argsL).toArray) :
    (∃ (v : Option Value) (vm₁ : Vm) (B : Pt), s.WarmedH vm₁ ∧ Stand p l e R s m args below meth c B.U B.locs B.cells B.slots ∧ Post ⟨T.setVm vm₁, locs, cells, slots⟩ (Value.ref b :: argsL).toArray v B ∧
      ∀ target, Steps p.tables e below (B.U.setTop { g with pc := g.pc + 3, stack := v.toList ++ rest }) target → Steps p.tables e below (T.setTop g) target) ∨
    (∃ (q : Addr) (vm₁ : Vm) (B : Pt), s.WarmedH vm₁ ∧ Stand p l e R s m args below meth c B.U B.locs B.cells B.slots ∧ PostX ⟨T.setVm vm₁, locs, cells, slots⟩ (Value.ref b :: argsL).toArray q B ∧
      Steps p.tables e below (T.setTop g) ((B.U.setTop { g with stack := rest }).pushFrame (.throwing q))) := by
  obtain ⟨mk, methM, hnamed, hmethM, hstM, habM⟩ := Cond.instanceMethod_spec hinst
  obtain ⟨methM', cM, hmethM', -, -, -, -, -, -, hsigM⟩ := Cond.code_spec hnamed hcode
  cases hmethM.symm.trans hmethM'
  obtain ⟨c2, r2, m2, q1, q2, q3, q4, kP, hkP, hkPi⟩ := Cond.selects_spec hsel
  cases hcls.symm.trans q1
  cases (State.methodFound?_of_named hnamed hy).symm.trans q2
  cases hnamed.symm.trans q3
  have hselP : selectMethod e.platform s.vm cellB.cls mk = .method mk := by rw [Launch.admits_selectMethod X.admits]; exact q4
  obtain ⟨vm₁, X₁, hstep₁⟩ := X.invokevirtual hexec hown hlink hnamed hmethM hstM hkP hkPi hy (a := b) (cell := cellB) hcell
    (fun z h => by rw [h] at hobj; cases hobj) hselP hmethM habM hkP hkPi (g := g) hg (argsL := argsL) (rest := rest) (hlen _ hsigM) hstack hdg
  rcases hK m meth c ⟨T.setVm vm₁, locs, cells, slots⟩ { g with stack := rest } (.invokevirtual index) mk (Value.ref b :: argsL).toArray X₁ hg hsize hdg hW (X₁.named hnamed) (hpre vm₁ X₁.warmed) with ⟨v, B, X', hpost, hsteps⟩ | ⟨q, B, X', hpost, hsteps⟩
  · exact Or.inl ⟨v, vm₁, B, X₁.warmed, X', hpost, fun target h => hstep₁ _ fun acts => by rw [doInvoke_state]; exact hsteps.trans h⟩
  · exact Or.inr ⟨q, vm₁, B, X₁.warmed, X', hpost, hstep₁ _ fun acts => by rw [doInvoke_state]; exact hsteps⟩
theorem vx_callS (X : Stand p l e R s m args below meth c T locs cells slots) (hexec : p.tables.exec = Jvm.exec) {own : String} {index : Nat} {y : MethodName} {bytes : ByteArray} {maxL : Nat} {ret : Option FieldType}
    (hown : s.vm.findClass own = some m.cls) (hlink : (Cond.methodLink own index y).before args s = true) (hstat : (Cond.static y).before args s = true) (hinit : (Cond.initialized y.cls).before args s = true)
    (hcode : (Cond.code y bytes maxL ret).before args s = true) (hy : y.cls ≠ "java/lang/invoke/MethodHandle" ∧ y.cls ≠ "java/lang/invoke/VarHandle")
    {W9 : Nat} {Pre : Pt → Array Value → Prop} {Post : Pt → Array Value → Option Value → Pt → Prop} {PostX : Pt → Array Value → Addr → Pt → Prop} (hK : vx_Back l R p e below s args y 3 W9 Pre Post PostX)
    {g : JFrame} (hg : g.method = m) (hsize : g.locals.size = c.maxLocals) {argsL rest : List Value} (hlen : ∀ sig, parseMethodDescriptor y.desc = some sig → argsL.length = sig.parameters.length)
    (hstack : g.stack = argsL.reverse ++ rest) (hW : 2 * g.monitorRoom + (rest.map fun v => v.category).sum ≤ W9) (hdg : decode c.code g.pc = .ok (.invokestatic index, 3))
    (hpre : ∀ vm₁, s.WarmedH vm₁ → Pre ⟨T.setVm vm₁, locs, cells, slots⟩ argsL.toArray) :
    (∃ (v : Option Value) (vm₁ : Vm) (B : Pt), s.WarmedH vm₁ ∧ Stand p l e R s m args below meth c B.U B.locs B.cells B.slots ∧ Post ⟨T.setVm vm₁, locs, cells, slots⟩ argsL.toArray v B ∧
      ∀ target, Steps p.tables e below (B.U.setTop { g with pc := g.pc + 3, stack := v.toList ++ rest }) target → Steps p.tables e below (T.setTop g) target) ∨
    (∃ (q : Addr) (vm₁ : Vm) (B : Pt), s.WarmedH vm₁ ∧ Stand p l e R s m args below meth c B.U B.locs B.cells B.slots ∧ PostX ⟨T.setVm vm₁, locs, cells, slots⟩ argsL.toArray q B ∧
      Steps p.tables e below (T.setTop g) ((B.U.setTop { g with stack := rest }).pushFrame (.throwing q))) := by
  obtain ⟨mk, hnamed⟩ := Cond.code_named hcode
  obtain ⟨methM, cM, hmethM, -, -, -, -, -, -, hsigM⟩ := Cond.code_spec hnamed hcode
  have hstatic : methM.isStatic = true := Cond.static_spec hnamed hmethM hstat
  obtain ⟨kP, hkP, -⟩ := className_of_methodNamed hnamed
  have hinitP : kP.init = .initialized := Cond.initialized_spec (findClass_of_methodNamed hnamed) hkP hinit
  obtain ⟨vm₁, X₁, hstep₁⟩ := X.invokestatic hexec hown hlink hnamed hmethM hstatic hkP hinitP hy (g := g) hg (argsL := argsL) (rest := rest) (hlen _ hsigM) hstack hdg
  rcases hK m meth c ⟨T.setVm vm₁, locs, cells, slots⟩ { g with stack := rest } (.invokestatic index) mk argsL.toArray X₁ hg hsize hdg hW (X₁.named hnamed) (hpre vm₁ X₁.warmed) with ⟨v, B, X', hpost, hsteps⟩ | ⟨q, B, X', hpost, hsteps⟩
  · exact Or.inl ⟨v, vm₁, B, X₁.warmed, X', hpost, fun target h => hstep₁ _ fun acts => by rw [doInvoke_state]; exact hsteps.trans h⟩
  · exact Or.inr ⟨q, vm₁, B, X₁.warmed, X', hpost, hstep₁ _ fun acts => by rw [doInvoke_state]; exact hsteps⟩
end Calls
theorem vx_cls {s : State} {T : State} {vm₁ : Vm} {E : String} {k : ClassId} (hW : s.WarmedH vm₁) (h : (T.setVm vm₁).vm.findClass E = some k) : s.vm.findClass E = some k := by
  have h1 : vm₁.findClass E = some k := h
  rw [hW.alike.findClass] at h1
  exact h1
/-- the method's frame g, with q thrown over it -/
def vx_W (p : Program) (l : Launch) (e : Env) (R : Room) (s : State) (m : MethodId) (args : Array Value) (below : List Frame) (meth : Method) (c : Code) (H : Heap) (locs : List Loc) (cells slots : Nat) (Q : State → Prop) (g : JFrame) (q : Addr) : Prop :=
  ∀ T : State, T.heap = H → Stand p l e R s m args below meth c T locs cells slots → ∃ t, Steps p.tables e below ((T.setTop g).pushFrame (.throwing q)) t ∧ Q t
def vx_Run (p : Program) (l : Launch) (e : Env) (R : Room) (s : State) (m : MethodId) (args : Array Value) (below : List Frame) (meth : Method) (c : Code) (H : Heap) (locs : List Loc) (cells slots mc ms : Nat) (g : JFrame) (rest : List Value) (Qa : State → Outcome → State → Prop) (XC : String → State → State → Prop) (free : Addr → Prop) : Prop :=
  ∀ T : State, T.heap = H → Stand p l e R s m args below meth c T locs cells slots →
    (∃ (v : Option Value) (st₀ t T' : State) (L : List Loc), st₀.heap = H ∧ Stand p l e R s m args below meth c T' (locs ++ L) (cells + mc) (slots + ms) ∧ (∀ q ∈ L, free q.base) ∧ T'.heap = t.heap ∧ T'.vm = t.vm ∧ Qa st₀ (.returned v) t ∧
      Goes p e below T g T' { g with pc := g.pc + 3, stack := v.toList ++ rest }) ∨
    (∃ (q : Addr) (st₀ t T' : State) (L : List Loc) (E : String) (ce : Cell), st₀.heap = H ∧ Stand p l e R s m args below meth c T' (locs ++ L) (cells + mc) (slots + ms) ∧ (∀ z ∈ L, free z.base) ∧ T'.heap = t.heap ∧ T'.vm = t.vm ∧ XC E st₀ t ∧ t.heap[q]? = some ce ∧ ce.vm = .none ∧ s.vm.findClass E = some ce.cls ∧
      Steps p.tables e below (T.setTop g) ((T'.setTop { g with stack := rest }).pushFrame (.throwing q)))
def vx_X {S : Type} (px : S → Prop) (B : String → S → State → Prop) (A : Nat → Prop) : String → State → State → Prop := fun E st t => ∃ u : S, px u ∧ B E u t ∧ va_F A st t
section Runs
variable {p : Program} {l : Launch} {e : Env} {R : Room} {s : State} {m : MethodId} {args : Array Value} {below : List Frame} {meth : Method} {c : Code} {H : Heap} {locs : List Loc} {cells slots : Nat}
variable {y : MethodName} {bytes cc : ByteArray} {maxL nL mc ms n index : Nat} {ret : Option FieldType} {ws : List Cond} {rm : Room} {Pc : Array Value → State → Prop} {Qc : Array Value → State → Outcome → State → Prop} {XC : String → State → State → Prop} {free : Addr → Prop} {Ts : List Cond} {own C : String} {b : Addr} {As rest : List Value} {g : JFrame}
theorem vx_callBack (cb : CallB R s args own index y bytes maxL ret ws rm mc ms n) (hM : vx_Met l y ws rm Pc Qc XC mc ms free) (hbl : FrameBlind Pc) : vx_Back l R p e below s args y 3 8 (PreOf R mc ms Pc) (PostOf Qc mc ms free) (vx_Post XC mc ms free) := by
  obtain ⟨hrc, hrs, hfr, hlo, hws, hcw, -, hini, -⟩ := cb
  exact vx_back (bytes := bytes) (maxL := maxL) (ret := ret) hM hbl hrc hrs hfr hlo hws hcw (fun a' U hW => word_at hW (Or.inl (by first | rfl | simp [Cond.onTables, Cond.keeps, Cond.steady])) hini)
theorem vx_runV (S : CallFix p m c cc nL s args Ts own) (hM : vx_Met l y ws rm Pc Qc XC mc ms free) (cw : CallW R s args own C index y bytes maxL ret ws rm mc ms n) (hp : PreV s H C b Pc As)
    (hg : g.method = m) (hn : As.length = n) (hsize : g.locals.size = nL) (hstack : g.stack = As.reverse ++ .ref b :: rest) (hW : 2 * g.monitorRoom + (rest.map fun v => v.category).sum ≤ 8) (hdg : decode cc g.pc = .ok (.invokevirtual index, 3)) (hf : cells + mc ≤ R.cells ∧ slots + ms ≤ R.slots) :
    vx_Run p l e R s m args below meth c H locs cells slots mc ms g rest (Qc (Value.ref b :: As).toArray) XC free := by
  have hK : vx_Back l R p e below s args y 3 8 (PreOf R mc ms Pc) (PostOf Qc mc ms free) (vx_Post XC mc ms free) := vx_callBack cw.1 hM hp.1
  obtain ⟨⟨-, -, -, -, -, -, hcode, -, hy, hlen, hl⟩, hin, hse⟩ := cw
  obtain ⟨hx, hb, hml, ho, -⟩ := S
  obtain ⟨-, ⟨cellB, hcB, hoB, hclB⟩, hPc⟩ := hp
  intro T hT X
  rcases vx_callV X hx (C := C) (bytes := bytes) (maxL := maxL) (ret := ret) ho hl hin hse hcode hy hK (by rw [hT]; exact hcB) hoB hclB hg (hsize.trans hml.symm) (argsL := As) (rest := rest) (fun sig h => hn.trans (hlen sig h)) hstack hW (by rw [hb]; exact hdg)
    (fun vm₁ hW₁ => ⟨hf.1, hf.2, hPc (T.setVm vm₁) hT hW₁⟩) with ⟨v, vm₁, ⟨U', l2, c2, s2⟩, hW₁, X', ⟨g', mk, t, L, e1, e2, hq, h1, hL, h2, h3⟩, st⟩ | ⟨q, vm₁, ⟨U', l2, c2, s2⟩, hW₁, X', ⟨g', mk, t, L, E, ce, e1, e2, hq, hce, hcv, hcl, h1, hL, h2, h3⟩, st⟩
  · dsimp only [Pt.U, Pt.locs, Pt.cells, Pt.slots] at X' e1 e2 h1 h2 h3 st
    subst h1; subst h2; subst h3
    exact Or.inl ⟨v, (T.setVm vm₁).calling g' mk (Value.ref b :: As).toArray, t, U', L, hT, X', hL, e1, e2, hq, st⟩
  · dsimp only [Pt.U, Pt.locs, Pt.cells, Pt.slots] at X' e1 e2 h1 h2 h3 st hcl
    subst h1; subst h2; subst h3
    exact Or.inr ⟨q, (T.setVm vm₁).calling g' mk (Value.ref b :: As).toArray, t, U', L, E, ce, hT, X', hL, e1, e2, hq, hce, hcv, vx_cls hW₁ hcl, st⟩
theorem vx_runS (S : CallFix p m c cc nL s args Ts own) (hM : vx_Met l y ws rm Pc Qc XC mc ms free) (cw : CallB R s args own index y bytes maxL ret ws rm mc ms n ∧ (Cond.static y).before args s = true) (hp : PreS s H Pc As)
    (hg : g.method = m) (hn : As.length = n) (hsize : g.locals.size = nL) (hstack : g.stack = As.reverse ++ rest) (hW : 2 * g.monitorRoom + (rest.map fun v => v.category).sum ≤ 8) (hdg : decode cc g.pc = .ok (.invokestatic index, 3)) (hf : cells + mc ≤ R.cells ∧ slots + ms ≤ R.slots) :
    vx_Run p l e R s m args below meth c H locs cells slots mc ms g rest (Qc As.toArray) XC free := by
  have hK : vx_Back l R p e below s args y 3 8 (PreOf R mc ms Pc) (PostOf Qc mc ms free) (vx_Post XC mc ms free) := vx_callBack cw.1 hM hp.1
  obtain ⟨⟨-, -, -, -, -, -, hcode, hini, hy, hlen, hl⟩, hstt⟩ := cw
  obtain ⟨hx, hb, hml, ho, -⟩ := S
  intro T hT X
  rcases vx_callS X hx (bytes := bytes) (maxL := maxL) (ret := ret) ho hl hstt hini hcode hy hK hg (hsize.trans hml.symm) (argsL := As) (rest := rest) (fun sig h => hn.trans (hlen sig h)) hstack hW (by rw [hb]; exact hdg)
    (fun vm₁ hW₁ => ⟨hf.1, hf.2, hp.2 (T.setVm vm₁) hT hW₁⟩) with ⟨v, vm₁, ⟨U', l2, c2, s2⟩, hW₁, X', ⟨g', mk, t, L, e1, e2, hq, h1, hL, h2, h3⟩, st⟩ | ⟨q, vm₁, ⟨U', l2, c2, s2⟩, hW₁, X', ⟨g', mk, t, L, E, ce, e1, e2, hq, hce, hcv, hcl, h1, hL, h2, h3⟩, st⟩
  · dsimp only [Pt.U, Pt.locs, Pt.cells, Pt.slots] at X' e1 e2 h1 h2 h3 st
    subst h1; subst h2; subst h3
    exact Or.inl ⟨v, (T.setVm vm₁).calling g' mk As.toArray, t, U', L, hT, X', hL, e1, e2, hq, st⟩
  · dsimp only [Pt.U, Pt.locs, Pt.cells, Pt.slots] at X' e1 e2 h1 h2 h3 st hcl
    subst h1; subst h2; subst h3
    exact Or.inr ⟨q, (T.setVm vm₁).calling g' mk As.toArray, t, U', L, E, ce, hT, X', hL, e1, e2, hq, hce, hcv, vx_cls hW₁ hcl, st⟩
end Runs
section Rows
variable {p : Program} {l : Launch} {e : Env} {R : Room} {s : State} {m : MethodId} {args : Array Value} {below : List Frame} {meth : Method} {c : Code} {H : Heap} {locs : List Loc} {cells slots : Nat} {Q : State → Prop}
variable {mc ms : Nat} {free : Addr → Prop} {A0 A1 : Nat → Prop} {H0 : Heap} {a : Array Value} {pc : Nat} {ls : Array Slot} {st0 rest : List Value}
theorem vx_keep {st₀ t T' : State} {L : List Loc} (h0 : st₀.heap = H) (e1 : T'.heap = t.heap) (hS : va_S A0 H0 H locs) (hA : ∀ q, q < H.size → A1 q → A0 q) (hf : ∀ q, free q → A0 q) (hL : ∀ q ∈ L, free q.base) (hF : va_F A1 st₀ t) :
    H.size ≤ T'.heap.size ∧ (∀ q : Nat, q < H.size → ¬ A1 q → T'.heap[q]? = H[q]?) ∧ va_S A0 H0 T'.heap (locs ++ L) := by
  obtain ⟨hz, hk⟩ := hF
  rw [h0] at hz hk
  exact ⟨by rw [e1]; exact hz, fun q h1 h2 => by rw [e1]; exact hk q h1 h2,
    ⟨Nat.le_trans hS.1 (by rw [e1]; exact hz), fun q h1 h2 => by rw [e1, hk q (Nat.lt_of_lt_of_le h1 hS.1) (fun z => h2 (hA q (Nat.lt_of_lt_of_le h1 hS.1) z))]; exact hS.2.1 q h1 h2, fun q hq => by
      rcases List.mem_append.mp hq with h | h
      · exact hS.2.2 q h
      · exact hf _ (hL q h)⟩⟩
theorem vx_calli {S SX : Type} {post : Int32 → S → Prop} {px : SX → Prop} {B : S → State → Prop} {BX : String → SX → State → Prop} {AX : Nat → Prop} (hr : vx_Run p l e R s m args below meth c H locs cells slots mc ms (F0 m pc ls st0) rest (va_Qi post B A1 a) (vx_X px BX AX) free) (hS : va_S A0 H0 H locs) (hA : ∀ q, q < H.size → A1 q → A0 q) (hf : ∀ q, free q → A0 q) (hAX : ∀ q, q < H.size → AX q → A0 q)
    (kx : ∀ (E : String) (ce : Cell) (q9 : Addr) (u : SX) (t : State) (H1 : Heap) (locs1 : List Loc), t.heap = H1 → s.vm.Alike t.vm → px u → BX E u t → H.size ≤ H1.size → (∀ q : Nat, q < H.size → ¬ AX q → H1[q]? = H[q]?) → va_S A0 H0 H1 locs1 → H1[q9]? = some ce → ce.vm = .none → s.vm.findClass E = some ce.cls → vx_W p l e R s m args below meth c H1 locs1 (cells + mc) (slots + ms) Q (F0 m pc ls rest) q9)
    (kk : ∀ (r : Int32) (u : S) (t : State) (H1 : Heap) (locs1 : List Loc), t.heap = H1 → s.vm.Alike t.vm → post r u → B u t → H.size ≤ H1.size → (∀ q : Nat, q < H.size → ¬ A1 q → H1[q]? = H[q]?) → va_S A0 H0 H1 locs1 → W p l e R s m args below meth c H1 locs1 (cells + mc) (slots + ms) Q (F0 m (pc + 3) ls (.int r :: rest))) : W p l e R s m args below meth c H locs cells slots Q (F0 m pc ls st0) := by
  intro T hT X
  rcases hr T hT X with ⟨v, st₀, t, T', L, h0, X', hL, e1, e2, ⟨⟨r, u, hv, hp, hb⟩, hF⟩, st⟩ | ⟨q, st₀, t, T', L, E, ce, h0, X', hL, e1, e2, ⟨u, hp, hb, hF⟩, hce, hcv, hcl, st⟩
  · cases hv
    obtain ⟨k1, k2, k3⟩ := vx_keep h0 e1 hS hA hf hL hF
    obtain ⟨t2, a1, b1⟩ := kk r u t T'.heap (locs ++ L) e1.symm (by rw [← e2]; exact X'.warmed.alike) hp hb k1 k2 k3 T' rfl X'
    exact ⟨t2, st t2 a1, b1⟩
  · obtain ⟨k1, k2, k3⟩ := vx_keep h0 e1 hS hAX hf hL hF
    obtain ⟨t2, a1, b1⟩ := kx E ce q u t T'.heap (locs ++ L) e1.symm (by rw [← e2]; exact X'.warmed.alike) hp hb k1 k2 k3 (by rw [e1]; exact hce) hcv hcl T' rfl X'
    exact ⟨t2, st.trans a1, b1⟩
theorem vx_calll {S SX : Type} {post : Int64 → S → Prop} {px : SX → Prop} {B : S → State → Prop} {BX : String → SX → State → Prop} {AX : Nat → Prop} (hr : vx_Run p l e R s m args below meth c H locs cells slots mc ms (F0 m pc ls st0) rest (va_Ql post B A1 a) (vx_X px BX AX) free) (hS : va_S A0 H0 H locs) (hA : ∀ q, q < H.size → A1 q → A0 q) (hf : ∀ q, free q → A0 q) (hAX : ∀ q, q < H.size → AX q → A0 q)
    (kx : ∀ (E : String) (ce : Cell) (q9 : Addr) (u : SX) (t : State) (H1 : Heap) (locs1 : List Loc), t.heap = H1 → s.vm.Alike t.vm → px u → BX E u t → H.size ≤ H1.size → (∀ q : Nat, q < H.size → ¬ AX q → H1[q]? = H[q]?) → va_S A0 H0 H1 locs1 → H1[q9]? = some ce → ce.vm = .none → s.vm.findClass E = some ce.cls → vx_W p l e R s m args below meth c H1 locs1 (cells + mc) (slots + ms) Q (F0 m pc ls rest) q9)
    (kk : ∀ (r : Int64) (u : S) (t : State) (H1 : Heap) (locs1 : List Loc), t.heap = H1 → s.vm.Alike t.vm → post r u → B u t → H.size ≤ H1.size → (∀ q : Nat, q < H.size → ¬ A1 q → H1[q]? = H[q]?) → va_S A0 H0 H1 locs1 → W p l e R s m args below meth c H1 locs1 (cells + mc) (slots + ms) Q (F0 m (pc + 3) ls (.long r :: rest))) : W p l e R s m args below meth c H locs cells slots Q (F0 m pc ls st0) := by
  intro T hT X
  rcases hr T hT X with ⟨v, st₀, t, T', L, h0, X', hL, e1, e2, ⟨⟨r, u, hv, hp, hb⟩, hF⟩, st⟩ | ⟨q, st₀, t, T', L, E, ce, h0, X', hL, e1, e2, ⟨u, hp, hb, hF⟩, hce, hcv, hcl, st⟩
  · cases hv
    obtain ⟨k1, k2, k3⟩ := vx_keep h0 e1 hS hA hf hL hF
    obtain ⟨t2, a1, b1⟩ := kk r u t T'.heap (locs ++ L) e1.symm (by rw [← e2]; exact X'.warmed.alike) hp hb k1 k2 k3 T' rfl X'
    exact ⟨t2, st t2 a1, b1⟩
  · obtain ⟨k1, k2, k3⟩ := vx_keep h0 e1 hS hAX hf hL hF
    obtain ⟨t2, a1, b1⟩ := kx E ce q u t T'.heap (locs ++ L) e1.symm (by rw [← e2]; exact X'.warmed.alike) hp hb k1 k2 k3 (by rw [e1]; exact hce) hcv hcl T' rfl X'
    exact ⟨t2, st.trans a1, b1⟩
theorem vx_callf {S SX : Type} {post : UInt32 → S → Prop} {px : SX → Prop} {B : S → State → Prop} {BX : String → SX → State → Prop} {AX : Nat → Prop} (hr : vx_Run p l e R s m args below meth c H locs cells slots mc ms (F0 m pc ls st0) rest (va_Qf post B A1 a) (vx_X px BX AX) free) (hS : va_S A0 H0 H locs) (hA : ∀ q, q < H.size → A1 q → A0 q) (hf : ∀ q, free q → A0 q) (hAX : ∀ q, q < H.size → AX q → A0 q)
    (kx : ∀ (E : String) (ce : Cell) (q9 : Addr) (u : SX) (t : State) (H1 : Heap) (locs1 : List Loc), t.heap = H1 → s.vm.Alike t.vm → px u → BX E u t → H.size ≤ H1.size → (∀ q : Nat, q < H.size → ¬ AX q → H1[q]? = H[q]?) → va_S A0 H0 H1 locs1 → H1[q9]? = some ce → ce.vm = .none → s.vm.findClass E = some ce.cls → vx_W p l e R s m args below meth c H1 locs1 (cells + mc) (slots + ms) Q (F0 m pc ls rest) q9)
    (kk : ∀ (r : UInt32) (u : S) (t : State) (H1 : Heap) (locs1 : List Loc), t.heap = H1 → s.vm.Alike t.vm → post r u → B u t → H.size ≤ H1.size → (∀ q : Nat, q < H.size → ¬ A1 q → H1[q]? = H[q]?) → va_S A0 H0 H1 locs1 → W p l e R s m args below meth c H1 locs1 (cells + mc) (slots + ms) Q (F0 m (pc + 3) ls (.float r :: rest))) : W p l e R s m args below meth c H locs cells slots Q (F0 m pc ls st0) := by
  intro T hT X
  rcases hr T hT X with ⟨v, st₀, t, T', L, h0, X', hL, e1, e2, ⟨⟨r, u, hv, hp, hb⟩, hF⟩, st⟩ | ⟨q, st₀, t, T', L, E, ce, h0, X', hL, e1, e2, ⟨u, hp, hb, hF⟩, hce, hcv, hcl, st⟩
  · cases hv
    obtain ⟨k1, k2, k3⟩ := vx_keep h0 e1 hS hA hf hL hF
    obtain ⟨t2, a1, b1⟩ := kk r u t T'.heap (locs ++ L) e1.symm (by rw [← e2]; exact X'.warmed.alike) hp hb k1 k2 k3 T' rfl X'
    exact ⟨t2, st t2 a1, b1⟩
  · obtain ⟨k1, k2, k3⟩ := vx_keep h0 e1 hS hAX hf hL hF
    obtain ⟨t2, a1, b1⟩ := kx E ce q u t T'.heap (locs ++ L) e1.symm (by rw [← e2]; exact X'.warmed.alike) hp hb k1 k2 k3 (by rw [e1]; exact hce) hcv hcl T' rfl X'
    exact ⟨t2, st.trans a1, b1⟩
theorem vx_calld {S SX : Type} {post : UInt64 → S → Prop} {px : SX → Prop} {B : S → State → Prop} {BX : String → SX → State → Prop} {AX : Nat → Prop} (hr : vx_Run p l e R s m args below meth c H locs cells slots mc ms (F0 m pc ls st0) rest (va_Qd post B A1 a) (vx_X px BX AX) free) (hS : va_S A0 H0 H locs) (hA : ∀ q, q < H.size → A1 q → A0 q) (hf : ∀ q, free q → A0 q) (hAX : ∀ q, q < H.size → AX q → A0 q)
    (kx : ∀ (E : String) (ce : Cell) (q9 : Addr) (u : SX) (t : State) (H1 : Heap) (locs1 : List Loc), t.heap = H1 → s.vm.Alike t.vm → px u → BX E u t → H.size ≤ H1.size → (∀ q : Nat, q < H.size → ¬ AX q → H1[q]? = H[q]?) → va_S A0 H0 H1 locs1 → H1[q9]? = some ce → ce.vm = .none → s.vm.findClass E = some ce.cls → vx_W p l e R s m args below meth c H1 locs1 (cells + mc) (slots + ms) Q (F0 m pc ls rest) q9)
    (kk : ∀ (r : UInt64) (u : S) (t : State) (H1 : Heap) (locs1 : List Loc), t.heap = H1 → s.vm.Alike t.vm → post r u → B u t → H.size ≤ H1.size → (∀ q : Nat, q < H.size → ¬ A1 q → H1[q]? = H[q]?) → va_S A0 H0 H1 locs1 → W p l e R s m args below meth c H1 locs1 (cells + mc) (slots + ms) Q (F0 m (pc + 3) ls (.double r :: rest))) : W p l e R s m args below meth c H locs cells slots Q (F0 m pc ls st0) := by
  intro T hT X
  rcases hr T hT X with ⟨v, st₀, t, T', L, h0, X', hL, e1, e2, ⟨⟨r, u, hv, hp, hb⟩, hF⟩, st⟩ | ⟨q, st₀, t, T', L, E, ce, h0, X', hL, e1, e2, ⟨u, hp, hb, hF⟩, hce, hcv, hcl, st⟩
  · cases hv
    obtain ⟨k1, k2, k3⟩ := vx_keep h0 e1 hS hA hf hL hF
    obtain ⟨t2, a1, b1⟩ := kk r u t T'.heap (locs ++ L) e1.symm (by rw [← e2]; exact X'.warmed.alike) hp hb k1 k2 k3 T' rfl X'
    exact ⟨t2, st t2 a1, b1⟩
  · obtain ⟨k1, k2, k3⟩ := vx_keep h0 e1 hS hAX hf hL hF
    obtain ⟨t2, a1, b1⟩ := kx E ce q u t T'.heap (locs ++ L) e1.symm (by rw [← e2]; exact X'.warmed.alike) hp hb k1 k2 k3 (by rw [e1]; exact hce) hcv hcl T' rfl X'
    exact ⟨t2, st.trans a1, b1⟩
theorem vx_callv {S SX : Type} {post : S → Prop} {px : SX → Prop} {B : S → State → Prop} {BX : String → SX → State → Prop} {AX : Nat → Prop} (hr : vx_Run p l e R s m args below meth c H locs cells slots mc ms (F0 m pc ls st0) rest (va_Qv post B A1 a) (vx_X px BX AX) free) (hS : va_S A0 H0 H locs) (hA : ∀ q, q < H.size → A1 q → A0 q) (hf : ∀ q, free q → A0 q) (hAX : ∀ q, q < H.size → AX q → A0 q)
    (kx : ∀ (E : String) (ce : Cell) (q9 : Addr) (u : SX) (t : State) (H1 : Heap) (locs1 : List Loc), t.heap = H1 → s.vm.Alike t.vm → px u → BX E u t → H.size ≤ H1.size → (∀ q : Nat, q < H.size → ¬ AX q → H1[q]? = H[q]?) → va_S A0 H0 H1 locs1 → H1[q9]? = some ce → ce.vm = .none → s.vm.findClass E = some ce.cls → vx_W p l e R s m args below meth c H1 locs1 (cells + mc) (slots + ms) Q (F0 m pc ls rest) q9)
    (kk : ∀ (u : S) (t : State) (H1 : Heap) (locs1 : List Loc), t.heap = H1 → s.vm.Alike t.vm → post u → B u t → H.size ≤ H1.size → (∀ q : Nat, q < H.size → ¬ A1 q → H1[q]? = H[q]?) → va_S A0 H0 H1 locs1 → W p l e R s m args below meth c H1 locs1 (cells + mc) (slots + ms) Q (F0 m (pc + 3) ls (rest))) : W p l e R s m args below meth c H locs cells slots Q (F0 m pc ls st0) := by
  intro T hT X
  rcases hr T hT X with ⟨v, st₀, t, T', L, h0, X', hL, e1, e2, ⟨⟨u, hv, hp, hb⟩, hF⟩, st⟩ | ⟨q, st₀, t, T', L, E, ce, h0, X', hL, e1, e2, ⟨u, hp, hb, hF⟩, hce, hcv, hcl, st⟩
  · cases hv
    obtain ⟨k1, k2, k3⟩ := vx_keep h0 e1 hS hA hf hL hF
    obtain ⟨t2, a1, b1⟩ := kk u t T'.heap (locs ++ L) e1.symm (by rw [← e2]; exact X'.warmed.alike) hp hb k1 k2 k3 T' rfl X'
    exact ⟨t2, st t2 a1, b1⟩
  · obtain ⟨k1, k2, k3⟩ := vx_keep h0 e1 hS hAX hf hL hF
    obtain ⟨t2, a1, b1⟩ := kx E ce q u t T'.heap (locs ++ L) e1.symm (by rw [← e2]; exact X'.warmed.alike) hp hb k1 k2 k3 (by rw [e1]; exact hce) hcv hcl T' rfl X'
    exact ⟨t2, st.trans a1, b1⟩
/-- caught by the row x of this method's table; the rows ahead don't take it -/
theorem vx_catch {own name : String} {E : String} {ce : Cell} {q : Addr} (hown : s.vm.findClass own = some m.cls) (pre : List ExceptionTableEntry) (x : ExceptionTableEntry) (suf : List ExceptionTableEntry) (hsplit : c.exceptionTable.toList = pre ++ x :: suf)
    (hpass : ∀ z ∈ pre, covers z pc = false ∨ (z.catchType ≠ 0 ∧ ∃ nm : String, (Cond.classLink own z.catchType nm).before args s = true ∧ va_Nc E nm s)) (hx : covers x pc = true) (h0 : x.catchType ≠ 0)
    (hlink : (Cond.classLink own x.catchType name).before args s = true) (hcast : (Cond.castable E name).before args s = true) (hcell : H[q]? = some ce) (hv : ce.vm = .none) (hcl : s.vm.findClass E = some ce.cls)
    (kk : W p l e R s m args below meth c H locs cells slots Q (F0 m x.handlerPc ls [.ref q])) : vx_W p l e R s m args below meth c H locs cells slots Q (F0 m pc ls rest) q := by
  intro T hT X
  have hpl : e.platform.magicAccessors = ({} : Platform).magicAccessors := by rw [X.admits.platform]
  obtain ⟨c3, c4, hc3, hc4, hasg⟩ := Cond.castable_spec hcast
  cases Option.some.inj (hc3.symm.trans hcl)
  obtain ⟨c5, hc5, hcl5⟩ := Cond.classLink_spec hown hlink e.platform hpl
  cases Option.some.inj (hc4.symm.trans hc5)
  obtain ⟨vm', X', st⟩ := X.thenCaughtThrough q (g := F0 m pc ls rest) rfl (Steps.refl _) (by rw [hT]; exact hcell) (by rw [hv]; rfl) (by obtain ⟨k9, h9, -⟩ := Vm.findClass_spec hcl; exact ⟨k9, h9⟩) pre x suf hsplit
    (fun z hz => by
      rcases hpass z hz with h | ⟨hz0, nm, hl1, hn1⟩
      · exact Or.inl h
      · obtain ⟨c6, hc6, hcl6⟩ := Cond.classLink_spec hown hl1 e.platform hpl
        obtain ⟨a8, b8, h1, h2, h3⟩ := hn1
        cases Option.some.inj (h1.symm.trans hcl)
        cases Option.some.inj (h2.symm.trans hc6)
        exact Or.inr ⟨hz0, _, hcl6, h3⟩) hx (Or.inr ⟨h0, c4, hcl5, hasg⟩)
  obtain ⟨t, a1, b1⟩ := kk (T.setVm vm') hT X'
  exact ⟨t, st.trans a1, b1⟩
end Rows
section Ends
variable {p : Program} {l : Launch} {e : Env} {R : Room} {s : State} {m : MethodId} {args : Array Value} {below : List Frame} {meth : Method} {c : Code} {H : Heap} {locs : List Loc} {cells slots : Nat} {Q : State → Prop}
variable {mc ms : Nat} {free : Addr → Prop} {A0 A1 : Nat → Prop} {H0 : Heap} {a : Array Value} {ls : Array Slot} {st0 rest : List Value}
variable {Qc : Array Value → State → Outcome → State → Prop} {XC : String → State → State → Prop}
/-- what a body that may throw owes at its end -/
def vx_MQ (below : List Frame) (Qc : Array Value → State → Outcome → State → Prop) (XC : String → State → State → Prop) (a : Array Value) (s : State) (mc ms : Nat) (free : Addr → Prop) : State → Prop := fun t =>
  ∃ o, t.status = .running ∧ Ended t below o ∧ vx_Q Qc XC mc ms free a s o t
theorem vx_ret {g : JFrame} {mc ms : Nat} (k : W p l e R s m args below meth c H locs cells slots (MQ below Qc args s mc ms free) g) : W p l e R s m args below meth c H locs cells slots (vx_MQ below Qc XC args s mc ms free) g := by
  intro T hT X
  obtain ⟨t, a1, o, b1, b2, b3, b4⟩ := k T hT X
  exact ⟨t, a1, o, b1, b2, Or.inl ⟨b3, b4⟩⟩
/-- not caught here: it goes on to the caller -/
theorem vx_widen {g : JFrame} {q : Addr} {k n : Nat} (h1 : cells ≤ k) (h2 : slots ≤ n) (kk : vx_W p l e R s m args below meth c H locs k n Q g q) : vx_W p l e R s m args below meth c H locs cells slots Q g q := fun T hT X => kk T hT (stand_widen X h1 h2)
theorem vx_out {pc : Nat} {E : String} {ce : Cell} {q : Addr} {mc ms : Nat} (hout : ∀ x ∈ c.exceptionTable.toList, covers x pc = false) (hlocks : meth.locks = false) (hcell : H[q]? = some ce) (hv : ce.vm = .none) (hcl : s.vm.findClass E = some ce.cls)
    (hx : ∀ t : State, t.heap = H → s.vm.Alike t.vm → XC E s t) (hf : ∀ z ∈ locs, free z.base) (hc : cells ≤ mc) (hs : slots ≤ ms) :
    vx_W p l e R s m args below meth c H locs cells slots (vx_MQ below Qc XC args s mc ms free) (F0 m pc ls rest) q := by
  intro T hT X
  obtain ⟨st1, hrun, hend, hW, hsm⟩ := X.leaveThrown q (g := F0 m pc ls rest) rfl rfl rfl hout hlocks
  have hcell9 : (T.setFrames (.throwing q :: below)).heap[q]? = some ce := by
    show T.heap[q]? = some ce
    rw [hT]; exact hcell
  exact ⟨_, st1, .threw q, hrun, hend, Or.inr ⟨q, rfl, E, ce, locs, hx _ hT hW.alike, hcell9, hv, hcl, hW, hsm.mono hc hs, hf⟩⟩
theorem vx_frame {U : State} {k n : Nat} (h : s.sameButNew ({ U with vm := s.vm } : State) locs k n) : s.heap.size ≤ U.heap.size ∧ ∀ q : Nat, q < s.heap.size → (∀ z ∈ locs, z.base ≠ q) → U.heap[q]? = s.heap[q]? := by
  obtain ⟨-, h2, -, -, -, h6⟩ := h
  refine ⟨h2, fun q hq hz => ?_⟩
  obtain ⟨c9, e1, e2, e3, e4⟩ := h6 q _ (Array.getElem?_eq_getElem hq)
  have hs : c9.slots = (s.heap[q]).slots := Array.ext_getElem? fun i => e4 i fun hm => hz _ hm rfl
  have h9 : c9 = s.heap[q] := by
    rw [hs] at e2
    exact e2
  have e5 : U.heap[q]? = some c9 := e1
  rw [e5, h9, Array.getElem?_eq_getElem hq]
/-- the words of a throw but the four that speak of the heap -/
def vx_no (w : Cond) : Bool := decide (w ≠ .isRef (.static Bundle.tN "UNASSIGNED_STACK" Bundle.steD)) && decide (w ≠ .isRef (.static Bundle.tN "SUPPRESSED_SENTINEL" Bundle.listD)) && decide (w ≠ .laysStatic Bundle.tN "UNASSIGNED_STACK" Bundle.steD) && decide (w ≠ .laysStatic Bundle.tN "SUPPRESSED_SENTINEL" Bundle.listD)
def vx_at0 (own : String) (ic : Nat) (X : String) (names : List String) : List Cond := (Bundle.ownAtoms0 own ic X names).filter vx_no
def vx_atS (own : String) (ic : Nat) (X : String) (names : List String) : List Cond := (Bundle.ownAtoms own ic X names).filter vx_no
/-- a word that the tables alone decide, or a good one -/
def vx_ot (w : Cond) : Bool := w.onTables || goodWord w
theorem vx_ot_at {args a' : Array Value} {s U : State} {w : Cond} (hW : s.WarmedH U.vm) (hvm : s.vm = U.vm) (hg : vx_ot w = true) (h : w.before args s = true) : w.before a' U = true := by
  simp only [vx_ot, Bool.or_eq_true] at hg
  rcases hg with hg | hg
  · exact va_tabs hg hvm h
  · exact word_at hW (good_of_word hg) h
/-- a list's words: the good ones out of the method's own list, the others by premises of their own -/
theorem vx_hat {args : Array Value} {s : State} {L B : List Cond} (h1 : ∀ w ∈ L.filter goodWord, w.before args s = true) (h2 : ∀ w ∈ L.filter (fun w => !goodWord w), w ∈ B) (h3 : ∀ w ∈ B, w.before args s = true) : ∀ w ∈ L, w.before args s = true := by
  intro w hw
  by_cases g : goodWord w = true
  · exact h1 w (List.mem_filter.mpr ⟨hw, g⟩)
  · refine h3 w (h2 w (List.mem_filter.mpr ⟨hw, ?_⟩))
    show (!goodWord w) = true
    cases hgw : goodWord w
    · rfl
    · exact absurd hgw g
theorem vx_c {args : Array Value} {s : State} {w : Cond} {B : List Cond} (h : w.before args s = true) (t : ∀ w ∈ B, w.before args s = true) : ∀ w' ∈ w :: B, w'.before args s = true := fun w' h' => (List.mem_cons.mp h').elim (fun e => by rw [e]; exact h) (t w')
theorem vx_n {args : Array Value} {s : State} : ∀ w ∈ ([] : List Cond), w.before args s = true := fun _ h => nomatch h
theorem vx_own {args : Array Value} {s : State} {L : List Cond} (h1 : ∀ w ∈ L.filter vx_no, w.before args s = true)
    (hU : (Cond.isRef (.static Bundle.tN "UNASSIGNED_STACK" Bundle.steD)).before args s = true) (hN : (Cond.isRef (.static Bundle.tN "SUPPRESSED_SENTINEL" Bundle.listD)).before args s = true)
    (lU : (Cond.laysStatic Bundle.tN "UNASSIGNED_STACK" Bundle.steD).before args s = true) (lN : (Cond.laysStatic Bundle.tN "SUPPRESSED_SENTINEL" Bundle.listD).before args s = true) : ∀ w ∈ L, w.before args s = true := by
  intro w hw
  by_cases e1 : w = .isRef (.static Bundle.tN "UNASSIGNED_STACK" Bundle.steD)
  · rw [e1]; exact hU
  · by_cases e2 : w = .isRef (.static Bundle.tN "SUPPRESSED_SENTINEL" Bundle.listD)
    · rw [e2]; exact hN
    · by_cases e3 : w = .laysStatic Bundle.tN "UNASSIGNED_STACK" Bundle.steD
      · rw [e3]; exact lU
      · by_cases e4 : w = .laysStatic Bundle.tN "SUPPRESSED_SENTINEL" Bundle.listD
        · rw [e4]; exact lN
        · exact h1 w (List.mem_filter.mpr ⟨hw, by unfold vx_no; rw [decide_eq_true e1, decide_eq_true e2, decide_eq_true e3, decide_eq_true e4]; rfl⟩)
/-- where a static field lies, its class's statics cell in H -/
def vx_L (C n d : String) (A : Nat → Prop) (U : State) (H : Heap) : Prop := ∃ (c : ClassId) (k : Class) (i : Nat) (f : Field) (a : Nat) (cell : Cell), U.vm.findClass C = some c ∧ U.fieldFound? C n d = some (c, k, i, f) ∧ f.isStatic = true ∧ k.statics = some a ∧ H[a]? = some cell ∧ cell.vm.isStatics = true ∧ cell.cls = c ∧ f.slot < cell.slots.size ∧ k.staticTypes[f.slot]? = some f.type ∧ ¬ A a
theorem vx_L.moved {C n d : String} {A : Nat → Prop} {u U : State} {H : Heap} (hvm : u.vm.Alike U.vm) (h : vx_L C n d A u H) : vx_L C n d A U H := by
  obtain ⟨c, k, i, f, a, cell, h1, h2, h3, h4, h5, h6, h7, h8, h9, h10⟩ := h
  obtain ⟨k', hi', he⟩ := State.fieldFound?_setVm hvm h2
  exact ⟨c, k', i, f, a, cell, by rw [hvm.findClass]; exact h1, hi', h3, by rw [he]; exact h4, h5, h6, h7, h8, by rw [he]; exact h9, h10⟩
theorem vx_L.kept {C n d : String} {A : Nat → Prop} {U : State} {H H1 : Heap} (h : vx_L C n d A U H) (hq : ∀ a : Nat, a < H.size → ¬ A a → H1[a]? = H[a]?) : vx_L C n d A U H1 := by
  obtain ⟨c, k, i, f, a, cell, h1, h2, h3, h4, h5, h6, h7, h8, h9, h10⟩ := h
  exact ⟨c, k, i, f, a, cell, h1, h2, h3, h4, by rw [hq a (Array.getElem?_eq_some_iff.mp h5).1 h10]; exact h5, h6, h7, h8, h9, h10⟩
theorem vx_L.narrow {C n d : String} {A B : Nat → Prop} {U : State} {H : Heap} (h : vx_L C n d A U H) (hAB : ∀ q, B q → A q) : vx_L C n d B U H := by
  obtain ⟨c, k, i, f, a, cell, h1, h2, h3, h4, h5, h6, h7, h8, h9, h10⟩ := h
  exact ⟨c, k, i, f, a, cell, h1, h2, h3, h4, h5, h6, h7, h8, h9, fun z => h10 (hAB _ z)⟩
theorem vx_L.word {C n d : String} {A : Nat → Prop} {s : State} {args : Array Value} (h : vx_L C n d A s s.heap) : (Cond.laysStatic C n d).before args s = true := by
  obtain ⟨c, k, i, f, a, cell, h1, h2, h3, h4, h5, h6, h7, h8, h9, -⟩ := h
  show (Cond.laysStatic C n d).holds args s none s [] = true
  exact Cond.laysStatic_of h1 h2 h3 h4 h5 h6 h7 h8 h9
/-- .. and what it holds: null or some reference -/
def vx_Zq (C n d : String) (A : Nat → Prop) (U : State) (H : Heap) : Prop := va_Zq C n d A U H ∧ vx_L C n d A U H
theorem vx_Zq.moved {C n d : String} {A : Nat → Prop} {u U : State} {H : Heap} (hvm : u.vm.Alike U.vm) (h : vx_Zq C n d A u H) : vx_Zq C n d A U H := ⟨va_Zq.moved hvm h.1, vx_L.moved hvm h.2⟩
theorem vx_Zq.kept {C n d : String} {A : Nat → Prop} {U : State} {H H1 : Heap} (h : vx_Zq C n d A U H) (hq : ∀ a : Nat, a < H.size → ¬ A a → H1[a]? = H[a]?) : vx_Zq C n d A U H1 := ⟨va_Zq.kept h.1 hq, vx_L.kept h.2 hq⟩
theorem vx_Zq.narrow {C n d : String} {A B : Nat → Prop} {U : State} {H : Heap} (h : vx_Zq C n d A U H) (hAB : ∀ q, B q → A q) : vx_Zq C n d B U H := ⟨va_Zq.narrow h.1 hAB, vx_L.narrow h.2 hAB⟩
theorem vx_Zqof {args : Array Value} {s : State} {C n d : String} {A : Nat → Prop} (hl : (Cond.laysStatic C n d).before args s = true) (hini : (Cond.initialized C).before args s = true) (h : (Cond.isRef (.static C n d)).before args s = true) (hA : ∀ a : Nat, a < s.heap.size → ¬ A a) : vx_Zq C n d A s s.heap := by
  refine ⟨va_Zqof hl hini h hA, ?_⟩
  obtain ⟨c, k, i, f, a, cell, h1, h2, h3, h4, h5, h6, h7, h8, h9⟩ := Cond.laysStatic_spec hl
  exact ⟨c, k, i, f, a, cell, h1, h2, h3, h4, h5, h6, h7, h8, h9, hA a (Array.getElem?_eq_some_iff.mp h5).1⟩
theorem vx_isRef {C n d : String} {v : Value} {A : Nat → Prop} {s : State} {args : Array Value} (h : va_Z C n d v A s s.heap) (hv : v.isRef = true) : (Cond.isRef (.static C n d)).before args s = true := by
  obtain ⟨cf, kf, fi, f, a, cell, h1, h2, h3, h4, h5, h6, h7, -⟩ := h
  have he : (Term.static C n d).eval args s none [] s = some v := by
    simp [Term.eval, State.fieldNamed?, h1, h2, h4, h5, h6, h7]
  simp only [Cond.before, Cond.holds, Cond.value, he]
  cases v <;> simp_all [Value.isRef]
theorem vx_isRefq {C n d : String} {A : Nat → Prop} {s : State} {args : Array Value} (h : va_Zq C n d A s s.heap) : (Cond.isRef (.static C n d)).before args s = true := by
  rcases h with h | ⟨t, h⟩
  · exact vx_isRef h rfl
  · exact vx_isRef h rfl
/-- the same frame, seen from here: as if the method were called anew in this heap -/
theorem vx_rebase {T : State} (X : Stand p l e R s m args below meth c T locs cells slots) {R' : Room} (hf : R'.frames ≤ R.frames) (hl : R'.locals ≤ R.locals) (hc : cells + R'.cells ≤ R.cells) (hs : slots + R'.slots ≤ R.slots) :
    Stand p l e R' ((T.setVm s.vm).setFrames (.invoking m args :: below)) m args below meth c T [] 0 0 := by
  have htop : (T.setVm s.vm).topJava?.isSome := X.here.top
  have hF : ((T.setVm s.vm).setFrames (.invoking m args :: below)).frames = .invoking m args :: below := State.frames_setFrames _ (State.cur_lt_of_top htop)
  obtain ⟨g₀, hg0⟩ := Option.isSome_iff_exists.mp htop
  obtain ⟨r, hr⟩ := State.topJava?_eq_some.mp hg0
  have hl9 : e.platform.stackLimits (T.setVm s.vm).me = e.platform.stackLimits s.me := X.limits
  have hb9 : (T.setVm s.vm).me.stackBytes = s.me.stackBytes := X.bytes
  refine ⟨X.admits, X.cas, X.clock, hF, ?_, X.hears, X.method, X.code, X.here, X.tail, X.warmed, ?_, ?_, ?_⟩
  · have h := X.room
    have hU : ((T.setVm s.vm).setFrames (.invoking m args :: below)).localsInUse = s.localsInUse := by
      rw [State.localsInUse_invoking hF (meth := meth) (c := c) X.method X.code, State.localsInUse_invoking X.frames X.method X.code]
    simp only [State.hasRoom, Bool.and_eq_true, decide_eq_true_eq] at h ⊢
    obtain ⟨⟨⟨⟨h1, h2, h3, h4, h5, h6⟩, h7⟩, h8⟩, h9⟩ := h
    rw [X.frames, List.length_cons] at h2 h3
    have q1 := X.heapSize
    have q2 := X.used
    simp only [hF, hU, List.length_cons, State.stackLimits_setFrames, State.stackBytes_setFrames, hl9, hb9]
    refine ⟨⟨⟨⟨by omega, by omega, by omega, by omega, by omega, h6⟩, ?_⟩, ?_⟩, X.book⟩
    · show T.heap.size + R'.cells ≤ e.platform.maxCells
      omega
    · show T.slotsUsed + R'.slots ≤ e.platform.maxSlots
      omega
  · rw [State.stackLimits_setFrames]; rfl
  · rw [State.stackBytes_setFrames]; rfl
  · refine ⟨?_, Nat.le_refl _, Nat.le_refl _, ?_, ?_, fun a c9 h9 => ⟨c9, h9, rfl, rfl, fun _ _ => rfl⟩⟩
    · obtain ⟨t, ht, -⟩ := State.frames_cons hr
      show T.setVm s.vm = { ((T.setVm s.vm).setFrames (.invoking m args :: below)).setFrames (T.setVm s.vm).frames with heap := T.heap, slotsUsed := T.slotsUsed }
      rw [State.setFrames_setFrames, State.setFrames_self ht]
      rfl
    · show T.slotsUsed = T.slotsUsed + ((T.heap.toList.drop T.heap.size).map (·.slots.size)).sum
      rw [List.drop_eq_nil_of_le (Nat.le_of_eq Array.length_toList)]
      rfl
    · show ((T.heap.toList.drop T.heap.size).map (·.slots.size)).sum ≤ 0
      rw [List.drop_eq_nil_of_le (Nat.le_of_eq Array.length_toList)]
      exact Nat.le_refl _
/-- 'throw new E()': new; dup; invokespecial; athrow -/
theorem vx_throw0 {cc : ByteArray} {pc : Nat} (hexec : p.tables.exec = Jvm.exec) (hb : c.code = cc) (hl : l.stackTraces = false) {own cls : String} {names : List String} {ik ic mc ms : Nat} {A : Nat → Prop}
    (hown : s.vm.findClass own = some m.cls) (hcls : Bundle.fit cls = true) (hnames : ∀ n ∈ names, Bundle.fit n = true)
    (hk : (Cond.classLink own ik cls).before args s = true) (hini : (Cond.initialized cls).before args s = true) (hat : ∀ w ∈ vx_at0 own ic cls names, w.before args s = true)
    (hgood : ∀ w ∈ Cond.classLink own ik cls :: Cond.initialized cls :: vx_at0 own ic cls names, vx_ot w = true)
    (hU : vx_Zq Bundle.tN "UNASSIGNED_STACK" Bundle.steD A s s.heap) (hN : vx_Zq Bundle.tN "SUPPRESSED_SENTINEL" Bundle.listD A s s.heap) (hS : va_S A s.heap H locs) (hsize : ls.size = c.maxLocals)
    (d0 : decode cc pc = .ok (.new ik, 3)) (d3 : decode cc (pc + 3) = .ok (.dup, 1)) (d4 : decode cc (pc + 4) = .ok (.invokespecial ic, 3)) (d7 : decode cc (pc + 7) = .ok (.athrow, 1))
    (hout : ∀ x ∈ c.exceptionTable.toList, covers x (pc + 7) = false)
    (hRframes : names.length + 3 < R.frames) (hRlocals : (rest.map fun v => v.category).sum + (13 * (names.length + 1) + 42) ≤ R.locals) (hRcells : cells + 1 ≤ R.cells) (hRslots : slots + 6 ≤ R.slots) (hlocks : meth.locks = false)
    (hx : ∀ t : State, s.vm.Alike t.vm → H.size ≤ t.heap.size → (∀ q : Nat, q < H.size → t.heap[q]? = H[q]?) → XC cls s t)
    (hf : ∀ z ∈ locs, free z.base) (hc : cells + 1 ≤ mc) (hs : slots + 6 ≤ ms) :
    W p l e R s m args below meth c H locs cells slots (vx_MQ below Qc XC args s mc ms free) (F0 m pc ls rest) := by
  intro T hT X
  have htr : e.platform.stackTraces = false := (show e.platform.stackTraces = l.stackTraces by rw [X.admits.platform]).trans hl
  have Y := vx_rebase X (R' := { frames := R.frames, locals := R.locals, cells := 1, slots := 6 }) (Nat.le_refl _) (Nat.le_refl _) hRcells hRslots
  obtain ⟨s', hA⟩ : ∃ z, z = (T.setVm s.vm).setFrames (.invoking m args :: below) := ⟨_, rfl⟩
  rw [← hA] at Y
  have hvm : s'.vm = s.vm := by rw [hA]; rfl
  have hhp : s'.heap = H := by rw [hA]; exact hT
  have hW0 : s.WarmedH s'.vm := by rw [hvm]; exact State.WarmedH.refl s
  have hat' : ∀ w ∈ vx_at0 own ic cls names, w.before args s' = true := fun w hw => vx_ot_at hW0 hvm.symm (hgood w (List.mem_cons_of_mem _ (List.mem_cons_of_mem _ hw))) (hat w hw)
  have hk' : (Cond.classLink own ik cls).before args s' = true := vx_ot_at hW0 hvm.symm (hgood _ List.mem_cons_self) hk
  have hini' : (Cond.initialized cls).before args s' = true := vx_ot_at hW0 hvm.symm (hgood _ (List.mem_cons_of_mem _ List.mem_cons_self)) hini
  have hU' : vx_Zq Bundle.tN "UNASSIGNED_STACK" Bundle.steD A s' s'.heap := by rw [hhp]; exact vx_Zq.moved hW0.alike (hU.kept hS.2.1)
  have hN' : vx_Zq Bundle.tN "SUPPRESSED_SENTINEL" Bundle.listD A s' s'.heap := by rw [hhp]; exact vx_Zq.moved hW0.alike (hN.kept hS.2.1)
  have h : ∀ w ∈ Bundle.ownAtoms0 own ic cls names, w.before args s' = true := vx_own hat' (vx_isRefq hU'.1) (vx_isRefq hN'.1) hU'.2.word hN'.2.word
  have hown' : s'.vm.findClass own = some m.cls := by rw [hvm]; exact hown
  have hins : (Cond.instantiable cls 6).before args s' = true := h _ (by simp [Bundle.ownAtoms0])
  obtain ⟨vm₁, cX, kX, hfX, hkX, -, -, X₁, st1⟩ := Y.newCold hexec (own := own) (C := cls) (index := ik) (n := 6) hown' hk' hins hini'
    (g := F0 m pc ls rest) rfl (by rw [hb]; exact d0) (Nat.le_refl _) (Nat.le_refl _)
  generalize hT1 : (T.setVm vm₁).pushCell { cls := cX, slots := kX.instanceTypes.map defaultValue, vm := .none } = T1 at X₁ st1
  have hcat : (Value.ref T.heap.size).category = 1 := rfl
  have hcellA : T1.heap[T.heap.size]? = some (freshCell cX kX) := by rw [← hT1]; exact State.heap_pushCell_size _ _
  have d3' : decode c.code (pc + 3) = .ok (.dup, 1) := by rw [hb]; exact d3
  obtain ⟨U, hsteps, hrun, hend, hW, hsame, ce, hce, hO⟩ := X₁.ctorThrow0 hexec htr (own := own) (cls := cls) (names := names) (ic := ic) hown' hcls hnames h (fun x hx => nomatch hx) hfX hkX hcellA (by rw [hhp, hT]; exact Nat.le_refl _)
    (g := { method := m, pc := pc + 4, locals := ls, stack := .ref T.heap.size :: .ref T.heap.size :: rest, locked := none }) rfl hsize rfl rfl (rest := rest) rfl
    (by rw [hb]; exact d4) (by rw [hb]; exact d7) hout hRframes (by simp only [List.map_cons, List.sum_cons, hcat]; omega) hlocks
  obtain ⟨f1, f2⟩ := vx_frame hsame
  rw [hhp] at f1 f2
  have hWs : s.WarmedH U.vm := State.WarmedH.trans hW0 hW
  have hcl : s.vm.findClass cls = some ce.cls := by
    have h9 := hO.cls
    rw [hvm] at h9
    exact h9
  have hall : s.sameButNew ({ U with vm := s.vm } : State) locs mc ms := by
    subst hA
    obtain ⟨e1, e2⟩ := hsame
    rw [State.setFrames_setFrames] at e1
    have h2 : (T.setVm s.vm).sameButNew ({ U with vm := s.vm } : State) [] (0 + 1) (0 + 6) := ⟨e1, e2⟩
    have h3 := X.same.trans h2
    rw [List.append_nil] at h3
    exact h3.mono hc hs
  refine ⟨U, ?_, .threw T.heap.size, hrun, hend, Or.inr ⟨T.heap.size, rfl, cls, ce, locs, hx U hWs.alike f1 (fun q hq => f2 q hq (fun z hz => nomatch hz)), hce, hO.vm, hcl, hWs, hall, hf⟩⟩
  refine st1 _ ?_
  show Steps p.tables e below (T1.setTop { method := m, pc := pc + 3, locals := ls, stack := .ref T.heap.size :: rest, locked := none }) _
  jvm_step X₁.here [X₁.here.top, hexec, d3', Value.category]
  exact hsteps
/-- 'throw new E("text")': new; dup; ldc; invokespecial; athrow -/
theorem vx_throwS {cc : ByteArray} {pc : Nat} (hexec : p.tables.exec = Jvm.exec) (hb : c.code = cc) (hl : l.stackTraces = false) {own cls text : String} {names : List String} {ik is ic mc ms sa : Nat} {A : Nat → Prop}
    (hown : s.vm.findClass own = some m.cls) (hcls : Bundle.fit cls = true) (hnames : ∀ n ∈ names, Bundle.fit n = true)
    (hk : (Cond.classLink own ik cls).before args s = true) (hini : (Cond.initialized cls).before args s = true) (hstr : vk_R own is text sa s) (hat : ∀ w ∈ vx_atS own ic cls names, w.before args s = true)
    (hgood : ∀ w ∈ Cond.classLink own ik cls :: Cond.initialized cls :: vx_atS own ic cls names, vx_ot w = true)
    (hU : vx_Zq Bundle.tN "UNASSIGNED_STACK" Bundle.steD A s s.heap) (hN : vx_Zq Bundle.tN "SUPPRESSED_SENTINEL" Bundle.listD A s s.heap) (hS : va_S A s.heap H locs) (hsize : ls.size = c.maxLocals)
    (d0 : decode cc pc = .ok (.new ik, 3)) (d3 : decode cc (pc + 3) = .ok (.dup, 1)) (d4 : decode cc (pc + 4) = .ok (.ldc is, 2)) (d6 : decode cc (pc + 6) = .ok (.invokespecial ic, 3)) (d9 : decode cc (pc + 9) = .ok (.athrow, 1))
    (hout : ∀ x ∈ c.exceptionTable.toList, covers x (pc + 9) = false)
    (hRframes : names.length + 3 < R.frames) (hRlocals : (rest.map fun v => v.category).sum + (13 * (names.length + 1) + 43) ≤ R.locals) (hRcells : cells + 1 ≤ R.cells) (hRslots : slots + 6 ≤ R.slots) (hlocks : meth.locks = false)
    (hx : ∀ t : State, s.vm.Alike t.vm → H.size ≤ t.heap.size → (∀ q : Nat, q < H.size → t.heap[q]? = H[q]?) → XC cls s t)
    (hf : ∀ z ∈ locs, free z.base) (hc : cells + 1 ≤ mc) (hs : slots + 6 ≤ ms) :
    W p l e R s m args below meth c H locs cells slots (vx_MQ below Qc XC args s mc ms free) (F0 m pc ls rest) := by
  intro T hT X
  have htr : e.platform.stackTraces = false := (show e.platform.stackTraces = l.stackTraces by rw [X.admits.platform]).trans hl
  have Y := vx_rebase X (R' := { frames := R.frames, locals := R.locals, cells := 1, slots := 6 }) (Nat.le_refl _) (Nat.le_refl _) hRcells hRslots
  obtain ⟨s', hA⟩ : ∃ z, z = (T.setVm s.vm).setFrames (.invoking m args :: below) := ⟨_, rfl⟩
  rw [← hA] at Y
  have hvm : s'.vm = s.vm := by rw [hA]; rfl
  have hhp : s'.heap = H := by rw [hA]; exact hT
  have hW0 : s.WarmedH s'.vm := by rw [hvm]; exact State.WarmedH.refl s
  have hat' : ∀ w ∈ vx_atS own ic cls names, w.before args s' = true := fun w hw => vx_ot_at hW0 hvm.symm (hgood w (List.mem_cons_of_mem _ (List.mem_cons_of_mem _ hw))) (hat w hw)
  have hk' : (Cond.classLink own ik cls).before args s' = true := vx_ot_at hW0 hvm.symm (hgood _ List.mem_cons_self) hk
  have hini' : (Cond.initialized cls).before args s' = true := vx_ot_at hW0 hvm.symm (hgood _ (List.mem_cons_of_mem _ List.mem_cons_self)) hini
  have hU' : vx_Zq Bundle.tN "UNASSIGNED_STACK" Bundle.steD A s' s'.heap := by rw [hhp]; exact vx_Zq.moved hW0.alike (hU.kept hS.2.1)
  have hN' : vx_Zq Bundle.tN "SUPPRESSED_SENTINEL" Bundle.listD A s' s'.heap := by rw [hhp]; exact vx_Zq.moved hW0.alike (hN.kept hS.2.1)
  have h : ∀ w ∈ Bundle.ownAtoms own ic cls names, w.before args s' = true := vx_own hat' (vx_isRefq hU'.1) (vx_isRefq hN'.1) hU'.2.word hN'.2.word
  have hown' : s'.vm.findClass own = some m.cls := by rw [hvm]; exact hown
  have hins : (Cond.instantiable cls 6).before args s' = true := h _ (by simp [Bundle.ownAtoms])
  obtain ⟨vm₁, cX, kX, hfX, hkX, -, -, X₁, st1⟩ := Y.newCold hexec (own := own) (C := cls) (index := ik) (n := 6) hown' hk' hins hini'
    (g := F0 m pc ls rest) rfl (by rw [hb]; exact d0) (Nat.le_refl _) (Nat.le_refl _)
  generalize hT1 : (T.setVm vm₁).pushCell { cls := cX, slots := kX.instanceTypes.map defaultValue, vm := .none } = T1 at X₁ st1
  have hcat : (Value.ref T.heap.size).category = 1 := rfl
  have hcellA : T1.heap[T.heap.size]? = some (freshCell cX kX) := by rw [← hT1]; exact State.heap_pushCell_size _ _
  have d3' : decode c.code (pc + 3) = .ok (.dup, 1) := by rw [hb]; exact d3
  have d4' : decode c.code (pc + 4) = .ok (.ldc is, 2) := by rw [hb]; exact d4
  have hstr' : vk_R own is text sa s' := vk_R.warm hW0 hstr
  obtain ⟨U, hsteps, hrun, hend, hW, hsame, ce, hce, hO⟩ := X₁.ctorThrowS hexec htr (own := own) (cls := cls) (names := names) (ic := ic) hown' hcls hnames h (fun x hx => nomatch hx) hfX hkX hcellA (by rw [hhp, hT]; exact Nat.le_refl _) (msg := .ref sa) rfl
    (g := { method := m, pc := pc + 6, locals := ls, stack := .ref sa :: .ref T.heap.size :: .ref T.heap.size :: rest, locked := none }) rfl hsize rfl rfl (rest := rest) rfl
    (by rw [hb]; exact d6) (by rw [hb]; exact d9) hout hRframes (by simp only [List.map_cons, List.sum_cons, hcat]; omega) hlocks
  obtain ⟨f1, f2⟩ := vx_frame hsame
  rw [hhp] at f1 f2
  have hWs : s.WarmedH U.vm := State.WarmedH.trans hW0 hW
  have hcl : s.vm.findClass cls = some ce.cls := by
    have h9 := hO.cls
    rw [hvm] at h9
    exact h9
  have hall : s.sameButNew ({ U with vm := s.vm } : State) locs mc ms := by
    subst hA
    obtain ⟨e1, e2⟩ := hsame
    rw [State.setFrames_setFrames] at e1
    have h2 : (T.setVm s.vm).sameButNew ({ U with vm := s.vm } : State) [] (0 + 1) (0 + 6) := ⟨e1, e2⟩
    have h3 := X.same.trans h2
    rw [List.append_nil] at h3
    exact h3.mono hc hs
  refine ⟨U, ?_, .threw T.heap.size, hrun, hend, Or.inr ⟨T.heap.size, rfl, cls, ce, locs, hx U hWs.alike f1 (fun q hq => f2 q hq (fun z hz => nomatch hz)), hce, hO.vm, hcl, hWs, hall, hf⟩⟩
  refine st1 _ ?_
  show Steps p.tables e below (T1.setTop { method := m, pc := pc + 3, locals := ls, stack := .ref T.heap.size :: rest, locked := none }) _
  jvm_step X₁.here [X₁.here.top, hexec, d3', Value.category]
  exact X₁.ldcString hexec (own := own) (text := text) (index := is) (a := sa) hown' hstr'.1 hstr'.2
    (g := { method := m, pc := pc + 4, locals := ls, stack := .ref T.heap.size :: .ref T.heap.size :: rest, locked := none }) rfl d4' _ hsteps
/-- 'throw new E("text")', the text by a wide index -/
theorem vx_throwSW {cc : ByteArray} {pc : Nat} (hexec : p.tables.exec = Jvm.exec) (hb : c.code = cc) (hl : l.stackTraces = false) {own cls text : String} {names : List String} {ik is ic mc ms sa : Nat} {A : Nat → Prop}
    (hown : s.vm.findClass own = some m.cls) (hcls : Bundle.fit cls = true) (hnames : ∀ n ∈ names, Bundle.fit n = true)
    (hk : (Cond.classLink own ik cls).before args s = true) (hini : (Cond.initialized cls).before args s = true) (hstr : vk_R own is text sa s) (hat : ∀ w ∈ vx_atS own ic cls names, w.before args s = true)
    (hgood : ∀ w ∈ Cond.classLink own ik cls :: Cond.initialized cls :: vx_atS own ic cls names, vx_ot w = true)
    (hU : vx_Zq Bundle.tN "UNASSIGNED_STACK" Bundle.steD A s s.heap) (hN : vx_Zq Bundle.tN "SUPPRESSED_SENTINEL" Bundle.listD A s s.heap) (hS : va_S A s.heap H locs) (hsize : ls.size = c.maxLocals)
    (d0 : decode cc pc = .ok (.new ik, 3)) (d3 : decode cc (pc + 3) = .ok (.dup, 1)) (d4 : decode cc (pc + 4) = .ok (.ldc_w is, 3)) (d7 : decode cc (pc + 7) = .ok (.invokespecial ic, 3)) (d10 : decode cc (pc + 10) = .ok (.athrow, 1))
    (hout : ∀ x ∈ c.exceptionTable.toList, covers x (pc + 10) = false)
    (hRframes : names.length + 3 < R.frames) (hRlocals : (rest.map fun v => v.category).sum + (13 * (names.length + 1) + 43) ≤ R.locals) (hRcells : cells + 1 ≤ R.cells) (hRslots : slots + 6 ≤ R.slots) (hlocks : meth.locks = false)
    (hx : ∀ t : State, s.vm.Alike t.vm → H.size ≤ t.heap.size → (∀ q : Nat, q < H.size → t.heap[q]? = H[q]?) → XC cls s t)
    (hf : ∀ z ∈ locs, free z.base) (hc : cells + 1 ≤ mc) (hs : slots + 6 ≤ ms) :
    W p l e R s m args below meth c H locs cells slots (vx_MQ below Qc XC args s mc ms free) (F0 m pc ls rest) := by
  intro T hT X
  have htr : e.platform.stackTraces = false := (show e.platform.stackTraces = l.stackTraces by rw [X.admits.platform]).trans hl
  have Y := vx_rebase X (R' := { frames := R.frames, locals := R.locals, cells := 1, slots := 6 }) (Nat.le_refl _) (Nat.le_refl _) hRcells hRslots
  obtain ⟨s', hA⟩ : ∃ z, z = (T.setVm s.vm).setFrames (.invoking m args :: below) := ⟨_, rfl⟩
  rw [← hA] at Y
  have hvm : s'.vm = s.vm := by rw [hA]; rfl
  have hhp : s'.heap = H := by rw [hA]; exact hT
  have hW0 : s.WarmedH s'.vm := by rw [hvm]; exact State.WarmedH.refl s
  have hat' : ∀ w ∈ vx_atS own ic cls names, w.before args s' = true := fun w hw => vx_ot_at hW0 hvm.symm (hgood w (List.mem_cons_of_mem _ (List.mem_cons_of_mem _ hw))) (hat w hw)
  have hk' : (Cond.classLink own ik cls).before args s' = true := vx_ot_at hW0 hvm.symm (hgood _ List.mem_cons_self) hk
  have hini' : (Cond.initialized cls).before args s' = true := vx_ot_at hW0 hvm.symm (hgood _ (List.mem_cons_of_mem _ List.mem_cons_self)) hini
  have hU' : vx_Zq Bundle.tN "UNASSIGNED_STACK" Bundle.steD A s' s'.heap := by rw [hhp]; exact vx_Zq.moved hW0.alike (hU.kept hS.2.1)
  have hN' : vx_Zq Bundle.tN "SUPPRESSED_SENTINEL" Bundle.listD A s' s'.heap := by rw [hhp]; exact vx_Zq.moved hW0.alike (hN.kept hS.2.1)
  have h : ∀ w ∈ Bundle.ownAtoms own ic cls names, w.before args s' = true := vx_own hat' (vx_isRefq hU'.1) (vx_isRefq hN'.1) hU'.2.word hN'.2.word
  have hown' : s'.vm.findClass own = some m.cls := by rw [hvm]; exact hown
  have hins : (Cond.instantiable cls 6).before args s' = true := h _ (by simp [Bundle.ownAtoms])
  obtain ⟨vm₁, cX, kX, hfX, hkX, -, -, X₁, st1⟩ := Y.newCold hexec (own := own) (C := cls) (index := ik) (n := 6) hown' hk' hins hini'
    (g := F0 m pc ls rest) rfl (by rw [hb]; exact d0) (Nat.le_refl _) (Nat.le_refl _)
  generalize hT1 : (T.setVm vm₁).pushCell { cls := cX, slots := kX.instanceTypes.map defaultValue, vm := .none } = T1 at X₁ st1
  have hcat : (Value.ref T.heap.size).category = 1 := rfl
  have hcellA : T1.heap[T.heap.size]? = some (freshCell cX kX) := by rw [← hT1]; exact State.heap_pushCell_size _ _
  have d3' : decode c.code (pc + 3) = .ok (.dup, 1) := by rw [hb]; exact d3
  have d4' : decode c.code (pc + 4) = .ok (.ldc_w is, 3) := by rw [hb]; exact d4
  have hstr' : vk_R own is text sa s' := vk_R.warm hW0 hstr
  obtain ⟨U, hsteps, hrun, hend, hW, hsame, ce, hce, hO⟩ := X₁.ctorThrowS hexec htr (own := own) (cls := cls) (names := names) (ic := ic) hown' hcls hnames h (fun x hx => nomatch hx) hfX hkX hcellA (by rw [hhp, hT]; exact Nat.le_refl _) (msg := .ref sa) rfl
    (g := { method := m, pc := pc + 7, locals := ls, stack := .ref sa :: .ref T.heap.size :: .ref T.heap.size :: rest, locked := none }) rfl hsize rfl rfl (rest := rest) rfl
    (by rw [hb]; exact d7) (by rw [hb]; exact d10) hout hRframes (by simp only [List.map_cons, List.sum_cons, hcat]; omega) hlocks
  obtain ⟨f1, f2⟩ := vx_frame hsame
  rw [hhp] at f1 f2
  have hWs : s.WarmedH U.vm := State.WarmedH.trans hW0 hW
  have hcl : s.vm.findClass cls = some ce.cls := by
    have h9 := hO.cls
    rw [hvm] at h9
    exact h9
  have hall : s.sameButNew ({ U with vm := s.vm } : State) locs mc ms := by
    subst hA
    obtain ⟨e1, e2⟩ := hsame
    rw [State.setFrames_setFrames] at e1
    have h2 : (T.setVm s.vm).sameButNew ({ U with vm := s.vm } : State) [] (0 + 1) (0 + 6) := ⟨e1, e2⟩
    have h3 := X.same.trans h2
    rw [List.append_nil] at h3
    exact h3.mono hc hs
  refine ⟨U, ?_, .threw T.heap.size, hrun, hend, Or.inr ⟨T.heap.size, rfl, cls, ce, locs, hx U hWs.alike f1 (fun q hq => f2 q hq (fun z hz => nomatch hz)), hce, hO.vm, hcl, hWs, hall, hf⟩⟩
  refine st1 _ ?_
  show Steps p.tables e below (T1.setTop { method := m, pc := pc + 3, locals := ls, stack := .ref T.heap.size :: rest, locked := none }) _
  jvm_step X₁.here [X₁.here.top, hexec, d3', Value.category]
  exact X₁.ldcStringW hexec (own := own) (text := text) (index := is) (a := sa) hown' hstr'.1 hstr'.2
    (g := { method := m, pc := pc + 4, locals := ls, stack := .ref T.heap.size :: .ref T.heap.size :: rest, locked := none }) rfl d4' _ hsteps
end Ends
section Bodies
variable {l : Launch}
theorem vx_ofW {y : MethodName} {ws ws' : List Cond} {rm : Room} {Pc : Array Value → State → Prop} {Qc : Array Value → State → Outcome → State → Prop} {XC : String → State → State → Prop} {mc ms : Nat} {free : Addr → Prop} {cc : ByteArray} {maxL : Nat} {ret : Option FieldType}
    (hy : plainName y.cls = true) (hw : ws = Cond.code y cc maxL ret :: ws')
    (body : ∀ p e s m args below meth c s₁, BodyLoose p l y (headSpec ws rm) cc maxL ret e s m args below meth c s₁ → c.maxLocals = maxL → (∀ x ∈ c.exceptionTable.toList, False) → Pc args s →
      W p l e (headSpec ws rm).room s m args below meth c s.heap [] 0 0 (vx_MQ below Qc XC args s mc ms free) (entryFrame m args maxL)) : vx_Met l y ws rm Pc Qc XC mc ms free := by
  refine MetFree.of_bodyS (code := cc) (maxLocals := maxL) (ret := ret) hy ?_ ?_
  · intro args s m h hn
    obtain ⟨meth, c, h1, h2, h3, h4, h5, h6, -, -⟩ := Cond.code_spec hn (atoms_spec (ws := ws) h _ (by rw [hw]; exact List.mem_cons_self))
    exact ⟨meth, c, h1, h2, h3, h4, h5, h6⟩
  · intro p e s m args below meth c s₁ B hml hP _
    have hh0 : s₁.heap = s.heap := by rw [B.state]; rfl
    have ht : ∀ x ∈ c.exceptionTable.toList, False := by
      obtain ⟨meth9, c9, h1, h2, -, -, -, -, h7, -⟩ := Cond.code_spec B.named (atoms_spec (ws := ws) B.pre _ (by rw [hw]; exact List.mem_cons_self))
      cases Option.some.inj (h1.symm.trans B.method)
      cases Option.some.inj (h2.symm.trans (Stand.of_body B).code)
      intro x hx
      rw [Array.isEmpty_iff.mp h7] at hx
      cases hx
    obtain ⟨t, a1, o, b1, b2, b3⟩ := body p e s m args below meth c s₁ B hml ht hP s₁ hh0 (Stand.of_body B)
    exact ⟨t, o, a1, b1, b2, b3⟩
/-- the table of a body with handlers -/
theorem vx_table {p : Program} {x y : MethodName} {S : Spec} {cc bytes : ByteArray} {maxL maxL' : Nat} {ret ret' : Option FieldType} {e : Env} {s s₁ : State} {m : MethodId} {args : Array Value} {below : List Frame} {meth : Method} {c : Code} {hh : List (Nat × Nat × Nat × Nat)}
    (B : BodyLoose p l y S cc maxL ret e s m args below meth c s₁) (h : (Cond.codeWith y bytes maxL' ret' hh).before args s = true) : c.exceptionTable.toList = tableOf hh := by
  obtain ⟨m9, meth9, c9, hn9, h1, h2, -, -, h6, -⟩ := Cond.codeWith_spec h
  cases Option.some.inj (hn9.symm.trans B.named)
  cases Option.some.inj (h1.symm.trans B.method)
  cases Option.some.inj (h2.symm.trans (Stand.of_body B).code)
  rw [← h6, table_eq]
end Bodies
end VXA
/-! ===== END ===== -/
/-! ===== BEGIN a static call of a method with an exception table ===== -/
section VXS
variable {p : Program} {l : Launch} {e : Env} {R : Room} {s : State} {m : MethodId} {args : Array Value} {below : List Frame} {meth : Method} {c : Code} {T : State} {H : Heap} {locs : List Loc} {cells slots : Nat}
abbrev vx_CSW (R : Room) (s : State) (args : Array Value) (own : String) (index : Nat) (y : MethodName) (bytes : ByteArray) (maxL : Nat) (ret : Option FieldType) (hh : List (Nat × Nat × Nat × Nat)) (ws : List Cond) (rm : Room) (mc ms n : Nat) : Prop :=
  (rm.cells = mc ∧ rm.slots = ms ∧ rm.frames + 1 ≤ R.frames ∧ 8 + (maxL + 11) + rm.locals ≤ R.locals ∧ (∀ w ∈ ws, ∀ (a' : Array Value) (U : State), s.WarmedH U.vm → w.before a' U = true) ∧ Cond.codeWith y bytes maxL ret hh ∈ ws) ∧
  (Cond.codeWith y bytes maxL ret hh).before args s = true ∧ (Cond.initialized y.cls).before args s = true ∧ (y.cls ≠ "java/lang/invoke/MethodHandle" ∧ y.cls ≠ "java/lang/invoke/VarHandle") ∧
  (∀ sig, parseMethodDescriptor y.desc = some sig → n = sig.parameters.length) ∧ (Cond.methodLink own index y).before args s = true ∧ (Cond.static y).before args s = true
theorem vx_cwSW {own : String} {index maxL mc ms : Nat} {y : MethodName} {bytes : ByteArray} {ret : Option FieldType} {hh : List (Nat × Nat × Nat × Nat)} {Ts ws ws' : List Cond} {rm : Room} (n : Nat) (ht : ∀ w ∈ Ts, w.before args s = true) (hT : GoodIn Ts (va_wsS own index y ws)) (hw : ws = Cond.codeWith y bytes maxL ret hh :: ws') (hrc : rm.cells = mc) (hrs : rm.slots = ms)
    (hd : y.cls ≠ "java/lang/invoke/MethodHandle" ∧ y.cls ≠ "java/lang/invoke/VarHandle" ∧ (parseMethodDescriptor y.desc).map (fun d => d.parameters.length) = some n) (hR : rm.frames + 1 ≤ R.frames ∧ 8 + (maxL + 11) + rm.locals ≤ R.locals) :
    vx_CSW R s args own index y bytes maxL ret hh ws rm mc ms n := by
  have ok : ∀ w ∈ va_wsS own index y ws, w.before args s = true := fun w h => ht w (hT w h).1
  have hG : GoodIn Ts ws := fun w h => hT w (by unfold va_wsS; exact List.mem_append_right _ h)
  have hc : Cond.codeWith y bytes maxL ret hh ∈ ws := by rw [hw]; exact List.mem_cons_self
  refine ⟨⟨hrc, hrs, hR.1, hR.2, pay_in ht hG, hc⟩, ht _ (hG _ hc).1, ok _ (by simp [va_wsS]), ⟨hd.1, hd.2.1⟩, fun sig h => ?_, ok _ (by simp [va_wsS]), ok _ (by simp [va_wsS])⟩
  have h2 := hd.2.2
  rw [h] at h2
  exact (Option.some.inj h2).symm
theorem vx_callSW (X : Stand p l e R s m args below meth c T locs cells slots) (hexec : p.tables.exec = Jvm.exec) {own : String} {index : Nat} {y : MethodName} {bytes : ByteArray} {maxL : Nat} {ret : Option FieldType} {hh : List (Nat × Nat × Nat × Nat)}
    (hown : s.vm.findClass own = some m.cls) (hlink : (Cond.methodLink own index y).before args s = true) (hstat : (Cond.static y).before args s = true) (hinit : (Cond.initialized y.cls).before args s = true)
    (hcode : (Cond.codeWith y bytes maxL ret hh).before args s = true) (hy : y.cls ≠ "java/lang/invoke/MethodHandle" ∧ y.cls ≠ "java/lang/invoke/VarHandle")
    {W9 : Nat} {Pre : Pt → Array Value → Prop} {Post : Pt → Array Value → Option Value → Pt → Prop} (hK : Back l R p e below s args y 3 W9 Pre Post)
    {g : JFrame} (hg : g.method = m) (hsize : g.locals.size = c.maxLocals) {argsL rest : List Value} (hlen : ∀ sig, parseMethodDescriptor y.desc = some sig → argsL.length = sig.parameters.length)
    (hstack : g.stack = argsL.reverse ++ rest) (hW : 2 * g.monitorRoom + (rest.map fun v => v.category).sum ≤ W9) (hdg : decode c.code g.pc = .ok (.invokestatic index, 3))
    (hpre : ∀ vm₁, s.WarmedH vm₁ → Pre ⟨T.setVm vm₁, locs, cells, slots⟩ argsL.toArray) :
    ∃ (v : Option Value) (vm₁ : Vm) (B : Pt), s.WarmedH vm₁ ∧ Stand p l e R s m args below meth c B.U B.locs B.cells B.slots ∧ Post ⟨T.setVm vm₁, locs, cells, slots⟩ argsL.toArray v B ∧
      ∀ target, Steps p.tables e below (B.U.setTop { g with pc := g.pc + 3, stack := v.toList ++ rest }) target → Steps p.tables e below (T.setTop g) target := by
  obtain ⟨mk, methM, cM, hnamed, hmethM, -, -, -, -, -, -, hsigM⟩ := Cond.codeWith_spec hcode
  have hstatic : methM.isStatic = true := Cond.static_spec hnamed hmethM hstat
  obtain ⟨kP, hkP, -⟩ := className_of_methodNamed hnamed
  have hinitP : kP.init = .initialized := Cond.initialized_spec (findClass_of_methodNamed hnamed) hkP hinit
  obtain ⟨vm₁, X₁, hstep₁⟩ := X.invokestatic hexec hown hlink hnamed hmethM hstatic hkP hinitP hy (g := g) hg (argsL := argsL) (rest := rest) (hlen _ hsigM) hstack hdg
  obtain ⟨v, B, X', hpost, hsteps⟩ := hK m meth c ⟨T.setVm vm₁, locs, cells, slots⟩ { g with stack := rest } (.invokestatic index) mk argsL.toArray X₁ hg hsize hdg hW (X₁.named hnamed) (hpre vm₁ X₁.warmed)
  exact ⟨v, vm₁, B, X₁.warmed, X', hpost, fun target h => hstep₁ _ fun acts => by rw [doInvoke_state]; exact hsteps.trans h⟩
theorem vx_runSW {y : MethodName} {bytes cc : ByteArray} {maxL nL mc ms n index : Nat} {ret : Option FieldType} {hh : List (Nat × Nat × Nat × Nat)} {ws : List Cond} {rm : Room} {Pc : Array Value → State → Prop} {Qc : Array Value → State → Outcome → State → Prop} {free : Addr → Prop} {Ts : List Cond} {own : String} {As rest : List Value} {g : JFrame}
    (S : CallFix p m c cc nL s args Ts own) (hM : Met l y ws rm Pc Qc mc ms free) (cw : vx_CSW R s args own index y bytes maxL ret hh ws rm mc ms n) (hp : PreS s H Pc As)
    (hg : g.method = m) (hn : As.length = n) (hsize : g.locals.size = nL) (hstack : g.stack = As.reverse ++ rest) (hW : 2 * g.monitorRoom + (rest.map fun v => v.category).sum ≤ 8) (hdg : decode cc g.pc = .ok (.invokestatic index, 3)) (hf : cells + mc ≤ R.cells ∧ slots + ms ≤ R.slots) :
    va_Run p l e R s m args below meth c H locs cells slots mc ms g rest (Qc As.toArray) (free) := by
  obtain ⟨⟨hrc, hrs, hfr, hlo, hws, hcw⟩, hcode, hini, hy, hlen, hl, hstt⟩ := cw
  have hK : Back l R p e below s args y 3 8 (PreOf R mc ms Pc) (PostOf Qc mc ms free) := va_backW (hh := hh) (bytes := bytes) (maxL := maxL) (ret := ret) hM hp.1 hrc hrs hfr hlo hws hcw (fun a' U hW => word_at hW (Or.inl (by first | rfl | simp [Cond.onTables, Cond.keeps, Cond.steady])) hini)
  obtain ⟨hx, hb, hml, ho, -⟩ := S
  intro T hT X
  obtain ⟨v, vm₁, ⟨U', l2, c2, s2⟩, hW₁, X', ⟨g', mk, t, L, e1, e2, hq, h1, hL, h2, h3⟩, st⟩ := vx_callSW X hx (hh := hh) (bytes := bytes) (maxL := maxL) (ret := ret) ho hl hstt hini hcode hy hK hg (hsize.trans hml.symm) (argsL := As) (rest := rest) (fun sig h => hn.trans (hlen sig h)) hstack hW (by rw [hb]; exact hdg)
    (fun vm₁ hW₁ => ⟨hf.1, hf.2, hp.2 (T.setVm vm₁) hT hW₁⟩)
  dsimp only [Pt.U, Pt.locs, Pt.cells, Pt.slots] at X' e1 e2 h1 h2 h3 st
  subst h1; subst h2; subst h3
  exact ⟨v, (T.setVm vm₁).calling g' mk As.toArray, t, U', L, hT, X', hL, e1, e2, hq, st⟩
/-- not caught here, past rows that name other classes: it goes on to the caller -/
theorem vx_outP {p : Program} {l : Launch} {e : Env} {R : Room} {s : State} {m : MethodId} {args : Array Value} {below : List Frame} {meth : Method} {c : Code} {H : Heap} {locs : List Loc} {cells slots : Nat} {free : Addr → Prop} {ls : Array Slot} {rest : List Value} {Qc : Array Value → State → Outcome → State → Prop} {XC : String → State → State → Prop}
    {pc : Nat} {own E : String} {ce : Cell} {q : Addr} {mc ms : Nat} (hown : s.vm.findClass own = some m.cls) (hlocks : meth.locks = false)
    (hpass : ∀ z ∈ c.exceptionTable.toList, covers z pc = false ∨ (z.catchType ≠ 0 ∧ ∃ nm : String, (Cond.classLink own z.catchType nm).before args s = true ∧ va_Nc E nm s)) (hcell : H[q]? = some ce) (hv : ce.vm = .none) (hcl : s.vm.findClass E = some ce.cls)
    (hx : ∀ t : State, t.heap = H → s.vm.Alike t.vm → XC E s t) (hf : ∀ z ∈ locs, free z.base) (hc : cells ≤ mc) (hs : slots ≤ ms) :
    vx_W p l e R s m args below meth c H locs cells slots (vx_MQ below Qc XC args s mc ms free) (F0 m pc ls rest) q := by
  intro T hT X
  have hpl : e.platform.magicAccessors = ({} : Platform).magicAccessors := by rw [X.admits.platform]
  obtain ⟨vm', hW', X', st⟩ := X.outThrough hlocks q (g := F0 m pc ls rest) rfl rfl rfl (cell := ce) (by rw [hT]; exact hcell) (by rw [hv]; rfl)
    (by obtain ⟨k9, h9, -⟩ := Vm.findClass_spec hcl; exact ⟨k9, h9⟩) (fun z hz => by
      rcases hpass z hz with h | ⟨hz0, nm, hl1, hn1⟩
      · exact Or.inl h
      · obtain ⟨c6, hc6, hcl6⟩ := Cond.classLink_spec hown hl1 e.platform hpl
        obtain ⟨a8, b8, h1, h2, h3⟩ := hn1
        cases Option.some.inj (h1.symm.trans hcl)
        cases Option.some.inj (h2.symm.trans hc6)
        exact Or.inr ⟨hz0, _, hcl6, h3⟩)
  obtain ⟨g₀, hfr⟩ := X'.frames_eq
  have hcell9 : ((T.setVm vm').setFrames (.throwing q :: below)).heap[q]? = some ce := by
    show T.heap[q]? = some ce
    rw [hT]; exact hcell
  have hend : Ended ((T.setVm vm').setFrames (.throwing q :: below)) below (.threw q) := State.frames_setFrames _ (State.cur_lt_of_frames hfr)
  refine ⟨(T.setVm vm').setFrames (.throwing q :: below), ?_, .threw q, X'.here.running, hend, Or.inr ⟨q, rfl, E, ce, locs, hx _ hT (X'.ends _).1.alike, hcell9, hv, hcl, (X'.ends _).1, (X'.ends _).2.mono hc hs, hf⟩⟩
  rw [X.pushThrowing_eq]
  exact st
/-- a thing of a world lies in the heap -/
theorem vx_lt {D : va_G} {cl : List vw_C} {ws : va_W} {H1 : Heap} (h : va_P D cl ws H1) {k : Nat} {q : Nat × va_E} (hk : ws[k]? = some q) : q.1 < H1.size := (h k q hk).lt
end VXS
/-! ===== END ===== -/
/-! ===== BEGIN methods with a table of their own: called by a name, returning or throwing ===== -/
section VXH
/-! vx_backW, vx_callVX, vx_callSX, vx_callVW, vx_runVW, vx_runVX, vx_runSX, vx_ofWH follow the same proofs as their sisters above (Free/Laws.lean, Shelf42/LK1.lean); vx_outP calls Shelf42/NT130.lean (outThrough). -/
section
variable {l : Launch} {R : Room} {p : Program} {e : Env} {below : List Frame} {s : State} {sargs : Array Value} {y : MethodName} {len W9 : Nat}
theorem vx_backW {ws : List Cond} {rm : Room} {Pc : Array Value → State → Prop} {Qc : Array Value → State → Outcome → State → Prop} {XC : String → State → State → Prop} {mc ms : Nat} {free : Addr → Prop} {bytes : ByteArray} {maxL : Nat} {ret : Option FieldType} {hh : List (Nat × Nat × Nat × Nat)}
    (hM : vx_Met l y ws rm Pc Qc XC mc ms free) (hblind : FrameBlind Pc) (hrc : rm.cells = mc) (hrs : rm.slots = ms)
    (hframes : rm.frames + 1 ≤ R.frames) (hlocals : W9 + (maxL + 11) + rm.locals ≤ R.locals)
    (hws : ∀ w ∈ ws, ∀ a' U, s.WarmedH U.vm → w.before a' U = true) (hcode : Cond.codeWith y bytes maxL ret hh ∈ ws) (hinit : ∀ a' U, s.WarmedH U.vm → (Cond.initialized y.cls).before a' U = true) :
    vx_Back l R p e below s sargs y len W9 (PreOf R mc ms Pc) (PostOf Qc mc ms free) (vx_Post XC mc ms free) := by
  intro m meth c A g ig mk a X hg hsize hdg hW hn hp
  have h1 : (headSpec ws rm).pre.before a A.U = true := atoms_intro fun w hw => hws w hw _ _ X.warmed
  have h2 : (Cond.codeWith y bytes maxL ret hh).before a A.U = true := hws _ hcode _ _ X.warmed
  have h3 : (Cond.initialized y.cls).before a A.U = true := hinit _ _ X.warmed
  have h4 : A.cells + (headSpec ws rm).room.cells ≤ R.cells := by rw [show (headSpec ws rm).room.cells = mc from hrc]; exact hp.1
  have h5 : A.slots + (headSpec ws rm).room.slots ≤ R.slots := by rw [show (headSpec ws rm).room.slots = ms from hrs]; exact hp.2.1
  have hPc : Pc a (A.U.calling g mk a) := hblind _ _ _ _ hp.2.2
  obtain ⟨U, Ls, c0, s0⟩ := A
  dsimp only [Pt.U, Pt.locs, Pt.cells, Pt.slots] at h1 h2 h3 h4 h5 X hn hPc ⊢
  obtain ⟨m9, methY, cY, hn9, hmY, hcY, -, hlY, -⟩ := Cond.codeWith_spec h2
  cases Option.some.inj (hn9.symm.trans hn)
  obtain ⟨kY, hkY, -⟩ := className_of_methodNamed hn
  have hinitY : kY.init = .initialized := Cond.initialized_spec (findClass_of_methodNamed hn) hkY h3
  have h : At U g.method c below := by rw [hg]; exact X.here
  have hlocals9 : W9 + (maxL + 11) + (headSpec ws rm).room.locals ≤ R.locals := hlocals
  have happ : (headSpec ws rm).appliesLoose y e.platform (U.calling g mk a) = true :=
    Spec.appliesLoose_calling (g := g) h hdg hn hkY hinitY
      (X.room_calling (g := g) (R' := (headSpec ws rm).room) hsize hmY hcY hframes (by rw [hlY]; omega) h4 h5) h1
  obtain ⟨mid, hmid⟩ := h.above
  have hfr : (U.setTop g).frames = (.java g :: mid) ++ below := by rw [State.frames_setTop' g h.top, hmid]; rfl
  obtain ⟨o, s₂, hsteps, -, hend, hq⟩ := Steps.callFree hM p X.admits X.cas X.clock (acts := []) hfr happ hPc trivial
  have hq' : vx_Q Qc XC mc ms free a (U.calling g mk a) o s₂ := hq
  rw [State.frames_setTop' g h.top] at hend
  obtain ⟨g₀, hg0⟩ := Option.isSome_iff_exists.mp h.top
  obtain ⟨r, hr⟩ := State.topJava?_eq_some.mp hg0
  have hr' : (({ U with heap := s₂.heap, slotsUsed := s₂.slotsUsed } : State).setVm s₂.vm).frames = .java g₀ :: r := hr
  rcases hq' with ⟨hqc, L, hfe, hL⟩ | ⟨q, rfl, E, ce, L, hx, hce, hcv, hcl, hW₂, hsm, hL⟩
  · obtain ⟨⟨v, rfl⟩, hW₂, e2, q2, q3, q4, q5, q6⟩ := id hfe
    have e3 : s₂ = ({ (U.calling g mk a).setFrames s₂.frames with heap := s₂.heap, slotsUsed := s₂.slotsUsed } : State).setVm s₂.vm := by
      have : s₂ = ({ s₂ with vm := (U.calling g mk a).vm } : State).setVm s₂.vm := rfl
      rw [e2] at this
      exact this
    obtain ⟨c₂, i₂, len₂, hc₂, hd₂, hf₂⟩ := hend
    have hW' : U.WarmedH s₂.vm := hW₂
    have hcc : c₂ = c := by
      have h1 : s₂.code? g.method = U.code? g.method := by
        rw [State.code?_eq, State.code?_eq, hW'.alike.method?]
      exact Option.some.inj (hc₂.symm.trans (h1.trans h.code))
    subst hcc
    have hlen : len₂ = len := by rw [hdg] at hd₂; cases hd₂; rfl
    subst hlen
    have hs₂ : s₂ = (({ U with heap := s₂.heap, slotsUsed := s₂.slotsUsed } : State).setVm s₂.vm).setTop { g with pc := g.pc + len₂, stack := v.toList ++ g.stack } := by
      refine e3.trans ?_
      rw [hf₂, State.calling_eq h.top, State.setFrames_setFrames, State.setTop_of_frames _ hr', hr]
      rfl
    have hsame : U.sameButNew ({ U with heap := s₂.heap, slotsUsed := s₂.slotsUsed } : State) L mc ms := by
      refine ⟨?_, q2, q3, q4, q5, q6⟩
      obtain ⟨t, ht, -⟩ := State.frames_cons hr
      show ({ U with heap := s₂.heap, slotsUsed := s₂.slotsUsed } : State) = { U.setFrames U.frames with heap := s₂.heap, slotsUsed := s₂.slotsUsed }
      rw [State.setFrames_self ht]
    subst hg
    refine Or.inl ⟨v, ⟨(({ U with heap := s₂.heap, slotsUsed := s₂.slotsUsed } : State).setVm s₂.vm), Ls ++ L, c0 + mc, s0 + ms⟩,
      ⟨X.admits, X.cas, X.clock, X.frames, X.room, X.hears, X.method, X.code, (X.here.setHeapUsed s₂.heap s₂.slotsUsed).setVm hW'.alike, X.tail, State.WarmedH.trans X.warmed hW', X.limits, X.bytes, X.same.trans (hsame.setVm s.vm)⟩,
      ⟨g, mk, s₂, L, rfl, rfl, hqc, rfl, hL, rfl, rfl⟩, ?_⟩
    show Steps p.tables e below _ ((({ U with heap := s₂.heap, slotsUsed := s₂.slotsUsed } : State).setVm s₂.vm).setTop { g with pc := g.pc + len₂, stack := v.toList ++ g.stack })
    rw [← hs₂]
    exact hsteps
  · obtain ⟨e2, q2, q3, q4, q5, q6⟩ := id hsm
    have e3 : s₂ = ({ (U.calling g mk a).setFrames s₂.frames with heap := s₂.heap, slotsUsed := s₂.slotsUsed } : State).setVm s₂.vm := by
      have : s₂ = ({ s₂ with vm := (U.calling g mk a).vm } : State).setVm s₂.vm := rfl
      rw [e2] at this
      exact this
    have hf₂ : s₂.frames = .throwing q :: .java g :: U.frames.tail := hend
    have hW' : U.WarmedH s₂.vm := hW₂
    have hs₂ : s₂ = ((({ U with heap := s₂.heap, slotsUsed := s₂.slotsUsed } : State).setVm s₂.vm).setTop g).pushFrame (.throwing q) := by
      refine e3.trans ?_
      rw [hf₂, State.calling_eq h.top, State.setFrames_setFrames, State.pushFrame, State.frames_setTop _ hr', State.setTop_of_frames _ hr', State.setFrames_setFrames, hr]
      rfl
    have hsame : U.sameButNew ({ U with heap := s₂.heap, slotsUsed := s₂.slotsUsed } : State) L mc ms := by
      refine ⟨?_, q2, q3, q4, q5, q6⟩
      obtain ⟨t, ht, -⟩ := State.frames_cons hr
      show ({ U with heap := s₂.heap, slotsUsed := s₂.slotsUsed } : State) = { U.setFrames U.frames with heap := s₂.heap, slotsUsed := s₂.slotsUsed }
      rw [State.setFrames_self ht]
    subst hg
    refine Or.inr ⟨q, ⟨(({ U with heap := s₂.heap, slotsUsed := s₂.slotsUsed } : State).setVm s₂.vm), Ls ++ L, c0 + mc, s0 + ms⟩,
      ⟨X.admits, X.cas, X.clock, X.frames, X.room, X.hears, X.method, X.code, (X.here.setHeapUsed s₂.heap s₂.slotsUsed).setVm hW'.alike, X.tail, State.WarmedH.trans X.warmed hW', X.limits, X.bytes, X.same.trans (hsame.setVm s.vm)⟩,
      ⟨g, mk, s₂, L, E, ce, rfl, rfl, hx, hce, hcv, hcl, rfl, hL, rfl, rfl⟩, ?_⟩
    show Steps p.tables e below _ (((({ U with heap := s₂.heap, slotsUsed := s₂.slotsUsed } : State).setVm s₂.vm).setTop g).pushFrame (.throwing q))
    rw [← hs₂]
    exact hsteps
end
variable {p : Program} {l : Launch} {e : Env} {R : Room} {s : State} {m : MethodId} {args : Array Value} {below : List Frame} {meth : Method} {c : Code} {T : State} {H : Heap} {locs : List Loc} {cells slots : Nat}
theorem vx_callVX (X : Stand p l e R s m args below meth c T locs cells slots) (hexec : p.tables.exec = Jvm.exec) {own C : String} {index : Nat} {y : MethodName} {bytes : ByteArray} {maxL : Nat} {ret : Option FieldType} {hh : List (Nat × Nat × Nat × Nat)}
    (hown : s.vm.findClass own = some m.cls) (hlink : (Cond.methodLink own index y).before args s = true) (hinst : (Cond.instanceMethod y).before args s = true) (hsel : (Cond.selects C y y).before args s = true)
    (hcode : (Cond.codeWith y bytes maxL ret hh).before args s = true) (hy : y.cls ≠ "java/lang/invoke/MethodHandle" ∧ y.cls ≠ "java/lang/invoke/VarHandle")
    {W9 : Nat} {Pre : Pt → Array Value → Prop} {Post : Pt → Array Value → Option Value → Pt → Prop} {PostX : Pt → Array Value → Addr → Pt → Prop} (hK : vx_Back l R p e below s args y 3 W9 Pre Post PostX)
    {b : Addr} {cellB : Cell} (hcell : T.heap[b]? = some cellB) (hobj : cellB.vm.isStatics = false) (hcls : s.vm.findClass C = some cellB.cls)
    {g : JFrame} (hg : g.method = m) (hsize : g.locals.size = c.maxLocals) {argsL rest : List Value} (hlen : ∀ sig, parseMethodDescriptor y.desc = some sig → argsL.length = sig.parameters.length)
    (hstack : g.stack = argsL.reverse ++ .ref b :: rest) (hW : 2 * g.monitorRoom + (rest.map fun v => v.category).sum ≤ W9) (hdg : decode c.code g.pc = .ok (.invokevirtual index, 3))
    (hpre : ∀ vm₁, s.WarmedH vm₁ → Pre ⟨T.setVm vm₁, locs, cells, slots⟩ (Value.ref b :: argsL).toArray) :
    (∃ (v : Option Value) (vm₁ : Vm) (B : Pt), s.WarmedH vm₁ ∧ Stand p l e R s m args below meth c B.U B.locs B.cells B.slots ∧ Post ⟨T.setVm vm₁, locs, cells, slots⟩ (Value.ref b :: argsL).toArray v B ∧
      ∀ target, Steps p.tables e below (B.U.setTop { g with pc := g.pc + 3, stack := v.toList ++ rest }) target → Steps p.tables e below (T.setTop g) target) ∨
    (∃ (q : Addr) (vm₁ : Vm) (B : Pt), s.WarmedH vm₁ ∧ Stand p l e R s m args below meth c B.U B.locs B.cells B.slots ∧ PostX ⟨T.setVm vm₁, locs, cells, slots⟩ (Value.ref b :: argsL).toArray q B ∧
      Steps p.tables e below (T.setTop g) ((B.U.setTop { g with stack := rest }).pushFrame (.throwing q))) := by
  obtain ⟨mk, methM, hnamed, hmethM, hstM, habM⟩ := Cond.instanceMethod_spec hinst
  obtain ⟨m8, methM', cM, hn8, hmethM', -, -, -, -, -, -, hsigM⟩ := Cond.codeWith_spec hcode
  cases Option.some.inj (hn8.symm.trans hnamed)
  cases hmethM.symm.trans hmethM'
  obtain ⟨c2, r2, m2, q1, q2, q3, q4, kP, hkP, hkPi⟩ := Cond.selects_spec hsel
  cases hcls.symm.trans q1
  cases (State.methodFound?_of_named hnamed hy).symm.trans q2
  cases hnamed.symm.trans q3
  have hselP : selectMethod e.platform s.vm cellB.cls mk = .method mk := by rw [Launch.admits_selectMethod X.admits]; exact q4
  obtain ⟨vm₁, X₁, hstep₁⟩ := X.invokevirtual hexec hown hlink hnamed hmethM hstM hkP hkPi hy (a := b) (cell := cellB) hcell
    (fun z h => by rw [h] at hobj; cases hobj) hselP hmethM habM hkP hkPi (g := g) hg (argsL := argsL) (rest := rest) (hlen _ hsigM) hstack hdg
  rcases hK m meth c ⟨T.setVm vm₁, locs, cells, slots⟩ { g with stack := rest } (.invokevirtual index) mk (Value.ref b :: argsL).toArray X₁ hg hsize hdg hW (X₁.named hnamed) (hpre vm₁ X₁.warmed) with ⟨v, B, X', hpost, hsteps⟩ | ⟨q, B, X', hpost, hsteps⟩
  · exact Or.inl ⟨v, vm₁, B, X₁.warmed, X', hpost, fun target h => hstep₁ _ fun acts => by rw [doInvoke_state]; exact hsteps.trans h⟩
  · exact Or.inr ⟨q, vm₁, B, X₁.warmed, X', hpost, hstep₁ _ fun acts => by rw [doInvoke_state]; exact hsteps⟩
theorem vx_callSX (X : Stand p l e R s m args below meth c T locs cells slots) (hexec : p.tables.exec = Jvm.exec) {own : String} {index : Nat} {y : MethodName} {bytes : ByteArray} {maxL : Nat} {ret : Option FieldType} {hh : List (Nat × Nat × Nat × Nat)}
    (hown : s.vm.findClass own = some m.cls) (hlink : (Cond.methodLink own index y).before args s = true) (hstat : (Cond.static y).before args s = true) (hinit : (Cond.initialized y.cls).before args s = true)
    (hcode : (Cond.codeWith y bytes maxL ret hh).before args s = true) (hy : y.cls ≠ "java/lang/invoke/MethodHandle" ∧ y.cls ≠ "java/lang/invoke/VarHandle")
    {W9 : Nat} {Pre : Pt → Array Value → Prop} {Post : Pt → Array Value → Option Value → Pt → Prop} {PostX : Pt → Array Value → Addr → Pt → Prop} (hK : vx_Back l R p e below s args y 3 W9 Pre Post PostX)
    {g : JFrame} (hg : g.method = m) (hsize : g.locals.size = c.maxLocals) {argsL rest : List Value} (hlen : ∀ sig, parseMethodDescriptor y.desc = some sig → argsL.length = sig.parameters.length)
    (hstack : g.stack = argsL.reverse ++ rest) (hW : 2 * g.monitorRoom + (rest.map fun v => v.category).sum ≤ W9) (hdg : decode c.code g.pc = .ok (.invokestatic index, 3))
    (hpre : ∀ vm₁, s.WarmedH vm₁ → Pre ⟨T.setVm vm₁, locs, cells, slots⟩ argsL.toArray) :
    (∃ (v : Option Value) (vm₁ : Vm) (B : Pt), s.WarmedH vm₁ ∧ Stand p l e R s m args below meth c B.U B.locs B.cells B.slots ∧ Post ⟨T.setVm vm₁, locs, cells, slots⟩ argsL.toArray v B ∧
      ∀ target, Steps p.tables e below (B.U.setTop { g with pc := g.pc + 3, stack := v.toList ++ rest }) target → Steps p.tables e below (T.setTop g) target) ∨
    (∃ (q : Addr) (vm₁ : Vm) (B : Pt), s.WarmedH vm₁ ∧ Stand p l e R s m args below meth c B.U B.locs B.cells B.slots ∧ PostX ⟨T.setVm vm₁, locs, cells, slots⟩ argsL.toArray q B ∧
      Steps p.tables e below (T.setTop g) ((B.U.setTop { g with stack := rest }).pushFrame (.throwing q))) := by
  obtain ⟨mk, methM, cM, hnamed, hmethM, -, -, -, -, -, -, hsigM⟩ := Cond.codeWith_spec hcode
  have hstatic : methM.isStatic = true := Cond.static_spec hnamed hmethM hstat
  obtain ⟨kP, hkP, -⟩ := className_of_methodNamed hnamed
  have hinitP : kP.init = .initialized := Cond.initialized_spec (findClass_of_methodNamed hnamed) hkP hinit
  obtain ⟨vm₁, X₁, hstep₁⟩ := X.invokestatic hexec hown hlink hnamed hmethM hstatic hkP hinitP hy (g := g) hg (argsL := argsL) (rest := rest) (hlen _ hsigM) hstack hdg
  rcases hK m meth c ⟨T.setVm vm₁, locs, cells, slots⟩ { g with stack := rest } (.invokestatic index) mk argsL.toArray X₁ hg hsize hdg hW (X₁.named hnamed) (hpre vm₁ X₁.warmed) with ⟨v, B, X', hpost, hsteps⟩ | ⟨q, B, X', hpost, hsteps⟩
  · exact Or.inl ⟨v, vm₁, B, X₁.warmed, X', hpost, fun target h => hstep₁ _ fun acts => by rw [doInvoke_state]; exact hsteps.trans h⟩
  · exact Or.inr ⟨q, vm₁, B, X₁.warmed, X', hpost, hstep₁ _ fun acts => by rw [doInvoke_state]; exact hsteps⟩
theorem vx_callVW (X : Stand p l e R s m args below meth c T locs cells slots) (hexec : p.tables.exec = Jvm.exec) {own C : String} {index : Nat} {y : MethodName} {bytes : ByteArray} {maxL : Nat} {ret : Option FieldType} {hh : List (Nat × Nat × Nat × Nat)}
    (hown : s.vm.findClass own = some m.cls) (hlink : (Cond.methodLink own index y).before args s = true) (hinst : (Cond.instanceMethod y).before args s = true) (hsel : (Cond.selects C y y).before args s = true)
    (hcode : (Cond.codeWith y bytes maxL ret hh).before args s = true) (hy : y.cls ≠ "java/lang/invoke/MethodHandle" ∧ y.cls ≠ "java/lang/invoke/VarHandle")
    {W9 : Nat} {Pre : Pt → Array Value → Prop} {Post : Pt → Array Value → Option Value → Pt → Prop} (hK : Back l R p e below s args y 3 W9 Pre Post)
    {b : Addr} {cellB : Cell} (hcell : T.heap[b]? = some cellB) (hobj : cellB.vm.isStatics = false) (hcls : s.vm.findClass C = some cellB.cls)
    {g : JFrame} (hg : g.method = m) (hsize : g.locals.size = c.maxLocals) {argsL rest : List Value} (hlen : ∀ sig, parseMethodDescriptor y.desc = some sig → argsL.length = sig.parameters.length)
    (hstack : g.stack = argsL.reverse ++ .ref b :: rest) (hW : 2 * g.monitorRoom + (rest.map fun v => v.category).sum ≤ W9) (hdg : decode c.code g.pc = .ok (.invokevirtual index, 3))
    (hpre : ∀ vm₁, s.WarmedH vm₁ → Pre ⟨T.setVm vm₁, locs, cells, slots⟩ (Value.ref b :: argsL).toArray) :
    ∃ (v : Option Value) (vm₁ : Vm) (B : Pt), s.WarmedH vm₁ ∧ Stand p l e R s m args below meth c B.U B.locs B.cells B.slots ∧ Post ⟨T.setVm vm₁, locs, cells, slots⟩ (Value.ref b :: argsL).toArray v B ∧
      ∀ target, Steps p.tables e below (B.U.setTop { g with pc := g.pc + 3, stack := v.toList ++ rest }) target → Steps p.tables e below (T.setTop g) target := by
  obtain ⟨mk, methM, hnamed, hmethM, hstM, habM⟩ := Cond.instanceMethod_spec hinst
  obtain ⟨m8, methM', cM, hn8, hmethM', -, -, -, -, -, -, hsigM⟩ := Cond.codeWith_spec hcode
  cases Option.some.inj (hn8.symm.trans hnamed)
  cases hmethM.symm.trans hmethM'
  obtain ⟨c2, r2, m2, q1, q2, q3, q4, kP, hkP, hkPi⟩ := Cond.selects_spec hsel
  cases hcls.symm.trans q1
  cases (State.methodFound?_of_named hnamed hy).symm.trans q2
  cases hnamed.symm.trans q3
  have hselP : selectMethod e.platform s.vm cellB.cls mk = .method mk := by rw [Launch.admits_selectMethod X.admits]; exact q4
  obtain ⟨vm₁, X₁, hstep₁⟩ := X.invokevirtual hexec hown hlink hnamed hmethM hstM hkP hkPi hy (a := b) (cell := cellB) hcell
    (fun z h => by rw [h] at hobj; cases hobj) hselP hmethM habM hkP hkPi (g := g) hg (argsL := argsL) (rest := rest) (hlen _ hsigM) hstack hdg
  obtain ⟨v, B, X', hpost, hsteps⟩ := hK m meth c ⟨T.setVm vm₁, locs, cells, slots⟩ { g with stack := rest } (.invokevirtual index) mk (Value.ref b :: argsL).toArray X₁ hg hsize hdg hW (X₁.named hnamed) (hpre vm₁ X₁.warmed)
  exact ⟨v, vm₁, B, X₁.warmed, X', hpost, fun target h => hstep₁ _ fun acts => by rw [doInvoke_state]; exact hsteps.trans h⟩
abbrev vx_CVW (R : Room) (s : State) (args : Array Value) (own C : String) (index : Nat) (y : MethodName) (bytes : ByteArray) (maxL : Nat) (ret : Option FieldType) (hh : List (Nat × Nat × Nat × Nat)) (ws : List Cond) (rm : Room) (mc ms n : Nat) : Prop :=
  (rm.cells = mc ∧ rm.slots = ms ∧ rm.frames + 1 ≤ R.frames ∧ 8 + (maxL + 11) + rm.locals ≤ R.locals ∧ (∀ w ∈ ws, ∀ (a' : Array Value) (U : State), s.WarmedH U.vm → w.before a' U = true) ∧ Cond.codeWith y bytes maxL ret hh ∈ ws) ∧
  (Cond.codeWith y bytes maxL ret hh).before args s = true ∧ (Cond.initialized y.cls).before args s = true ∧ (y.cls ≠ "java/lang/invoke/MethodHandle" ∧ y.cls ≠ "java/lang/invoke/VarHandle") ∧
  (∀ sig, parseMethodDescriptor y.desc = some sig → n = sig.parameters.length) ∧ (Cond.methodLink own index y).before args s = true ∧ (Cond.instanceMethod y).before args s = true ∧ (Cond.selects C y y).before args s = true
theorem vx_cwVW {own C : String} {index maxL mc ms : Nat} {y : MethodName} {bytes : ByteArray} {ret : Option FieldType} {hh : List (Nat × Nat × Nat × Nat)} {Ts ws ws' : List Cond} {rm : Room} (n : Nat) (ht : ∀ w ∈ Ts, w.before args s = true) (hT : GoodIn Ts (wsV own index C y ws)) (hw : ws = Cond.codeWith y bytes maxL ret hh :: ws') (hrc : rm.cells = mc) (hrs : rm.slots = ms)
    (hd : y.cls = C ∧ y.cls ≠ "java/lang/invoke/MethodHandle" ∧ y.cls ≠ "java/lang/invoke/VarHandle" ∧ (parseMethodDescriptor y.desc).map (fun d => d.parameters.length) = some n) (hR : rm.frames + 1 ≤ R.frames ∧ 8 + (maxL + 11) + rm.locals ≤ R.locals) :
    vx_CVW R s args own C index y bytes maxL ret hh ws rm mc ms n := by
  obtain ⟨hC, hd⟩ := hd
  subst hC
  have ok : ∀ w ∈ wsV own index y.cls y ws, w.before args s = true := fun w h => ht w (hT w h).1
  have hG : GoodIn Ts ws := fun w h => hT w (by unfold wsV; exact List.mem_append_right _ h)
  have hc : Cond.codeWith y bytes maxL ret hh ∈ ws := by rw [hw]; exact List.mem_cons_self
  refine ⟨⟨hrc, hrs, hR.1, hR.2, pay_in ht hG, hc⟩, ht _ (hG _ hc).1, ok _ (by simp [wsV]), ⟨hd.1, hd.2.1⟩, fun sig h => ?_, ok _ (by simp [wsV]), ok _ (by simp [wsV]), ok _ (by simp [wsV])⟩
  have h2 := hd.2.2
  rw [h] at h2
  exact (Option.some.inj h2).symm
theorem vx_runVW {y : MethodName} {bytes cc : ByteArray} {maxL nL mc ms n index : Nat} {ret : Option FieldType} {hh : List (Nat × Nat × Nat × Nat)} {ws : List Cond} {rm : Room} {Pc : Array Value → State → Prop} {Qc : Array Value → State → Outcome → State → Prop} {free : Addr → Prop} {Ts : List Cond} {own C : String} {b : Addr} {As rest : List Value} {g : JFrame}
    (S : CallFix p m c cc nL s args Ts own) (hM : Met l y ws rm Pc Qc mc ms free) (cw : vx_CVW R s args own C index y bytes maxL ret hh ws rm mc ms n) (hp : PreV s H C b Pc As)
    (hg : g.method = m) (hn : As.length = n) (hsize : g.locals.size = nL) (hstack : g.stack = As.reverse ++ .ref b :: rest) (hW : 2 * g.monitorRoom + (rest.map fun v => v.category).sum ≤ 8) (hdg : decode cc g.pc = .ok (.invokevirtual index, 3)) (hf : cells + mc ≤ R.cells ∧ slots + ms ≤ R.slots) :
    va_Run p l e R s m args below meth c H locs cells slots mc ms g rest (Qc (Value.ref b :: As).toArray) free := by
  obtain ⟨⟨hrc, hrs, hfr, hlo, hws, hcw⟩, hcode, hini, hy, hlen, hl, hin, hse⟩ := cw
  have hK : Back l R p e below s args y 3 8 (PreOf R mc ms Pc) (PostOf Qc mc ms free) := va_backW (hh := hh) (bytes := bytes) (maxL := maxL) (ret := ret) hM hp.1 hrc hrs hfr hlo hws hcw (fun a' U hW => word_at hW (Or.inl (by first | rfl | simp [Cond.onTables, Cond.keeps, Cond.steady])) hini)
  obtain ⟨hx, hb, hml, ho, -⟩ := S
  obtain ⟨-, ⟨cellB, hcB, hoB, hclB⟩, hPc⟩ := hp
  intro T hT X
  obtain ⟨v, vm₁, ⟨U', l2, c2, s2⟩, hW₁, X', ⟨g', mk, t, L, e1, e2, hq, h1, hL, h2, h3⟩, st⟩ := vx_callVW X hx (C := C) (hh := hh) (bytes := bytes) (maxL := maxL) (ret := ret) ho hl hin hse hcode hy hK (by rw [hT]; exact hcB) hoB hclB hg (hsize.trans hml.symm) (argsL := As) (rest := rest) (fun sig h => hn.trans (hlen sig h)) hstack hW (by rw [hb]; exact hdg)
    (fun vm₁ hW₁ => ⟨hf.1, hf.2, hPc (T.setVm vm₁) hT hW₁⟩)
  dsimp only [Pt.U, Pt.locs, Pt.cells, Pt.slots] at X' e1 e2 h1 h2 h3 st
  subst h1; subst h2; subst h3
  exact ⟨v, (T.setVm vm₁).calling g' mk (Value.ref b :: As).toArray, t, U', L, hT, X', hL, e1, e2, hq, st⟩
section
variable {y : MethodName} {bytes cc : ByteArray} {maxL nL mc ms n index : Nat} {ret : Option FieldType} {ws : List Cond} {rm : Room} {Pc : Array Value → State → Prop} {Qc : Array Value → State → Outcome → State → Prop} {XC : String → State → State → Prop} {free : Addr → Prop} {Ts : List Cond} {own C : String} {b : Addr} {As rest : List Value} {g : JFrame}
theorem vx_runVX {hh : List (Nat × Nat × Nat × Nat)} (S : CallFix p m c cc nL s args Ts own) (hM : vx_Met l y ws rm Pc Qc XC mc ms free) (cw : vx_CVW R s args own C index y bytes maxL ret hh ws rm mc ms n) (hp : PreV s H C b Pc As)
    (hg : g.method = m) (hn : As.length = n) (hsize : g.locals.size = nL) (hstack : g.stack = As.reverse ++ .ref b :: rest) (hW : 2 * g.monitorRoom + (rest.map fun v => v.category).sum ≤ 8) (hdg : decode cc g.pc = .ok (.invokevirtual index, 3)) (hf : cells + mc ≤ R.cells ∧ slots + ms ≤ R.slots) :
    vx_Run p l e R s m args below meth c H locs cells slots mc ms g rest (Qc (Value.ref b :: As).toArray) XC free := by
  obtain ⟨⟨hrc, hrs, hfr, hlo, hws, hcw⟩, hcode, hini, hy, hlen, hl, hin, hse⟩ := cw
  have hK : vx_Back l R p e below s args y 3 8 (PreOf R mc ms Pc) (PostOf Qc mc ms free) (vx_Post XC mc ms free) := vx_backW (hh := hh) (bytes := bytes) (maxL := maxL) (ret := ret) hM hp.1 hrc hrs hfr hlo hws hcw (fun a' U hW => word_at hW (Or.inl (by first | rfl | simp [Cond.onTables, Cond.keeps, Cond.steady])) hini)
  obtain ⟨hx, hb, hml, ho, -⟩ := S
  obtain ⟨-, ⟨cellB, hcB, hoB, hclB⟩, hPc⟩ := hp
  intro T hT X
  rcases vx_callVX X hx (C := C) (hh := hh) (bytes := bytes) (maxL := maxL) (ret := ret) ho hl hin hse hcode hy hK (by rw [hT]; exact hcB) hoB hclB hg (hsize.trans hml.symm) (argsL := As) (rest := rest) (fun sig h => hn.trans (hlen sig h)) hstack hW (by rw [hb]; exact hdg)
    (fun vm₁ hW₁ => ⟨hf.1, hf.2, hPc (T.setVm vm₁) hT hW₁⟩) with ⟨v, vm₁, ⟨U', l2, c2, s2⟩, hW₁, X', ⟨g', mk, t, L, e1, e2, hq, h1, hL, h2, h3⟩, st⟩ | ⟨q, vm₁, ⟨U', l2, c2, s2⟩, hW₁, X', ⟨g', mk, t, L, E, ce, e1, e2, hq, hce, hcv, hcl, h1, hL, h2, h3⟩, st⟩
  · dsimp only [Pt.U, Pt.locs, Pt.cells, Pt.slots] at X' e1 e2 h1 h2 h3 st
    subst h1; subst h2; subst h3
    exact Or.inl ⟨v, (T.setVm vm₁).calling g' mk (Value.ref b :: As).toArray, t, U', L, hT, X', hL, e1, e2, hq, st⟩
  · dsimp only [Pt.U, Pt.locs, Pt.cells, Pt.slots] at X' e1 e2 h1 h2 h3 st hcl
    subst h1; subst h2; subst h3
    exact Or.inr ⟨q, (T.setVm vm₁).calling g' mk (Value.ref b :: As).toArray, t, U', L, E, ce, hT, X', hL, e1, e2, hq, hce, hcv, vx_cls hW₁ hcl, st⟩
theorem vx_runSX {hh : List (Nat × Nat × Nat × Nat)} (S : CallFix p m c cc nL s args Ts own) (hM : vx_Met l y ws rm Pc Qc XC mc ms free) (cw : vx_CSW R s args own index y bytes maxL ret hh ws rm mc ms n) (hp : PreS s H Pc As)
    (hg : g.method = m) (hn : As.length = n) (hsize : g.locals.size = nL) (hstack : g.stack = As.reverse ++ rest) (hW : 2 * g.monitorRoom + (rest.map fun v => v.category).sum ≤ 8) (hdg : decode cc g.pc = .ok (.invokestatic index, 3)) (hf : cells + mc ≤ R.cells ∧ slots + ms ≤ R.slots) :
    vx_Run p l e R s m args below meth c H locs cells slots mc ms g rest (Qc As.toArray) XC free := by
  obtain ⟨⟨hrc, hrs, hfr, hlo, hws, hcw⟩, hcode, hini, hy, hlen, hl, hstt⟩ := cw
  have hK : vx_Back l R p e below s args y 3 8 (PreOf R mc ms Pc) (PostOf Qc mc ms free) (vx_Post XC mc ms free) := vx_backW (hh := hh) (bytes := bytes) (maxL := maxL) (ret := ret) hM hp.1 hrc hrs hfr hlo hws hcw (fun a' U hW => word_at hW (Or.inl (by first | rfl | simp [Cond.onTables, Cond.keeps, Cond.steady])) hini)
  obtain ⟨hx, hb, hml, ho, -⟩ := S
  intro T hT X
  rcases vx_callSX X hx (hh := hh) (bytes := bytes) (maxL := maxL) (ret := ret) ho hl hstt hini hcode hy hK hg (hsize.trans hml.symm) (argsL := As) (rest := rest) (fun sig h => hn.trans (hlen sig h)) hstack hW (by rw [hb]; exact hdg)
    (fun vm₁ hW₁ => ⟨hf.1, hf.2, hp.2 (T.setVm vm₁) hT hW₁⟩) with ⟨v, vm₁, ⟨U', l2, c2, s2⟩, hW₁, X', ⟨g', mk, t, L, e1, e2, hq, h1, hL, h2, h3⟩, st⟩ | ⟨q, vm₁, ⟨U', l2, c2, s2⟩, hW₁, X', ⟨g', mk, t, L, E, ce, e1, e2, hq, hce, hcv, hcl, h1, hL, h2, h3⟩, st⟩
  · dsimp only [Pt.U, Pt.locs, Pt.cells, Pt.slots] at X' e1 e2 h1 h2 h3 st
    subst h1; subst h2; subst h3
    exact Or.inl ⟨v, (T.setVm vm₁).calling g' mk As.toArray, t, U', L, hT, X', hL, e1, e2, hq, st⟩
  · dsimp only [Pt.U, Pt.locs, Pt.cells, Pt.slots] at X' e1 e2 h1 h2 h3 st hcl
    subst h1; subst h2; subst h3
    exact Or.inr ⟨q, (T.setVm vm₁).calling g' mk As.toArray, t, U', L, E, ce, hT, X', hL, e1, e2, hq, hce, hcv, vx_cls hW₁ hcl, st⟩
end
end VXH
theorem vx_ofWH {l : Launch} {y : MethodName} {ws ws' : List Cond} {rm : Room} {Pc : Array Value → State → Prop} {Qc : Array Value → State → Outcome → State → Prop} {XC : String → State → State → Prop} {mc ms : Nat} {free : Addr → Prop} {cc : ByteArray} {maxL : Nat} {ret : Option FieldType} {hh : List (Nat × Nat × Nat × Nat)}
    (hy : plainName y.cls = true) (hw : ws = Cond.codeWith y cc maxL ret hh :: ws')
    (body : ∀ p e s m args below meth c s₁, BodyLoose p l y (headSpec ws rm) cc maxL ret e s m args below meth c s₁ → c.maxLocals = maxL → Pc args s →
      W p l e (headSpec ws rm).room s m args below meth c s.heap [] 0 0 (vx_MQ below Qc XC args s mc ms free) (entryFrame m args maxL)) : vx_Met l y ws rm Pc Qc XC mc ms free := by
  refine MetFree.of_bodyS (code := cc) (maxLocals := maxL) (ret := ret) hy ?_ ?_
  · intro args s m h hn
    obtain ⟨m9, meth, c, hn9, h1, h2, h3, h4, -, h5, h6, -⟩ := Cond.codeWith_spec (atoms_spec (ws := ws) h _ (by rw [hw]; exact List.mem_cons_self))
    cases hn.symm.trans hn9
    exact ⟨meth, c, h1, h2, h3, h4, h5, h6⟩
  · intro p e s m args below meth c s₁ B hml hP _
    have hh0 : s₁.heap = s.heap := by rw [B.state]; rfl
    obtain ⟨t, a1, o, b1, b2, b3⟩ := body p e s m args below meth c s₁ B hml hP s₁ hh0 (Stand.of_body B)
    exact ⟨t, o, a1, b1, b2, b3⟩
/-! ===== END ===== -/
end
section
def RCo : String := "MergeRows$Common"
def TCo : u_T := fun k => match k with
  | 0 => ("MergeRows$Common", "placesA", "[I", true)
  | 1 => ("MergeRows$Common", "placesB", "[I", true)
  | 2 => ("MergeRows$Common", "count", "I", false)
  | _ => ("MergeRows$Common", "lengths", "[I", true)
def tyCo : Nat → FieldType := fun k => match k with
  | 0 => .array .int
  | 1 => .array .int
  | 2 => .int
  | _ => .array .int
theorem nmCo : ∀ a, a < 4 → ∀ b, b < 4 → a ≠ b → (TCo a).2.1 ≠ (TCo b).2.1 := by decide +kernel
theorem tokCo : ∀ k, k < 4 → parseFieldDescriptor (TCo k).2.2.1 = some (tyCo k) := by decide +kernel
theorem inCo : ∀ w ∈ u_ws RCo TCo 4, w ∈ hB := by
  intro w hw
  obtain ⟨k, hk, rfl⟩ := List.mem_map.mp hw
  have hk := List.mem_range.mp hk
  match k, hk with
  | 0, _ => exact hB_in 99 (by decide +kernel) (by decide +kernel)
  | 1, _ => exact hB_in 101 (by decide +kernel) (by decide +kernel)
  | 2, _ => exact hB_in 103 (by decide +kernel) (by decide +kernel)
  | 3, _ => exact hB_in 105 (by decide +kernel) (by decide +kernel)
  | k + 4, h => exact absurd h (by omega)
def RHu : String := "MergeRows$Hunks"
def THu : u_T := fun k => match k with
  | 0 => ("MergeRows$Hunks", "cells", "[I", true)
  | 1 => ("MergeRows$Hunks", "count", "I", false)
  | _ => ("MergeRows$Hunks", "common", "LMergeRows$Common;", true)
def tyHu : Nat → FieldType := fun k => match k with
  | 0 => .array .int
  | 1 => .int
  | _ => .object "MergeRows$Common"
theorem nmHu : ∀ a, a < 3 → ∀ b, b < 3 → a ≠ b → (THu a).2.1 ≠ (THu b).2.1 := by decide +kernel
theorem tokHu : ∀ k, k < 3 → parseFieldDescriptor (THu k).2.2.1 = some (tyHu k) := by decide +kernel
theorem inHu : ∀ w ∈ u_ws RHu THu 3, w ∈ hB := by
  intro w hw
  obtain ⟨k, hk, rfl⟩ := List.mem_map.mp hw
  have hk := List.mem_range.mp hk
  match k, hk with
  | 0, _ => exact hB_in 121 (by decide +kernel) (by decide +kernel)
  | 1, _ => exact hB_in 123 (by decide +kernel) (by decide +kernel)
  | 2, _ => exact hB_in 125 (by decide +kernel) (by decide +kernel)
  | k + 3, h => exact absurd h (by omega)
def RMg : String := "MergeRows$Merging"
def TMg : u_T := fun k => match k with
  | 0 => ("MergeRows$Merging", "outcome", "LMergeRows$Row;", true)
  | 1 => ("MergeRows$Merging", "conflictCells", "[I", true)
  | 2 => ("MergeRows$Merging", "conflictCount", "I", false)
  | 3 => ("MergeRows$Merging", "baseAndLeft", "LMergeRows$Common;", true)
  | 4 => ("MergeRows$Merging", "baseAndRight", "LMergeRows$Common;", true)
  | 5 => ("MergeRows$Merging", "basePart", "LMergeRows$Part;", true)
  | 6 => ("MergeRows$Merging", "leftPart", "LMergeRows$Part;", true)
  | _ => ("MergeRows$Merging", "rightPart", "LMergeRows$Part;", true)
def tyMg : Nat → FieldType := fun k => match k with
  | 0 => .object "MergeRows$Row"
  | 1 => .array .int
  | 2 => .int
  | 3 => .object "MergeRows$Common"
  | 4 => .object "MergeRows$Common"
  | 5 => .object "MergeRows$Part"
  | 6 => .object "MergeRows$Part"
  | _ => .object "MergeRows$Part"
theorem nmMg : ∀ a, a < 8 → ∀ b, b < 8 → a ≠ b → (TMg a).2.1 ≠ (TMg b).2.1 := by decide +kernel
theorem tokMg : ∀ k, k < 8 → parseFieldDescriptor (TMg k).2.2.1 = some (tyMg k) := by decide +kernel
theorem inMg : ∀ w ∈ u_ws RMg TMg 8, w ∈ hB := by
  intro w hw
  obtain ⟨k, hk, rfl⟩ := List.mem_map.mp hw
  have hk := List.mem_range.mp hk
  match k, hk with
  | 0, _ => exact hB_in 215 (by decide +kernel) (by decide +kernel)
  | 1, _ => exact hB_in 217 (by decide +kernel) (by decide +kernel)
  | 2, _ => exact hB_in 219 (by decide +kernel) (by decide +kernel)
  | 3, _ => exact hB_in 221 (by decide +kernel) (by decide +kernel)
  | 4, _ => exact hB_in 223 (by decide +kernel) (by decide +kernel)
  | 5, _ => exact hB_in 225 (by decide +kernel) (by decide +kernel)
  | 6, _ => exact hB_in 227 (by decide +kernel) (by decide +kernel)
  | 7, _ => exact hB_in 229 (by decide +kernel) (by decide +kernel)
  | k + 8, h => exact absurd h (by omega)
def RPa : String := "MergeRows$Part"
def TPa : u_T := fun k => match k with
  | 0 => ("MergeRows$Part", "row", "LMergeRows$Row;", false)
  | 1 => ("MergeRows$Part", "from", "I", false)
  | _ => ("MergeRows$Part", "end", "I", false)
def tyPa : Nat → FieldType := fun k => match k with
  | 0 => .object "MergeRows$Row"
  | 1 => .int
  | _ => .int
theorem nmPa : ∀ a, a < 3 → ∀ b, b < 3 → a ≠ b → (TPa a).2.1 ≠ (TPa b).2.1 := by decide +kernel
theorem tokPa : ∀ k, k < 3 → parseFieldDescriptor (TPa k).2.2.1 = some (tyPa k) := by decide +kernel
theorem inPa : ∀ w ∈ u_ws RPa TPa 3, w ∈ hB := by
  intro w hw
  obtain ⟨k, hk, rfl⟩ := List.mem_map.mp hw
  have hk := List.mem_range.mp hk
  match k, hk with
  | 0, _ => exact hB_in 197 (by decide +kernel) (by decide +kernel)
  | 1, _ => exact hB_in 199 (by decide +kernel) (by decide +kernel)
  | 2, _ => exact hB_in 201 (by decide +kernel) (by decide +kernel)
  | k + 3, h => exact absurd h (by omega)
def RPg : String := "MergeRows$Patching"
def TPg : u_T := fun k => match k with
  | 0 => ("MergeRows$Patching", "outcome", "LMergeRows$Row;", true)
  | 1 => ("MergeRows$Patching", "rejected", "I", false)
  | _ => ("MergeRows$Patching", "hunks", "LMergeRows$Hunks;", true)
def tyPg : Nat → FieldType := fun k => match k with
  | 0 => .object "MergeRows$Row"
  | 1 => .int
  | _ => .object "MergeRows$Hunks"
theorem nmPg : ∀ a, a < 3 → ∀ b, b < 3 → a ≠ b → (TPg a).2.1 ≠ (TPg b).2.1 := by decide +kernel
theorem tokPg : ∀ k, k < 3 → parseFieldDescriptor (TPg k).2.2.1 = some (tyPg k) := by decide +kernel
theorem inPg : ∀ w ∈ u_ws RPg TPg 3, w ∈ hB := by
  intro w hw
  obtain ⟨k, hk, rfl⟩ := List.mem_map.mp hw
  have hk := List.mem_range.mp hk
  match k, hk with
  | 0, _ => exact hB_in 141 (by decide +kernel) (by decide +kernel)
  | 1, _ => exact hB_in 143 (by decide +kernel) (by decide +kernel)
  | 2, _ => exact hB_in 145 (by decide +kernel) (by decide +kernel)
  | k + 3, h => exact absurd h (by omega)
def RRo : String := "MergeRows$Row"
def TRo : u_T := fun k => match k with
  | 0 => ("MergeRows$Row", "lines", "[I", true)
  | _ => ("MergeRows$Row", "count", "I", false)
def tyRo : Nat → FieldType := fun k => match k with
  | 0 => .array .int
  | _ => .int
theorem nmRo : ∀ a, a < 2 → ∀ b, b < 2 → a ≠ b → (TRo a).2.1 ≠ (TRo b).2.1 := by decide +kernel
theorem tokRo : ∀ k, k < 2 → parseFieldDescriptor (TRo k).2.2.1 = some (tyRo k) := by decide +kernel
theorem inRo : ∀ w ∈ u_ws RRo TRo 2, w ∈ hB := by
  intro w hw
  obtain ⟨k, hk, rfl⟩ := List.mem_map.mp hw
  have hk := List.mem_range.mp hk
  match k, hk with
  | 0, _ => exact hB_in 71 (by decide +kernel) (by decide +kernel)
  | 1, _ => exact hB_in 73 (by decide +kernel) (by decide +kernel)
  | k + 2, h => exact absurd h (by omega)
def RVe : String := "MergeRows$Versions"
def TVe : u_T := fun k => match k with
  | 0 => ("MergeRows$Versions", "sizes", "[I", true)
  | 1 => ("MergeRows$Versions", "origins", "[I", true)
  | 2 => ("MergeRows$Versions", "count", "I", false)
  | 3 => ("MergeRows$Versions", "newest", "LMergeRows$Row;", true)
  | _ => ("MergeRows$Versions", "common", "LMergeRows$Common;", true)
def tyVe : Nat → FieldType := fun k => match k with
  | 0 => .array .int
  | 1 => .array .int
  | 2 => .int
  | 3 => .object "MergeRows$Row"
  | _ => .object "MergeRows$Common"
theorem nmVe : ∀ a, a < 5 → ∀ b, b < 5 → a ≠ b → (TVe a).2.1 ≠ (TVe b).2.1 := by decide +kernel
theorem tokVe : ∀ k, k < 5 → parseFieldDescriptor (TVe k).2.2.1 = some (tyVe k) := by decide +kernel
theorem inVe : ∀ w ∈ u_ws RVe TVe 5, w ∈ hB := by
  intro w hw
  obtain ⟨k, hk, rfl⟩ := List.mem_map.mp hw
  have hk := List.mem_range.mp hk
  match k, hk with
  | 0, _ => exact hB_in 164 (by decide +kernel) (by decide +kernel)
  | 1, _ => exact hB_in 166 (by decide +kernel) (by decide +kernel)
  | 2, _ => exact hB_in 168 (by decide +kernel) (by decide +kernel)
  | 3, _ => exact hB_in 170 (by decide +kernel) (by decide +kernel)
  | 4, _ => exact hB_in 172 (by decide +kernel) (by decide +kernel)
  | k + 5, h => exact absurd h (by omega)
def RMR : String := "MergeRows"
def TMR : u_T := fun k => match k with
  | 0 => ("MergeRows", "rows", "[LMergeRows$Row;", true)
  | 1 => ("MergeRows", "latestCommon", "LMergeRows$Common;", true)
  | 2 => ("MergeRows", "latestHunks", "LMergeRows$Hunks;", true)
  | 3 => ("MergeRows", "patching", "LMergeRows$Patching;", true)
  | 4 => ("MergeRows", "versions", "LMergeRows$Versions;", true)
  | 5 => ("MergeRows", "latestMerging", "LMergeRows$Merging;", false)
  | _ => ("MergeRows", "spareMerging", "LMergeRows$Merging;", false)
def tyMR : Nat → FieldType := fun k => match k with
  | 0 => .array (.object "MergeRows$Row")
  | 1 => .object "MergeRows$Common"
  | 2 => .object "MergeRows$Hunks"
  | 3 => .object "MergeRows$Patching"
  | 4 => .object "MergeRows$Versions"
  | 5 => .object "MergeRows$Merging"
  | _ => .object "MergeRows$Merging"
theorem nmMR : ∀ a, a < 7 → ∀ b, b < 7 → a ≠ b → (TMR a).2.1 ≠ (TMR b).2.1 := by decide +kernel
theorem tokMR : ∀ k, k < 7 → parseFieldDescriptor (TMR k).2.2.1 = some (tyMR k) := by decide +kernel
theorem inMR : ∀ w ∈ u_ws RMR TMR 7, w ∈ hB := by
  intro w hw
  obtain ⟨k, hk, rfl⟩ := List.mem_map.mp hw
  have hk := List.mem_range.mp hk
  match k, hk with
  | 0, _ => exact hB_in 239 (by decide +kernel) (by decide +kernel)
  | 1, _ => exact hB_in 241 (by decide +kernel) (by decide +kernel)
  | 2, _ => exact hB_in 243 (by decide +kernel) (by decide +kernel)
  | 3, _ => exact hB_in 245 (by decide +kernel) (by decide +kernel)
  | 4, _ => exact hB_in 247 (by decide +kernel) (by decide +kernel)
  | 5, _ => exact hB_in 249 (by decide +kernel) (by decide +kernel)
  | 6, _ => exact hB_in 251 (by decide +kernel) (by decide +kernel)
  | k + 7, h => exact absurd h (by omega)
def RMM : String := "MergeRowsModel"
def TMM : u_T := fun k => match k with
  | 0 => ("MergeRowsModel", "thrown", "I", false)
  | 1 => ("MergeRowsModel", "sizes", "[I", true)
  | 2 => ("MergeRowsModel", "lines", "[I", true)
  | 3 => ("MergeRowsModel", "xs", "I", false)
  | 4 => ("MergeRowsModel", "ys", "I", false)
  | 5 => ("MergeRowsModel", "x", "[I", true)
  | 6 => ("MergeRowsModel", "y", "[I", true)
  | 7 => ("MergeRowsModel", "best", "[I", true)
  | 8 => ("MergeRowsModel", "partner", "[I", true)
  | 9 => ("MergeRowsModel", "pairs", "I", false)
  | 10 => ("MergeRowsModel", "pairA", "[I", true)
  | 11 => ("MergeRowsModel", "pairB", "[I", true)
  | 12 => ("MergeRowsModel", "hunks", "I", false)
  | 13 => ("MergeRowsModel", "hunk", "[I", true)
  | 14 => ("MergeRowsModel", "parts", "I", false)
  | 15 => ("MergeRowsModel", "part", "[I", true)
  | 16 => ("MergeRowsModel", "made", "I", false)
  | 17 => ("MergeRowsModel", "tooLong", "Z", false)
  | 18 => ("MergeRowsModel", "fresh", "[I", true)
  | 19 => ("MergeRowsModel", "left", "[I", true)
  | 20 => ("MergeRowsModel", "right", "[I", true)
  | 21 => ("MergeRowsModel", "conflicts", "I", false)
  | 22 => ("MergeRowsModel", "conflict", "[I", true)
  | 23 => ("MergeRowsModel", "news", "I", false)
  | 24 => ("MergeRowsModel", "newConflict", "[I", true)
  | 25 => ("MergeRowsModel", "versions", "I", false)
  | 26 => ("MergeRowsModel", "versionSizes", "[I", true)
  | 27 => ("MergeRowsModel", "versionLines", "[I", true)
  | _ => ("MergeRowsModel", "origins", "[I", true)
def tyMM : Nat → FieldType := fun k => match k with
  | 0 => .int
  | 1 => .array .int
  | 2 => .array .int
  | 3 => .int
  | 4 => .int
  | 5 => .array .int
  | 6 => .array .int
  | 7 => .array .int
  | 8 => .array .int
  | 9 => .int
  | 10 => .array .int
  | 11 => .array .int
  | 12 => .int
  | 13 => .array .int
  | 14 => .int
  | 15 => .array .int
  | 16 => .int
  | 17 => .boolean
  | 18 => .array .int
  | 19 => .array .int
  | 20 => .array .int
  | 21 => .int
  | 22 => .array .int
  | 23 => .int
  | 24 => .array .int
  | 25 => .int
  | 26 => .array .int
  | 27 => .array .int
  | _ => .array .int
theorem nmMM : ∀ a, a < 29 → ∀ b, b < 29 → a ≠ b → (TMM a).2.1 ≠ (TMM b).2.1 := by decide +kernel
theorem tokMM : ∀ k, k < 29 → parseFieldDescriptor (TMM k).2.2.1 = some (tyMM k) := by decide +kernel
theorem inMM : ∀ w ∈ u_ws RMM TMM 29, w ∈ hB := by
  intro w hw
  obtain ⟨k, hk, rfl⟩ := List.mem_map.mp hw
  have hk := List.mem_range.mp hk
  match k, hk with
  | 0, _ => exact hB_in 622 (by decide +kernel) (by decide +kernel)
  | 1, _ => exact hB_in 624 (by decide +kernel) (by decide +kernel)
  | 2, _ => exact hB_in 626 (by decide +kernel) (by decide +kernel)
  | 3, _ => exact hB_in 628 (by decide +kernel) (by decide +kernel)
  | 4, _ => exact hB_in 630 (by decide +kernel) (by decide +kernel)
  | 5, _ => exact hB_in 632 (by decide +kernel) (by decide +kernel)
  | 6, _ => exact hB_in 634 (by decide +kernel) (by decide +kernel)
  | 7, _ => exact hB_in 636 (by decide +kernel) (by decide +kernel)
  | 8, _ => exact hB_in 638 (by decide +kernel) (by decide +kernel)
  | 9, _ => exact hB_in 640 (by decide +kernel) (by decide +kernel)
  | 10, _ => exact hB_in 642 (by decide +kernel) (by decide +kernel)
  | 11, _ => exact hB_in 644 (by decide +kernel) (by decide +kernel)
  | 12, _ => exact hB_in 646 (by decide +kernel) (by decide +kernel)
  | 13, _ => exact hB_in 648 (by decide +kernel) (by decide +kernel)
  | 14, _ => exact hB_in 650 (by decide +kernel) (by decide +kernel)
  | 15, _ => exact hB_in 652 (by decide +kernel) (by decide +kernel)
  | 16, _ => exact hB_in 654 (by decide +kernel) (by decide +kernel)
  | 17, _ => exact hB_in 656 (by decide +kernel) (by decide +kernel)
  | 18, _ => exact hB_in 658 (by decide +kernel) (by decide +kernel)
  | 19, _ => exact hB_in 660 (by decide +kernel) (by decide +kernel)
  | 20, _ => exact hB_in 662 (by decide +kernel) (by decide +kernel)
  | 21, _ => exact hB_in 664 (by decide +kernel) (by decide +kernel)
  | 22, _ => exact hB_in 666 (by decide +kernel) (by decide +kernel)
  | 23, _ => exact hB_in 668 (by decide +kernel) (by decide +kernel)
  | 24, _ => exact hB_in 670 (by decide +kernel) (by decide +kernel)
  | 25, _ => exact hB_in 672 (by decide +kernel) (by decide +kernel)
  | 26, _ => exact hB_in 674 (by decide +kernel) (by decide +kernel)
  | 27, _ => exact hB_in 676 (by decide +kernel) (by decide +kernel)
  | 28, _ => exact hB_in 678 (by decide +kernel) (by decide +kernel)
  | k + 29, h => exact absurd h (by omega)
def RLa : String := "MergeRowsLaw"
abbrev hC : List vw_C := [(RCo, TCo, 4), (RHu, THu, 3), (RMg, TMg, 8), (RPa, TPa, 3), (RPg, TPg, 3), (RRo, TRo, 2), (RVe, TVe, 5), (RMR, TMR, 7), (RMM, TMM, 29)]
end
section
/-- what a caller needs of a method: an instance method, a static one, a constructor -/
def hcV (y : MethodName) (bytes : ByteArray) (maxL : Nat) (ret : Option FieldType) (n : Nat) : Prop := Cond.code y bytes maxL ret ∈ hB ∧ Cond.initialized y.cls ∈ hB ∧ (y.cls ≠ "java/lang/invoke/MethodHandle" ∧ y.cls ≠ "java/lang/invoke/VarHandle" ∧ (parseMethodDescriptor y.desc).map (fun d => d.parameters.length) = some n) ∧ Cond.instanceMethod y ∈ hB ∧ Cond.selects y.cls y y ∈ hB
def hcS (y : MethodName) (bytes : ByteArray) (maxL : Nat) (ret : Option FieldType) (n : Nat) : Prop := Cond.code y bytes maxL ret ∈ hB ∧ Cond.initialized y.cls ∈ hB ∧ (y.cls ≠ "java/lang/invoke/MethodHandle" ∧ y.cls ≠ "java/lang/invoke/VarHandle" ∧ (parseMethodDescriptor y.desc).map (fun d => d.parameters.length) = some n) ∧ Cond.static y ∈ hB
def hcI (y : MethodName) (bytes : ByteArray) (maxL : Nat) (n : Nat) : Prop := Cond.code y bytes maxL none ∈ hB ∧ Cond.initialized y.cls ∈ hB ∧ (y.cls ≠ "java/lang/invoke/MethodHandle" ∧ y.cls ≠ "java/lang/invoke/VarHandle" ∧ (parseMethodDescriptor y.desc).map (fun d => d.parameters.length) = some n) ∧ y.name = "<init>" ∧ Cond.instanceMethod y ∈ hB
abbrev cMR_init : ByteArray := prog_1_method_1_code
def yMR_init : MethodName := ⟨RMR, "<init>", "()V"⟩
set_option maxRecDepth 20000 in
theorem kMR_init : hcI yMR_init cMR_init 4 0 := ⟨hB_in 47 rfl (by decide +kernel), hB_in 27 rfl (by decide +kernel), ⟨by decide +kernel, by decide +kernel, by decide +kernel⟩, rfl, hB_in 46 rfl (by decide +kernel)⟩
abbrev cMR_put : ByteArray := prog_1_method_2_code
def yMR_put : MethodName := ⟨RMR, "put", "(II)I"⟩
set_option maxRecDepth 20000 in
theorem kMR_put : hcV yMR_put cMR_put 4 (some .int) 2 := ⟨hB_in 262 rfl (by decide +kernel), hB_in 27 rfl (by decide +kernel), ⟨by decide +kernel, by decide +kernel, by decide +kernel⟩, hB_in 260 rfl (by decide +kernel), hB_in 261 rfl (by decide +kernel)⟩
abbrev cMR_clear : ByteArray := prog_1_method_3_code
def yMR_clear : MethodName := ⟨RMR, "clear", "(I)V"⟩
set_option maxRecDepth 20000 in
theorem kMR_clear : hcV yMR_clear cMR_clear 2 none 1 := ⟨hB_in 361 rfl (by decide +kernel), hB_in 27 rfl (by decide +kernel), ⟨by decide +kernel, by decide +kernel, by decide +kernel⟩, hB_in 359 rfl (by decide +kernel), hB_in 360 rfl (by decide +kernel)⟩
abbrev cMR_size : ByteArray := prog_1_method_4_code
def yMR_size : MethodName := ⟨RMR, "size", "(I)I"⟩
set_option maxRecDepth 20000 in
theorem kMR_size : hcV yMR_size cMR_size 2 (some .int) 1 := ⟨hB_in 368 rfl (by decide +kernel), hB_in 27 rfl (by decide +kernel), ⟨by decide +kernel, by decide +kernel, by decide +kernel⟩, hB_in 366 rfl (by decide +kernel), hB_in 367 rfl (by decide +kernel)⟩
abbrev cMR_get : ByteArray := prog_1_method_5_code
def yMR_get : MethodName := ⟨RMR, "get", "(II)I"⟩
set_option maxRecDepth 20000 in
theorem kMR_get : hcV yMR_get cMR_get 4 (some .int) 2 := ⟨hB_in 376 rfl (by decide +kernel), hB_in 27 rfl (by decide +kernel), ⟨by decide +kernel, by decide +kernel, by decide +kernel⟩, hB_in 374 rfl (by decide +kernel), hB_in 375 rfl (by decide +kernel)⟩
abbrev cMR_common : ByteArray := prog_1_method_6_code
def yMR_common : MethodName := ⟨RMR, "common", "(II)I"⟩
set_option maxRecDepth 20000 in
theorem kMR_common : hcV yMR_common cMR_common 5 (some .int) 2 := ⟨hB_in 399 rfl (by decide +kernel), hB_in 27 rfl (by decide +kernel), ⟨by decide +kernel, by decide +kernel, by decide +kernel⟩, hB_in 397 rfl (by decide +kernel), hB_in 398 rfl (by decide +kernel)⟩
abbrev cMR_pair : ByteArray := prog_1_method_7_code
def yMR_pair : MethodName := ⟨RMR, "pair", "(II)I"⟩
set_option maxRecDepth 20000 in
theorem kMR_pair : hcV yMR_pair cMR_pair 3 (some .int) 2 := ⟨hB_in 433 rfl (by decide +kernel), hB_in 27 rfl (by decide +kernel), ⟨by decide +kernel, by decide +kernel, by decide +kernel⟩, hB_in 431 rfl (by decide +kernel), hB_in 432 rfl (by decide +kernel)⟩
abbrev cMR_hunks : ByteArray := prog_1_method_8_code
def yMR_hunks : MethodName := ⟨RMR, "hunks", "(II)I"⟩
set_option maxRecDepth 20000 in
theorem kMR_hunks : hcV yMR_hunks cMR_hunks 5 (some .int) 2 := ⟨hB_in 441 rfl (by decide +kernel), hB_in 27 rfl (by decide +kernel), ⟨by decide +kernel, by decide +kernel, by decide +kernel⟩, hB_in 439 rfl (by decide +kernel), hB_in 440 rfl (by decide +kernel)⟩
abbrev cMR_hunk : ByteArray := prog_1_method_9_code
def yMR_hunk : MethodName := ⟨RMR, "hunk", "(II)I"⟩
set_option maxRecDepth 20000 in
theorem kMR_hunk : hcV yMR_hunk cMR_hunk 3 (some .int) 2 := ⟨hB_in 457 rfl (by decide +kernel), hB_in 27 rfl (by decide +kernel), ⟨by decide +kernel, by decide +kernel, by decide +kernel⟩, hB_in 455 rfl (by decide +kernel), hB_in 456 rfl (by decide +kernel)⟩
abbrev cMR_merge : ByteArray := prog_1_method_10_code
def yMR_merge : MethodName := ⟨RMR, "merge", "(IIII)I"⟩
set_option maxRecDepth 20000 in
theorem kMR_merge : hcV yMR_merge cMR_merge 10 (some .int) 4 := ⟨hB_in 465 rfl (by decide +kernel), hB_in 27 rfl (by decide +kernel), ⟨by decide +kernel, by decide +kernel, by decide +kernel⟩, hB_in 463 rfl (by decide +kernel), hB_in 464 rfl (by decide +kernel)⟩
abbrev cMR_conflict : ByteArray := prog_1_method_11_code
def yMR_conflict : MethodName := ⟨RMR, "conflict", "(II)I"⟩
set_option maxRecDepth 20000 in
theorem kMR_conflict : hcV yMR_conflict cMR_conflict 3 (some .int) 2 := ⟨hB_in 529 rfl (by decide +kernel), hB_in 27 rfl (by decide +kernel), ⟨by decide +kernel, by decide +kernel, by decide +kernel⟩, hB_in 527 rfl (by decide +kernel), hB_in 528 rfl (by decide +kernel)⟩
abbrev cMR_patch : ByteArray := prog_1_method_12_code
def yMR_patch : MethodName := ⟨RMR, "patch", "(IIII)I"⟩
set_option maxRecDepth 20000 in
theorem kMR_patch : hcV yMR_patch cMR_patch 9 (some .int) 4 := ⟨hB_in 537 rfl (by decide +kernel), hB_in 27 rfl (by decide +kernel), ⟨by decide +kernel, by decide +kernel, by decide +kernel⟩, hB_in 535 rfl (by decide +kernel), hB_in 536 rfl (by decide +kernel)⟩
abbrev cMR_commit : ByteArray := prog_1_method_13_code
def yMR_commit : MethodName := ⟨RMR, "commit", "(I)I"⟩
set_option maxRecDepth 20000 in
theorem kMR_commit : hcV yMR_commit cMR_commit 3 (some .int) 1 := ⟨hB_in 567 rfl (by decide +kernel), hB_in 27 rfl (by decide +kernel), ⟨by decide +kernel, by decide +kernel, by decide +kernel⟩, hB_in 565 rfl (by decide +kernel), hB_in 566 rfl (by decide +kernel)⟩
abbrev cMR_origin : ByteArray := prog_1_method_14_code
def yMR_origin : MethodName := ⟨RMR, "origin", "(II)I"⟩
set_option maxRecDepth 20000 in
theorem kMR_origin : hcV yMR_origin cMR_origin 3 (some .int) 2 := ⟨hB_in 585 rfl (by decide +kernel), hB_in 27 rfl (by decide +kernel), ⟨by decide +kernel, by decide +kernel, by decide +kernel⟩, hB_in 583 rfl (by decide +kernel), hB_in 584 rfl (by decide +kernel)⟩
abbrev cMR_rowAt : ByteArray := prog_1_method_15_code
def yMR_rowAt : MethodName := ⟨RMR, "rowAt", "(I)LMergeRows$Row;"⟩
set_option maxRecDepth 20000 in
theorem kMR_rowAt : hcV yMR_rowAt cMR_rowAt 2 (some (.object "MergeRows$Row")) 1 := ⟨hB_in 266 rfl (by decide +kernel), hB_in 27 rfl (by decide +kernel), ⟨by decide +kernel, by decide +kernel, by decide +kernel⟩, hB_in 265 rfl (by decide +kernel), hB_in 0 rfl (by decide +kernel)⟩
abbrev cMR_fillWithOutcome : ByteArray := prog_1_method_16_code
def yMR_fillWithOutcome : MethodName := ⟨RMR, "fillWithOutcome", "(LMergeRows$Row;LMergeRows$Row;)V"⟩
set_option maxRecDepth 20000 in
theorem kMR_fillWithOutcome : hcS yMR_fillWithOutcome cMR_fillWithOutcome 2 none 2 := ⟨hB_in 516 rfl (by decide +kernel), hB_in 27 rfl (by decide +kernel), ⟨by decide +kernel, by decide +kernel, by decide +kernel⟩, hB_in 515 rfl (by decide +kernel)⟩
abbrev cMM_init : ByteArray := prog_10_method_1_code
def yMM_init : MethodName := ⟨RMM, "<init>", "()V"⟩
set_option maxRecDepth 20000 in
theorem kMM_init : hcI yMM_init cMM_init 1 0 := ⟨hB_in 591 rfl (by decide +kernel), hB_in 35 rfl (by decide +kernel), ⟨by decide +kernel, by decide +kernel, by decide +kernel⟩, rfl, hB_in 590 rfl (by decide +kernel)⟩
abbrev cMM_thrown : ByteArray := prog_10_method_2_code
def yMM_thrown : MethodName := ⟨RMM, "thrown", "()I"⟩
set_option maxRecDepth 20000 in
theorem kMM_thrown : hcV yMM_thrown cMM_thrown 1 (some .int) 0 := ⟨hB_in 684 rfl (by decide +kernel), hB_in 35 rfl (by decide +kernel), ⟨by decide +kernel, by decide +kernel, by decide +kernel⟩, hB_in 682 rfl (by decide +kernel), hB_in 683 rfl (by decide +kernel)⟩
abbrev cMM_refuse : ByteArray := prog_10_method_3_code
def yMM_refuse : MethodName := ⟨RMM, "refuse", "(ZZ)Z"⟩
set_option maxRecDepth 20000 in
theorem kMM_refuse : hcV yMM_refuse cMM_refuse 3 (some .boolean) 2 := ⟨hB_in 695 rfl (by decide +kernel), hB_in 35 rfl (by decide +kernel), ⟨by decide +kernel, by decide +kernel, by decide +kernel⟩, hB_in 694 rfl (by decide +kernel), hB_in 13 rfl (by decide +kernel)⟩
abbrev cMM_isRow : ByteArray := prog_10_method_4_code
def yMM_isRow : MethodName := ⟨RMM, "isRow", "(I)Z"⟩
set_option maxRecDepth 20000 in
theorem kMM_isRow : hcS yMM_isRow cMM_isRow 1 (some .boolean) 1 := ⟨hB_in 691 rfl (by decide +kernel), hB_in 35 rfl (by decide +kernel), ⟨by decide +kernel, by decide +kernel, by decide +kernel⟩, hB_in 690 rfl (by decide +kernel)⟩
abbrev cMM_put : ByteArray := prog_10_method_5_code
def yMM_put : MethodName := ⟨RMM, "put", "(II)I"⟩
set_option maxRecDepth 20000 in
theorem kMM_put : hcV yMM_put cMM_put 4 (some .int) 2 := ⟨hB_in 688 rfl (by decide +kernel), hB_in 35 rfl (by decide +kernel), ⟨by decide +kernel, by decide +kernel, by decide +kernel⟩, hB_in 686 rfl (by decide +kernel), hB_in 687 rfl (by decide +kernel)⟩
abbrev cMM_clear : ByteArray := prog_10_method_6_code
def yMM_clear : MethodName := ⟨RMM, "clear", "(I)V"⟩
set_option maxRecDepth 20000 in
theorem kMM_clear : hcV yMM_clear cMM_clear 2 none 1 := ⟨hB_in 699 rfl (by decide +kernel), hB_in 35 rfl (by decide +kernel), ⟨by decide +kernel, by decide +kernel, by decide +kernel⟩, hB_in 697 rfl (by decide +kernel), hB_in 698 rfl (by decide +kernel)⟩
abbrev cMM_size : ByteArray := prog_10_method_7_code
def yMM_size : MethodName := ⟨RMM, "size", "(I)I"⟩
set_option maxRecDepth 20000 in
theorem kMM_size : hcV yMM_size cMM_size 2 (some .int) 1 := ⟨hB_in 703 rfl (by decide +kernel), hB_in 35 rfl (by decide +kernel), ⟨by decide +kernel, by decide +kernel, by decide +kernel⟩, hB_in 701 rfl (by decide +kernel), hB_in 702 rfl (by decide +kernel)⟩
abbrev cMM_get : ByteArray := prog_10_method_8_code
def yMM_get : MethodName := ⟨RMM, "get", "(II)I"⟩
set_option maxRecDepth 20000 in
theorem kMM_get : hcV yMM_get cMM_get 4 (some .int) 2 := ⟨hB_in 707 rfl (by decide +kernel), hB_in 35 rfl (by decide +kernel), ⟨by decide +kernel, by decide +kernel, by decide +kernel⟩, hB_in 705 rfl (by decide +kernel), hB_in 706 rfl (by decide +kernel)⟩
abbrev cMM_first : ByteArray := prog_10_method_9_code
def yMM_first : MethodName := ⟨RMM, "first", "([III)V"⟩
set_option maxRecDepth 20000 in
theorem kMM_first : hcV yMM_first cMM_first 5 none 3 := ⟨hB_in 719 rfl (by decide +kernel), hB_in 35 rfl (by decide +kernel), ⟨by decide +kernel, by decide +kernel, by decide +kernel⟩, hB_in 718 rfl (by decide +kernel), hB_in 15 rfl (by decide +kernel)⟩
abbrev cMM_second : ByteArray := prog_10_method_10_code
def yMM_second : MethodName := ⟨RMM, "second", "([III)V"⟩
set_option maxRecDepth 20000 in
theorem kMM_second : hcV yMM_second cMM_second 5 none 3 := ⟨hB_in 723 rfl (by decide +kernel), hB_in 35 rfl (by decide +kernel), ⟨by decide +kernel, by decide +kernel, by decide +kernel⟩, hB_in 722 rfl (by decide +kernel), hB_in 16 rfl (by decide +kernel)⟩
abbrev cMM_rows : ByteArray := prog_10_method_11_code
def yMM_rows : MethodName := ⟨RMM, "rows", "(II)V"⟩
set_option maxRecDepth 20000 in
theorem kMM_rows : hcV yMM_rows cMM_rows 3 none 2 := ⟨hB_in 715 rfl (by decide +kernel), hB_in 35 rfl (by decide +kernel), ⟨by decide +kernel, by decide +kernel, by decide +kernel⟩, hB_in 714 rfl (by decide +kernel), hB_in 14 rfl (by decide +kernel)⟩
abbrev cMM_compare : ByteArray := prog_10_method_12_code
def yMM_compare : MethodName := ⟨RMM, "compare", "()V"⟩
set_option maxRecDepth 20000 in
theorem kMM_compare : hcV yMM_compare cMM_compare 7 none 0 := ⟨hB_in 727 rfl (by decide +kernel), hB_in 35 rfl (by decide +kernel), ⟨by decide +kernel, by decide +kernel, by decide +kernel⟩, hB_in 726 rfl (by decide +kernel), hB_in 17 rfl (by decide +kernel)⟩
abbrev cMM_common : ByteArray := prog_10_method_13_code
def yMM_common : MethodName := ⟨RMM, "common", "(II)I"⟩
set_option maxRecDepth 20000 in
theorem kMM_common : hcV yMM_common cMM_common 4 (some .int) 2 := ⟨hB_in 711 rfl (by decide +kernel), hB_in 35 rfl (by decide +kernel), ⟨by decide +kernel, by decide +kernel, by decide +kernel⟩, hB_in 709 rfl (by decide +kernel), hB_in 710 rfl (by decide +kernel)⟩
abbrev cMM_pair : ByteArray := prog_10_method_14_code
def yMM_pair : MethodName := ⟨RMM, "pair", "(II)I"⟩
set_option maxRecDepth 20000 in
theorem kMM_pair : hcV yMM_pair cMM_pair 3 (some .int) 2 := ⟨hB_in 731 rfl (by decide +kernel), hB_in 35 rfl (by decide +kernel), ⟨by decide +kernel, by decide +kernel, by decide +kernel⟩, hB_in 729 rfl (by decide +kernel), hB_in 730 rfl (by decide +kernel)⟩
abbrev cMM_addPart : ByteArray := prog_10_method_15_code
def yMM_addPart : MethodName := ⟨RMM, "addPart", "(IIII)V"⟩
set_option maxRecDepth 20000 in
theorem kMM_addPart : hcV yMM_addPart cMM_addPart 5 none 4 := ⟨hB_in 743 rfl (by decide +kernel), hB_in 35 rfl (by decide +kernel), ⟨by decide +kernel, by decide +kernel, by decide +kernel⟩, hB_in 742 rfl (by decide +kernel), hB_in 19 rfl (by decide +kernel)⟩
abbrev cMM_cut : ByteArray := prog_10_method_16_code
def yMM_cut : MethodName := ⟨RMM, "cut", "()V"⟩
set_option maxRecDepth 20000 in
theorem kMM_cut : hcV yMM_cut cMM_cut 4 none 0 := ⟨hB_in 739 rfl (by decide +kernel), hB_in 35 rfl (by decide +kernel), ⟨by decide +kernel, by decide +kernel, by decide +kernel⟩, hB_in 738 rfl (by decide +kernel), hB_in 18 rfl (by decide +kernel)⟩
abbrev cMM_hunks : ByteArray := prog_10_method_17_code
def yMM_hunks : MethodName := ⟨RMM, "hunks", "(II)I"⟩
set_option maxRecDepth 20000 in
theorem kMM_hunks : hcV yMM_hunks cMM_hunks 4 (some .int) 2 := ⟨hB_in 735 rfl (by decide +kernel), hB_in 35 rfl (by decide +kernel), ⟨by decide +kernel, by decide +kernel, by decide +kernel⟩, hB_in 733 rfl (by decide +kernel), hB_in 734 rfl (by decide +kernel)⟩
abbrev cMM_hunk : ByteArray := prog_10_method_18_code
def yMM_hunk : MethodName := ⟨RMM, "hunk", "(II)I"⟩
set_option maxRecDepth 20000 in
theorem kMM_hunk : hcV yMM_hunk cMM_hunk 3 (some .int) 2 := ⟨hB_in 747 rfl (by decide +kernel), hB_in 35 rfl (by decide +kernel), ⟨by decide +kernel, by decide +kernel, by decide +kernel⟩, hB_in 745 rfl (by decide +kernel), hB_in 746 rfl (by decide +kernel)⟩
abbrev cMM_write : ByteArray := prog_10_method_19_code
def yMM_write : MethodName := ⟨RMM, "write", "(I)V"⟩
set_option maxRecDepth 20000 in
theorem kMM_write : hcV yMM_write cMM_write 2 none 1 := ⟨hB_in 767 rfl (by decide +kernel), hB_in 35 rfl (by decide +kernel), ⟨by decide +kernel, by decide +kernel, by decide +kernel⟩, hB_in 766 rfl (by decide +kernel), hB_in 23 rfl (by decide +kernel)⟩
abbrev cMM_writePart : ByteArray := prog_10_method_20_code
def yMM_writePart : MethodName := ⟨RMM, "writePart", "(III)V"⟩
set_option maxRecDepth 20000 in
theorem kMM_writePart : hcV yMM_writePart cMM_writePart 5 none 3 := ⟨hB_in 763 rfl (by decide +kernel), hB_in 35 rfl (by decide +kernel), ⟨by decide +kernel, by decide +kernel, by decide +kernel⟩, hB_in 762 rfl (by decide +kernel), hB_in 22 rfl (by decide +kernel)⟩
abbrev cMM_alike : ByteArray := prog_10_method_21_code
def yMM_alike : MethodName := ⟨RMM, "alike", "(IIIIII)Z"⟩
set_option maxRecDepth 20000 in
theorem kMM_alike : hcV yMM_alike cMM_alike 9 (some .boolean) 6 := ⟨hB_in 759 rfl (by decide +kernel), hB_in 35 rfl (by decide +kernel), ⟨by decide +kernel, by decide +kernel, by decide +kernel⟩, hB_in 758 rfl (by decide +kernel), hB_in 21 rfl (by decide +kernel)⟩
abbrev cMM_joinParts : ByteArray := prog_10_method_22_code
def yMM_joinParts : MethodName := ⟨RMM, "joinParts", "(IIIIIIIII)V"⟩
set_option maxRecDepth 20000 in
theorem kMM_joinParts : hcV yMM_joinParts cMM_joinParts 11 none 9 := ⟨hB_in 755 rfl (by decide +kernel), hB_in 35 rfl (by decide +kernel), ⟨by decide +kernel, by decide +kernel, by decide +kernel⟩, hB_in 754 rfl (by decide +kernel), hB_in 20 rfl (by decide +kernel)⟩
abbrev cMM_become : ByteArray := prog_10_method_23_code
def yMM_become : MethodName := ⟨RMM, "become", "(I)V"⟩
set_option maxRecDepth 20000 in
theorem kMM_become : hcV yMM_become cMM_become 3 none 1 := ⟨hB_in 771 rfl (by decide +kernel), hB_in 35 rfl (by decide +kernel), ⟨by decide +kernel, by decide +kernel, by decide +kernel⟩, hB_in 770 rfl (by decide +kernel), hB_in 24 rfl (by decide +kernel)⟩
abbrev cMM_merge : ByteArray := prog_10_method_24_code
def yMM_merge : MethodName := ⟨RMM, "merge", "(IIII)I"⟩
set_option maxRecDepth 20000 in
theorem kMM_merge : hcV yMM_merge cMM_merge 9 (some .int) 4 := ⟨hB_in 751 rfl (by decide +kernel), hB_in 35 rfl (by decide +kernel), ⟨by decide +kernel, by decide +kernel, by decide +kernel⟩, hB_in 749 rfl (by decide +kernel), hB_in 750 rfl (by decide +kernel)⟩
abbrev cMM_conflict : ByteArray := prog_10_method_25_code
def yMM_conflict : MethodName := ⟨RMM, "conflict", "(II)I"⟩
set_option maxRecDepth 20000 in
theorem kMM_conflict : hcV yMM_conflict cMM_conflict 3 (some .int) 2 := ⟨hB_in 775 rfl (by decide +kernel), hB_in 35 rfl (by decide +kernel), ⟨by decide +kernel, by decide +kernel, by decide +kernel⟩, hB_in 773 rfl (by decide +kernel), hB_in 774 rfl (by decide +kernel)⟩
abbrev cMM_fits : ByteArray := prog_10_method_26_code
def yMM_fits : MethodName := ⟨RMM, "fits", "(III)Z"⟩
set_option maxRecDepth 20000 in
theorem kMM_fits : hcV yMM_fits cMM_fits 8 (some .boolean) 3 := ⟨hB_in 786 rfl (by decide +kernel), hB_in 35 rfl (by decide +kernel), ⟨by decide +kernel, by decide +kernel, by decide +kernel⟩, hB_in 785 rfl (by decide +kernel), hB_in 25 rfl (by decide +kernel)⟩
abbrev cMM_apart : ByteArray := prog_10_method_27_code
def yMM_apart : MethodName := ⟨RMM, "apart", "(II)I"⟩
set_option maxRecDepth 20000 in
theorem kMM_apart : hcS yMM_apart cMM_apart 2 (some .int) 2 := ⟨hB_in 782 rfl (by decide +kernel), hB_in 35 rfl (by decide +kernel), ⟨by decide +kernel, by decide +kernel, by decide +kernel⟩, hB_in 781 rfl (by decide +kernel)⟩
abbrev cMM_patch : ByteArray := prog_10_method_28_code
def yMM_patch : MethodName := ⟨RMM, "patch", "(IIII)I"⟩
set_option maxRecDepth 20000 in
theorem kMM_patch : hcV yMM_patch cMM_patch 13 (some .int) 4 := ⟨hB_in 779 rfl (by decide +kernel), hB_in 35 rfl (by decide +kernel), ⟨by decide +kernel, by decide +kernel, by decide +kernel⟩, hB_in 777 rfl (by decide +kernel), hB_in 778 rfl (by decide +kernel)⟩
abbrev cMM_commit : ByteArray := prog_10_method_29_code
def yMM_commit : MethodName := ⟨RMM, "commit", "(I)I"⟩
set_option maxRecDepth 20000 in
theorem kMM_commit : hcV yMM_commit cMM_commit 5 (some .int) 1 := ⟨hB_in 790 rfl (by decide +kernel), hB_in 35 rfl (by decide +kernel), ⟨by decide +kernel, by decide +kernel, by decide +kernel⟩, hB_in 788 rfl (by decide +kernel), hB_in 789 rfl (by decide +kernel)⟩
abbrev cMM_origin : ByteArray := prog_10_method_30_code
def yMM_origin : MethodName := ⟨RMM, "origin", "(II)I"⟩
set_option maxRecDepth 20000 in
theorem kMM_origin : hcV yMM_origin cMM_origin 4 (some .int) 2 := ⟨hB_in 794 rfl (by decide +kernel), hB_in 35 rfl (by decide +kernel), ⟨by decide +kernel, by decide +kernel, by decide +kernel⟩, hB_in 792 rfl (by decide +kernel), hB_in 793 rfl (by decide +kernel)⟩
abbrev cCo_init : ByteArray := prog_2_method_1_code
def yCo_init : MethodName := ⟨RCo, "<init>", "([I)V"⟩
set_option maxRecDepth 20000 in
theorem kCo_init : hcI yCo_init cCo_init 2 1 := ⟨hB_in 81 rfl (by decide +kernel), hB_in 29 rfl (by decide +kernel), ⟨by decide +kernel, by decide +kernel, by decide +kernel⟩, rfl, hB_in 80 rfl (by decide +kernel)⟩
abbrev cCo_find : ByteArray := prog_2_method_2_code
def yCo_find : MethodName := ⟨RCo, "find", "(LMergeRows$Row;LMergeRows$Row;)V"⟩
set_option maxRecDepth 20000 in
theorem kCo_find : hcV yCo_find cCo_find 6 none 2 := ⟨hB_in 403 rfl (by decide +kernel), hB_in 29 rfl (by decide +kernel), ⟨by decide +kernel, by decide +kernel, by decide +kernel⟩, hB_in 401 rfl (by decide +kernel), hB_in 402 rfl (by decide +kernel)⟩
abbrev cCo_measure : ByteArray := prog_2_method_3_code
def yCo_measure : MethodName := ⟨RCo, "measure", "(LMergeRows$Row;LMergeRows$Row;)V"⟩
set_option maxRecDepth 20000 in
theorem kCo_measure : hcV yCo_measure cCo_measure 6 none 2 := ⟨hB_in 407 rfl (by decide +kernel), hB_in 29 rfl (by decide +kernel), ⟨by decide +kernel, by decide +kernel, by decide +kernel⟩, hB_in 406 rfl (by decide +kernel), hB_in 2 rfl (by decide +kernel)⟩
abbrev cCo_clearEnds : ByteArray := prog_2_method_4_code
def yCo_clearEnds : MethodName := ⟨RCo, "clearEnds", "(II)V"⟩
set_option maxRecDepth 20000 in
theorem kCo_clearEnds : hcV yCo_clearEnds cCo_clearEnds 4 none 2 := ⟨hB_in 411 rfl (by decide +kernel), hB_in 29 rfl (by decide +kernel), ⟨by decide +kernel, by decide +kernel, by decide +kernel⟩, hB_in 410 rfl (by decide +kernel), hB_in 3 rfl (by decide +kernel)⟩
abbrev cCo_losesNoPair : ByteArray := prog_2_method_5_code
def yCo_losesNoPair : MethodName := ⟨RCo, "losesNoPair", "(III)Z"⟩
set_option maxRecDepth 20000 in
theorem kCo_losesNoPair : hcV yCo_losesNoPair cCo_losesNoPair 5 (some .boolean) 3 := ⟨hB_in 422 rfl (by decide +kernel), hB_in 29 rfl (by decide +kernel), ⟨by decide +kernel, by decide +kernel, by decide +kernel⟩, hB_in 421 rfl (by decide +kernel), hB_in 4 rfl (by decide +kernel)⟩
abbrev cCo_addPair : ByteArray := prog_2_method_6_code
def yCo_addPair : MethodName := ⟨RCo, "addPair", "(II)V"⟩
set_option maxRecDepth 20000 in
theorem kCo_addPair : hcV yCo_addPair cCo_addPair 3 none 2 := ⟨hB_in 426 rfl (by decide +kernel), hB_in 29 rfl (by decide +kernel), ⟨by decide +kernel, by decide +kernel, by decide +kernel⟩, hB_in 425 rfl (by decide +kernel), hB_in 5 rfl (by decide +kernel)⟩
abbrev cHu_init : ByteArray := prog_3_method_1_code
def yHu_init : MethodName := ⟨RHu, "<init>", "(LMergeRows$Common;)V"⟩
set_option maxRecDepth 20000 in
theorem kHu_init : hcI yHu_init cHu_init 2 1 := ⟨hB_in 112 rfl (by decide +kernel), hB_in 30 rfl (by decide +kernel), ⟨by decide +kernel, by decide +kernel, by decide +kernel⟩, rfl, hB_in 111 rfl (by decide +kernel)⟩
abbrev cHu_find : ByteArray := prog_3_method_2_code
def yHu_find : MethodName := ⟨RHu, "find", "(LMergeRows$Row;LMergeRows$Row;)V"⟩
set_option maxRecDepth 20000 in
theorem kHu_find : hcV yHu_find cHu_find 6 none 2 := ⟨hB_in 445 rfl (by decide +kernel), hB_in 30 rfl (by decide +kernel), ⟨by decide +kernel, by decide +kernel, by decide +kernel⟩, hB_in 443 rfl (by decide +kernel), hB_in 444 rfl (by decide +kernel)⟩
abbrev cHu_addUnlessEmpty : ByteArray := prog_3_method_3_code
def yHu_addUnlessEmpty : MethodName := ⟨RHu, "addUnlessEmpty", "(IIII)V"⟩
set_option maxRecDepth 20000 in
theorem kHu_addUnlessEmpty : hcV yHu_addUnlessEmpty cHu_addUnlessEmpty 6 none 4 := ⟨hB_in 450 rfl (by decide +kernel), hB_in 30 rfl (by decide +kernel), ⟨by decide +kernel, by decide +kernel, by decide +kernel⟩, hB_in 449 rfl (by decide +kernel), hB_in 6 rfl (by decide +kernel)⟩
abbrev cMg_init : ByteArray := prog_4_method_1_code
def yMg_init : MethodName := ⟨RMg, "<init>", "(LMergeRows$Common;LMergeRows$Common;)V"⟩
set_option maxRecDepth 20000 in
theorem kMg_init : hcI yMg_init cMg_init 3 2 := ⟨hB_in 179 rfl (by decide +kernel), hB_in 33 rfl (by decide +kernel), ⟨by decide +kernel, by decide +kernel, by decide +kernel⟩, rfl, hB_in 178 rfl (by decide +kernel)⟩
abbrev cMg_run : ByteArray := prog_4_method_2_code
def yMg_run : MethodName := ⟨RMg, "run", "(LMergeRows$Row;LMergeRows$Row;LMergeRows$Row;)V"⟩
set_option maxRecDepth 20000 in
theorem kMg_run : hcV yMg_run cMg_run 4 none 3 := ⟨hB_in 469 rfl (by decide +kernel), hB_in 33 rfl (by decide +kernel), ⟨by decide +kernel, by decide +kernel, by decide +kernel⟩, hB_in 467 rfl (by decide +kernel), hB_in 468 rfl (by decide +kernel)⟩
abbrev cMg_mergeUpToAnchors : ByteArray := prog_4_method_3_code
def yMg_mergeUpToAnchors : MethodName := ⟨RMg, "mergeUpToAnchors", "(LMergeRows$Row;)V"⟩
set_option maxRecDepth 20000 in
theorem kMg_mergeUpToAnchors : hcV yMg_mergeUpToAnchors cMg_mergeUpToAnchors 5 none 1 := ⟨hB_in 478 rfl (by decide +kernel), hB_in 33 rfl (by decide +kernel), ⟨by decide +kernel, by decide +kernel, by decide +kernel⟩, hB_in 477 rfl (by decide +kernel), hB_in 7 rfl (by decide +kernel)⟩
abbrev cMg_stepPartsOverAnchor : ByteArray := prog_4_method_4_code
def yMg_stepPartsOverAnchor : MethodName := ⟨RMg, "stepPartsOverAnchor", "()V"⟩
set_option maxRecDepth 20000 in
theorem kMg_stepPartsOverAnchor : hcV yMg_stepPartsOverAnchor cMg_stepPartsOverAnchor 1 none 0 := ⟨hB_in 509 rfl (by decide +kernel), hB_in 33 rfl (by decide +kernel), ⟨by decide +kernel, by decide +kernel, by decide +kernel⟩, hB_in 508 rfl (by decide +kernel), hB_in 11 rfl (by decide +kernel)⟩
abbrev cMg_mergeParts : ByteArray := prog_4_method_5_code
def yMg_mergeParts : MethodName := ⟨RMg, "mergeParts", "(III)V"⟩
set_option maxRecDepth 20000 in
theorem kMg_mergeParts : hcV yMg_mergeParts cMg_mergeParts 4 none 3 := ⟨hB_in 482 rfl (by decide +kernel), hB_in 33 rfl (by decide +kernel), ⟨by decide +kernel, by decide +kernel, by decide +kernel⟩, hB_in 481 rfl (by decide +kernel), hB_in 8 rfl (by decide +kernel)⟩
abbrev cMg_take : ByteArray := prog_4_method_6_code
def yMg_take : MethodName := ⟨RMg, "take", "(LMergeRows$Part;)V"⟩
set_option maxRecDepth 20000 in
theorem kMg_take : hcV yMg_take cMg_take 2 none 1 := ⟨hB_in 494 rfl (by decide +kernel), hB_in 33 rfl (by decide +kernel), ⟨by decide +kernel, by decide +kernel, by decide +kernel⟩, hB_in 493 rfl (by decide +kernel), hB_in 9 rfl (by decide +kernel)⟩
abbrev cMg_addConflict : ByteArray := prog_4_method_7_code
def yMg_addConflict : MethodName := ⟨RMg, "addConflict", "()V"⟩
set_option maxRecDepth 20000 in
theorem kMg_addConflict : hcV yMg_addConflict cMg_addConflict 2 none 0 := ⟨hB_in 503 rfl (by decide +kernel), hB_in 33 rfl (by decide +kernel), ⟨by decide +kernel, by decide +kernel, by decide +kernel⟩, hB_in 502 rfl (by decide +kernel), hB_in 10 rfl (by decide +kernel)⟩
abbrev cPa_init : ByteArray := prog_5_method_1_code
def yPa_init : MethodName := ⟨RPa, "<init>", "()V"⟩
set_option maxRecDepth 20000 in
theorem kPa_init : hcI yPa_init cPa_init 1 0 := ⟨hB_in 187 rfl (by decide +kernel), hB_in 34 rfl (by decide +kernel), ⟨by decide +kernel, by decide +kernel, by decide +kernel⟩, rfl, hB_in 186 rfl (by decide +kernel)⟩
abbrev cPa_startOn : ByteArray := prog_5_method_2_code
def yPa_startOn : MethodName := ⟨RPa, "startOn", "(LMergeRows$Row;)V"⟩
set_option maxRecDepth 20000 in
theorem kPa_startOn : hcV yPa_startOn cPa_startOn 2 none 1 := ⟨hB_in 474 rfl (by decide +kernel), hB_in 34 rfl (by decide +kernel), ⟨by decide +kernel, by decide +kernel, by decide +kernel⟩, hB_in 472 rfl (by decide +kernel), hB_in 473 rfl (by decide +kernel)⟩
abbrev cPa_stepOverAnchor : ByteArray := prog_5_method_3_code
def yPa_stepOverAnchor : MethodName := ⟨RPa, "stepOverAnchor", "()V"⟩
set_option maxRecDepth 20000 in
theorem kPa_stepOverAnchor : hcV yPa_stepOverAnchor cPa_stepOverAnchor 1 none 0 := ⟨hB_in 513 rfl (by decide +kernel), hB_in 34 rfl (by decide +kernel), ⟨by decide +kernel, by decide +kernel, by decide +kernel⟩, hB_in 511 rfl (by decide +kernel), hB_in 512 rfl (by decide +kernel)⟩
abbrev cPa_length : ByteArray := prog_5_method_4_code
def yPa_length : MethodName := ⟨RPa, "length", "()I"⟩
set_option maxRecDepth 20000 in
theorem kPa_length : hcV yPa_length cPa_length 1 (some .int) 0 := ⟨hB_in 490 rfl (by decide +kernel), hB_in 34 rfl (by decide +kernel), ⟨by decide +kernel, by decide +kernel, by decide +kernel⟩, hB_in 488 rfl (by decide +kernel), hB_in 489 rfl (by decide +kernel)⟩
abbrev cPa_isLike : ByteArray := prog_5_method_5_code
def yPa_isLike : MethodName := ⟨RPa, "isLike", "(LMergeRows$Part;)Z"⟩
set_option maxRecDepth 20000 in
theorem kPa_isLike : hcV yPa_isLike cPa_isLike 3 (some .boolean) 1 := ⟨hB_in 486 rfl (by decide +kernel), hB_in 34 rfl (by decide +kernel), ⟨by decide +kernel, by decide +kernel, by decide +kernel⟩, hB_in 484 rfl (by decide +kernel), hB_in 485 rfl (by decide +kernel)⟩
abbrev cPg_init : ByteArray := prog_6_method_1_code
def yPg_init : MethodName := ⟨RPg, "<init>", "(LMergeRows$Hunks;)V"⟩
set_option maxRecDepth 20000 in
theorem kPg_init : hcI yPg_init cPg_init 2 1 := ⟨hB_in 132 rfl (by decide +kernel), hB_in 31 rfl (by decide +kernel), ⟨by decide +kernel, by decide +kernel, by decide +kernel⟩, rfl, hB_in 131 rfl (by decide +kernel)⟩
abbrev cPg_run : ByteArray := prog_6_method_2_code
def yPg_run : MethodName := ⟨RPg, "run", "(LMergeRows$Row;LMergeRows$Row;LMergeRows$Row;)V"⟩
set_option maxRecDepth 20000 in
theorem kPg_run : hcV yPg_run cPg_run 12 none 3 := ⟨hB_in 541 rfl (by decide +kernel), hB_in 31 rfl (by decide +kernel), ⟨by decide +kernel, by decide +kernel, by decide +kernel⟩, hB_in 539 rfl (by decide +kernel), hB_in 540 rfl (by decide +kernel)⟩
abbrev cPg_nearestFit : ByteArray := prog_6_method_3_code
def yPg_nearestFit : MethodName := ⟨RPg, "nearestFit", "(LMergeRows$Row;IILMergeRows$Row;II)I"⟩
set_option maxRecDepth 20000 in
theorem kPg_nearestFit : hcS yPg_nearestFit cPg_nearestFit 9 (some .int) 6 := ⟨hB_in 545 rfl (by decide +kernel), hB_in 31 rfl (by decide +kernel), ⟨by decide +kernel, by decide +kernel, by decide +kernel⟩, hB_in 544 rfl (by decide +kernel)⟩
abbrev cPg_fits : ByteArray := prog_6_method_4_code
def yPg_fits : MethodName := ⟨RPg, "fits", "(LMergeRows$Row;IILMergeRows$Row;I)Z"⟩
set_option maxRecDepth 20000 in
theorem kPg_fits : hcS yPg_fits cPg_fits 8 (some .boolean) 5 := ⟨hB_in 551 rfl (by decide +kernel), hB_in 31 rfl (by decide +kernel), ⟨by decide +kernel, by decide +kernel, by decide +kernel⟩, hB_in 550 rfl (by decide +kernel)⟩
abbrev cRo_init : ByteArray := prog_7_method_1_code
def yRo_init : MethodName := ⟨RRo, "<init>", "(I)V"⟩
set_option maxRecDepth 20000 in
theorem kRo_init : hcI yRo_init cRo_init 2 1 := ⟨hB_in 56 rfl (by decide +kernel), hB_in 28 rfl (by decide +kernel), ⟨by decide +kernel, by decide +kernel, by decide +kernel⟩, rfl, hB_in 55 rfl (by decide +kernel)⟩
abbrev cRo_add : ByteArray := prog_7_method_2_code
def yRo_add : MethodName := ⟨RRo, "add", "(I)V"⟩
set_option maxRecDepth 20000 in
theorem kRo_add : hcV yRo_add cRo_add 2 none 1 := ⟨hB_in 354 rfl (by decide +kernel), hB_in 28 rfl (by decide +kernel), ⟨by decide +kernel, by decide +kernel, by decide +kernel⟩, hB_in 352 rfl (by decide +kernel), hB_in 353 rfl (by decide +kernel)⟩
abbrev cRo_addPart : ByteArray := prog_7_method_3_code
def yRo_addPart : MethodName := ⟨RRo, "addPart", "(LMergeRows$Row;II)V"⟩
set_option maxRecDepth 20000 in
theorem kRo_addPart : hcV yRo_addPart cRo_addPart 5 none 3 := ⟨hB_in 498 rfl (by decide +kernel), hB_in 28 rfl (by decide +kernel), ⟨by decide +kernel, by decide +kernel, by decide +kernel⟩, hB_in 496 rfl (by decide +kernel), hB_in 497 rfl (by decide +kernel)⟩
abbrev cRo_become : ByteArray := prog_7_method_4_code
def yRo_become : MethodName := ⟨RRo, "become", "(LMergeRows$Row;)V"⟩
set_option maxRecDepth 20000 in
theorem kRo_become : hcV yRo_become cRo_become 2 none 1 := ⟨hB_in 521 rfl (by decide +kernel), hB_in 28 rfl (by decide +kernel), ⟨by decide +kernel, by decide +kernel, by decide +kernel⟩, hB_in 519 rfl (by decide +kernel), hB_in 520 rfl (by decide +kernel)⟩
abbrev cRo_hasAt : ByteArray := prog_7_method_5_code
def yRo_hasAt : MethodName := ⟨RRo, "hasAt", "(II)Z"⟩
set_option maxRecDepth 20000 in
theorem kRo_hasAt : hcV yRo_hasAt cRo_hasAt 3 (some .boolean) 2 := ⟨hB_in 559 rfl (by decide +kernel), hB_in 28 rfl (by decide +kernel), ⟨by decide +kernel, by decide +kernel, by decide +kernel⟩, hB_in 557 rfl (by decide +kernel), hB_in 558 rfl (by decide +kernel)⟩
abbrev cRo_firstPlaceOf : ByteArray := prog_7_method_6_code
def yRo_firstPlaceOf : MethodName := ⟨RRo, "firstPlaceOf", "(II)I"⟩
set_option maxRecDepth 20000 in
theorem kRo_firstPlaceOf : hcV yRo_firstPlaceOf cRo_firstPlaceOf 4 (some .int) 2 := ⟨hB_in 418 rfl (by decide +kernel), hB_in 28 rfl (by decide +kernel), ⟨by decide +kernel, by decide +kernel, by decide +kernel⟩, hB_in 416 rfl (by decide +kernel), hB_in 417 rfl (by decide +kernel)⟩
abbrev cVe_init : ByteArray := prog_8_method_1_code
def yVe_init : MethodName := ⟨RVe, "<init>", "(LMergeRows$Common;)V"⟩
set_option maxRecDepth 20000 in
theorem kVe_init : hcI yVe_init cVe_init 2 1 := ⟨hB_in 152 rfl (by decide +kernel), hB_in 32 rfl (by decide +kernel), ⟨by decide +kernel, by decide +kernel, by decide +kernel⟩, rfl, hB_in 151 rfl (by decide +kernel)⟩
abbrev cVe_add : ByteArray := prog_8_method_2_code
def yVe_add : MethodName := ⟨RVe, "add", "(LMergeRows$Row;)V"⟩
set_option maxRecDepth 20000 in
theorem kVe_add : hcV yVe_add cVe_add 2 none 1 := ⟨hB_in 572 rfl (by decide +kernel), hB_in 32 rfl (by decide +kernel), ⟨by decide +kernel, by decide +kernel, by decide +kernel⟩, hB_in 570 rfl (by decide +kernel), hB_in 571 rfl (by decide +kernel)⟩
abbrev cVe_fillOrigins : ByteArray := prog_8_method_3_code
def yVe_fillOrigins : MethodName := ⟨RVe, "fillOrigins", "(LMergeRows$Row;)V"⟩
set_option maxRecDepth 20000 in
theorem kVe_fillOrigins : hcV yVe_fillOrigins cVe_fillOrigins 4 none 1 := ⟨hB_in 576 rfl (by decide +kernel), hB_in 32 rfl (by decide +kernel), ⟨by decide +kernel, by decide +kernel, by decide +kernel⟩, hB_in 575 rfl (by decide +kernel), hB_in 12 rfl (by decide +kernel)⟩
abbrev cLa_put : ByteArray := method_3_code
def yLa_put : MethodName := ⟨RLa, "put", "(LMergeRows;II[J)I"⟩
abbrev cLa_clear : ByteArray := method_4_code
def yLa_clear : MethodName := ⟨RLa, "clear", "(LMergeRows;I)I"⟩
abbrev cLa_size : ByteArray := method_5_code
def yLa_size : MethodName := ⟨RLa, "size", "(LMergeRows;I[J)I"⟩
abbrev cLa_get : ByteArray := method_6_code
def yLa_get : MethodName := ⟨RLa, "get", "(LMergeRows;II[J)I"⟩
abbrev cLa_common : ByteArray := method_7_code
def yLa_common : MethodName := ⟨RLa, "common", "(LMergeRows;II[J)I"⟩
abbrev cLa_pair : ByteArray := method_8_code
def yLa_pair : MethodName := ⟨RLa, "pair", "(LMergeRows;II[J)I"⟩
abbrev cLa_hunks : ByteArray := method_9_code
def yLa_hunks : MethodName := ⟨RLa, "hunks", "(LMergeRows;II[J)I"⟩
abbrev cLa_hunk : ByteArray := method_10_code
def yLa_hunk : MethodName := ⟨RLa, "hunk", "(LMergeRows;II[J)I"⟩
abbrev cLa_merge : ByteArray := method_11_code
def yLa_merge : MethodName := ⟨RLa, "merge", "(LMergeRows;IIII[J)I"⟩
abbrev cLa_conflict : ByteArray := method_12_code
def yLa_conflict : MethodName := ⟨RLa, "conflict", "(LMergeRows;II[J)I"⟩
abbrev cLa_patch : ByteArray := method_13_code
def yLa_patch : MethodName := ⟨RLa, "patch", "(LMergeRows;IIII[J)I"⟩
abbrev cLa_commit : ByteArray := method_14_code
def yLa_commit : MethodName := ⟨RLa, "commit", "(LMergeRows;I[J)I"⟩
abbrev cLa_origin : ByteArray := method_15_code
def yLa_origin : MethodName := ⟨RLa, "origin", "(LMergeRows;II[J)I"⟩
abbrev cLa_law : ByteArray := code
def yLa_law : MethodName := ⟨RLa, "law", "([I)Z"⟩
set_option maxRecDepth 20000 in
theorem lm_MR_3 : (Jvm.Cond.methodLink "MergeRows" (3 : Nat) ({ cls := "java/lang/Object", name := "<init>", desc := "()V" } : Jvm.MethodName)) ∈ hB := hB_in 48 rfl (by decide +kernel)
set_option maxRecDepth 20000 in
theorem lc_MR_9 : (Jvm.Cond.classLink "MergeRows" (9 : Nat) "MergeRows$Row") ∈ hB := hB_in 51 rfl (by decide +kernel)
set_option maxRecDepth 20000 in
theorem lf_MR_11 : (Jvm.Cond.fieldLink "MergeRows" (11 : Nat) "MergeRows" "rows" "[LMergeRows$Row;") ∈ hB := hB_in 232 rfl (by decide +kernel)
set_option maxRecDepth 20000 in
theorem lm_MR_15 : (Jvm.Cond.methodLink "MergeRows" (15 : Nat) ({ cls := "MergeRows$Row", name := "<init>", desc := "(I)V" } : Jvm.MethodName)) ∈ hB := hB_in 54 rfl (by decide +kernel)
set_option maxRecDepth 20000 in
theorem lc_MR_18 : (Jvm.Cond.classLink "MergeRows" (18 : Nat) "MergeRows$Common") ∈ hB := hB_in 77 rfl (by decide +kernel)
set_option maxRecDepth 20000 in
theorem lm_MR_20 : (Jvm.Cond.methodLink "MergeRows" (20 : Nat) ({ cls := "MergeRows$Common", name := "<init>", desc := "([I)V" } : Jvm.MethodName)) ∈ hB := hB_in 79 rfl (by decide +kernel)
set_option maxRecDepth 20000 in
theorem lf_MR_23 : (Jvm.Cond.fieldLink "MergeRows" (23 : Nat) "MergeRows" "latestCommon" "LMergeRows$Common;") ∈ hB := hB_in 233 rfl (by decide +kernel)
set_option maxRecDepth 20000 in
theorem lc_MR_27 : (Jvm.Cond.classLink "MergeRows" (27 : Nat) "MergeRows$Hunks") ∈ hB := hB_in 108 rfl (by decide +kernel)
set_option maxRecDepth 20000 in
theorem lm_MR_29 : (Jvm.Cond.methodLink "MergeRows" (29 : Nat) ({ cls := "MergeRows$Hunks", name := "<init>", desc := "(LMergeRows$Common;)V" } : Jvm.MethodName)) ∈ hB := hB_in 110 rfl (by decide +kernel)
set_option maxRecDepth 20000 in
theorem lf_MR_32 : (Jvm.Cond.fieldLink "MergeRows" (32 : Nat) "MergeRows" "latestHunks" "LMergeRows$Hunks;") ∈ hB := hB_in 234 rfl (by decide +kernel)
set_option maxRecDepth 20000 in
theorem lc_MR_36 : (Jvm.Cond.classLink "MergeRows" (36 : Nat) "MergeRows$Patching") ∈ hB := hB_in 128 rfl (by decide +kernel)
set_option maxRecDepth 20000 in
theorem lm_MR_38 : (Jvm.Cond.methodLink "MergeRows" (38 : Nat) ({ cls := "MergeRows$Patching", name := "<init>", desc := "(LMergeRows$Hunks;)V" } : Jvm.MethodName)) ∈ hB := hB_in 130 rfl (by decide +kernel)
set_option maxRecDepth 20000 in
theorem lf_MR_41 : (Jvm.Cond.fieldLink "MergeRows" (41 : Nat) "MergeRows" "patching" "LMergeRows$Patching;") ∈ hB := hB_in 235 rfl (by decide +kernel)
set_option maxRecDepth 20000 in
theorem lc_MR_45 : (Jvm.Cond.classLink "MergeRows" (45 : Nat) "MergeRows$Versions") ∈ hB := hB_in 148 rfl (by decide +kernel)
set_option maxRecDepth 20000 in
theorem lm_MR_47 : (Jvm.Cond.methodLink "MergeRows" (47 : Nat) ({ cls := "MergeRows$Versions", name := "<init>", desc := "(LMergeRows$Common;)V" } : Jvm.MethodName)) ∈ hB := hB_in 150 rfl (by decide +kernel)
set_option maxRecDepth 20000 in
theorem lf_MR_48 : (Jvm.Cond.fieldLink "MergeRows" (48 : Nat) "MergeRows" "versions" "LMergeRows$Versions;") ∈ hB := hB_in 236 rfl (by decide +kernel)
set_option maxRecDepth 20000 in
theorem lc_MR_52 : (Jvm.Cond.classLink "MergeRows" (52 : Nat) "MergeRows$Merging") ∈ hB := hB_in 175 rfl (by decide +kernel)
set_option maxRecDepth 20000 in
theorem lm_MR_54 : (Jvm.Cond.methodLink "MergeRows" (54 : Nat) ({ cls := "MergeRows$Merging", name := "<init>", desc := "(LMergeRows$Common;LMergeRows$Common;)V" } : Jvm.MethodName)) ∈ hB := hB_in 177 rfl (by decide +kernel)
set_option maxRecDepth 20000 in
theorem lf_MR_57 : (Jvm.Cond.fieldLink "MergeRows" (57 : Nat) "MergeRows" "latestMerging" "LMergeRows$Merging;") ∈ hB := hB_in 237 rfl (by decide +kernel)
set_option maxRecDepth 20000 in
theorem lf_MR_61 : (Jvm.Cond.fieldLink "MergeRows" (61 : Nat) "MergeRows" "spareMerging" "LMergeRows$Merging;") ∈ hB := hB_in 238 rfl (by decide +kernel)
set_option maxRecDepth 20000 in
theorem lm_MR_64 : (Jvm.Cond.methodLink "MergeRows" (64 : Nat) ({ cls := "MergeRows", name := "rowAt", desc := "(I)LMergeRows$Row;" } : Jvm.MethodName)) ∈ hB := hB_in 263 rfl (by decide +kernel)
set_option maxRecDepth 20000 in
theorem lf_MR_68 : (Jvm.Cond.fieldLink "MergeRows" (68 : Nat) "MergeRows$Row" "count" "I") ∈ hB := hB_in 65 rfl (by decide +kernel)
set_option maxRecDepth 20000 in
theorem lm_MR_79 : (Jvm.Cond.methodLink "MergeRows" (79 : Nat) ({ cls := "MergeRows$Row", name := "add", desc := "(I)V" } : Jvm.MethodName)) ∈ hB := hB_in 351 rfl (by decide +kernel)
set_option maxRecDepth 20000 in
theorem lf_MR_87 : (Jvm.Cond.fieldLink "MergeRows" (87 : Nat) "MergeRows$Row" "lines" "[I") ∈ hB := hB_in 63 rfl (by decide +kernel)
set_option maxRecDepth 20000 in
theorem lm_MR_91 : (Jvm.Cond.methodLink "MergeRows" (91 : Nat) ({ cls := "MergeRows$Common", name := "find", desc := "(LMergeRows$Row;LMergeRows$Row;)V" } : Jvm.MethodName)) ∈ hB := hB_in 400 rfl (by decide +kernel)
set_option maxRecDepth 20000 in
theorem lf_MR_95 : (Jvm.Cond.fieldLink "MergeRows" (95 : Nat) "MergeRows$Common" "count" "I") ∈ hB := hB_in 97 rfl (by decide +kernel)
set_option maxRecDepth 20000 in
theorem lf_MR_98 : (Jvm.Cond.fieldLink "MergeRows" (98 : Nat) "MergeRows$Common" "placesA" "[I") ∈ hB := hB_in 87 rfl (by decide +kernel)
set_option maxRecDepth 20000 in
theorem lf_MR_101 : (Jvm.Cond.fieldLink "MergeRows" (101 : Nat) "MergeRows$Common" "placesB" "[I") ∈ hB := hB_in 92 rfl (by decide +kernel)
set_option maxRecDepth 20000 in
theorem lm_MR_104 : (Jvm.Cond.methodLink "MergeRows" (104 : Nat) ({ cls := "MergeRows$Hunks", name := "find", desc := "(LMergeRows$Row;LMergeRows$Row;)V" } : Jvm.MethodName)) ∈ hB := hB_in 442 rfl (by decide +kernel)
set_option maxRecDepth 20000 in
theorem lf_MR_105 : (Jvm.Cond.fieldLink "MergeRows" (105 : Nat) "MergeRows$Hunks" "count" "I") ∈ hB := hB_in 119 rfl (by decide +kernel)
set_option maxRecDepth 20000 in
theorem lf_MR_108 : (Jvm.Cond.fieldLink "MergeRows" (108 : Nat) "MergeRows$Hunks" "cells" "[I") ∈ hB := hB_in 116 rfl (by decide +kernel)
set_option maxRecDepth 20000 in
theorem lm_MR_111 : (Jvm.Cond.methodLink "MergeRows" (111 : Nat) ({ cls := "MergeRows$Merging", name := "run", desc := "(LMergeRows$Row;LMergeRows$Row;LMergeRows$Row;)V" } : Jvm.MethodName)) ∈ hB := hB_in 466 rfl (by decide +kernel)
set_option maxRecDepth 20000 in
theorem lf_MR_115 : (Jvm.Cond.fieldLink "MergeRows" (115 : Nat) "MergeRows$Merging" "outcome" "LMergeRows$Row;") ∈ hB := hB_in 205 rfl (by decide +kernel)
set_option maxRecDepth 20000 in
theorem lm_MR_119 : (Jvm.Cond.methodLink "MergeRows" (119 : Nat) ({ cls := "MergeRows", name := "fillWithOutcome", desc := "(LMergeRows$Row;LMergeRows$Row;)V" } : Jvm.MethodName)) ∈ hB := hB_in 514 rfl (by decide +kernel)
set_option maxRecDepth 20000 in
theorem lf_MR_122 : (Jvm.Cond.fieldLink "MergeRows" (122 : Nat) "MergeRows$Merging" "conflictCount" "I") ∈ hB := hB_in 209 rfl (by decide +kernel)
set_option maxRecDepth 20000 in
theorem lf_MR_127 : (Jvm.Cond.fieldLink "MergeRows" (127 : Nat) "MergeRows$Merging" "conflictCells" "[I") ∈ hB := hB_in 207 rfl (by decide +kernel)
set_option maxRecDepth 20000 in
theorem lm_MR_130 : (Jvm.Cond.methodLink "MergeRows" (130 : Nat) ({ cls := "MergeRows$Patching", name := "run", desc := "(LMergeRows$Row;LMergeRows$Row;LMergeRows$Row;)V" } : Jvm.MethodName)) ∈ hB := hB_in 538 rfl (by decide +kernel)
set_option maxRecDepth 20000 in
theorem lf_MR_131 : (Jvm.Cond.fieldLink "MergeRows" (131 : Nat) "MergeRows$Patching" "outcome" "LMergeRows$Row;") ∈ hB := hB_in 137 rfl (by decide +kernel)
set_option maxRecDepth 20000 in
theorem lf_MR_132 : (Jvm.Cond.fieldLink "MergeRows" (132 : Nat) "MergeRows$Patching" "rejected" "I") ∈ hB := hB_in 139 rfl (by decide +kernel)
set_option maxRecDepth 20000 in
theorem lf_MR_135 : (Jvm.Cond.fieldLink "MergeRows" (135 : Nat) "MergeRows$Versions" "count" "I") ∈ hB := hB_in 161 rfl (by decide +kernel)
set_option maxRecDepth 20000 in
theorem lm_MR_138 : (Jvm.Cond.methodLink "MergeRows" (138 : Nat) ({ cls := "MergeRows$Versions", name := "add", desc := "(LMergeRows$Row;)V" } : Jvm.MethodName)) ∈ hB := hB_in 569 rfl (by decide +kernel)
set_option maxRecDepth 20000 in
theorem lf_MR_146 : (Jvm.Cond.fieldLink "MergeRows" (146 : Nat) "MergeRows$Versions" "sizes" "[I") ∈ hB := hB_in 157 rfl (by decide +kernel)
set_option maxRecDepth 20000 in
theorem lf_MR_149 : (Jvm.Cond.fieldLink "MergeRows" (149 : Nat) "MergeRows$Versions" "origins" "[I") ∈ hB := hB_in 159 rfl (by decide +kernel)
set_option maxRecDepth 20000 in
theorem lm_MR_156 : (Jvm.Cond.methodLink "MergeRows" (156 : Nat) ({ cls := "MergeRows$Row", name := "become", desc := "(LMergeRows$Row;)V" } : Jvm.MethodName)) ∈ hB := hB_in 518 rfl (by decide +kernel)
set_option maxRecDepth 20000 in
theorem lm_MM_1 : (Jvm.Cond.methodLink "MergeRowsModel" (1 : Nat) ({ cls := "java/lang/Object", name := "<init>", desc := "()V" } : Jvm.MethodName)) ∈ hB := hB_in 592 rfl (by decide +kernel)
set_option maxRecDepth 20000 in
theorem lf_MM_7 : (Jvm.Cond.fieldLink "MergeRowsModel" (7 : Nat) "MergeRowsModel" "sizes" "[I") ∈ hB := hB_in 594 rfl (by decide +kernel)
set_option maxRecDepth 20000 in
theorem lf_MM_13 : (Jvm.Cond.fieldLink "MergeRowsModel" (13 : Nat) "MergeRowsModel" "lines" "[I") ∈ hB := hB_in 595 rfl (by decide +kernel)
set_option maxRecDepth 20000 in
theorem lf_MM_16 : (Jvm.Cond.fieldLink "MergeRowsModel" (16 : Nat) "MergeRowsModel" "x" "[I") ∈ hB := hB_in 598 rfl (by decide +kernel)
set_option maxRecDepth 20000 in
theorem lf_MM_19 : (Jvm.Cond.fieldLink "MergeRowsModel" (19 : Nat) "MergeRowsModel" "y" "[I") ∈ hB := hB_in 599 rfl (by decide +kernel)
set_option maxRecDepth 20000 in
theorem lf_MM_22 : (Jvm.Cond.fieldLink "MergeRowsModel" (22 : Nat) "MergeRowsModel" "best" "[I") ∈ hB := hB_in 600 rfl (by decide +kernel)
set_option maxRecDepth 20000 in
theorem lf_MM_25 : (Jvm.Cond.fieldLink "MergeRowsModel" (25 : Nat) "MergeRowsModel" "partner" "[I") ∈ hB := hB_in 601 rfl (by decide +kernel)
set_option maxRecDepth 20000 in
theorem lf_MM_28 : (Jvm.Cond.fieldLink "MergeRowsModel" (28 : Nat) "MergeRowsModel" "pairA" "[I") ∈ hB := hB_in 603 rfl (by decide +kernel)
set_option maxRecDepth 20000 in
theorem lf_MM_31 : (Jvm.Cond.fieldLink "MergeRowsModel" (31 : Nat) "MergeRowsModel" "pairB" "[I") ∈ hB := hB_in 604 rfl (by decide +kernel)
set_option maxRecDepth 20000 in
theorem lf_MM_34 : (Jvm.Cond.fieldLink "MergeRowsModel" (34 : Nat) "MergeRowsModel" "hunk" "[I") ∈ hB := hB_in 606 rfl (by decide +kernel)
set_option maxRecDepth 20000 in
theorem lf_MM_37 : (Jvm.Cond.fieldLink "MergeRowsModel" (37 : Nat) "MergeRowsModel" "part" "[I") ∈ hB := hB_in 608 rfl (by decide +kernel)
set_option maxRecDepth 20000 in
theorem lf_MM_40 : (Jvm.Cond.fieldLink "MergeRowsModel" (40 : Nat) "MergeRowsModel" "fresh" "[I") ∈ hB := hB_in 611 rfl (by decide +kernel)
set_option maxRecDepth 20000 in
theorem lf_MM_43 : (Jvm.Cond.fieldLink "MergeRowsModel" (43 : Nat) "MergeRowsModel" "left" "[I") ∈ hB := hB_in 612 rfl (by decide +kernel)
set_option maxRecDepth 20000 in
theorem lf_MM_46 : (Jvm.Cond.fieldLink "MergeRowsModel" (46 : Nat) "MergeRowsModel" "right" "[I") ∈ hB := hB_in 613 rfl (by decide +kernel)
set_option maxRecDepth 20000 in
theorem lf_MM_49 : (Jvm.Cond.fieldLink "MergeRowsModel" (49 : Nat) "MergeRowsModel" "conflict" "[I") ∈ hB := hB_in 615 rfl (by decide +kernel)
set_option maxRecDepth 20000 in
theorem lf_MM_52 : (Jvm.Cond.fieldLink "MergeRowsModel" (52 : Nat) "MergeRowsModel" "newConflict" "[I") ∈ hB := hB_in 617 rfl (by decide +kernel)
set_option maxRecDepth 20000 in
theorem lf_MM_55 : (Jvm.Cond.fieldLink "MergeRowsModel" (55 : Nat) "MergeRowsModel" "versionSizes" "[I") ∈ hB := hB_in 619 rfl (by decide +kernel)
set_option maxRecDepth 20000 in
theorem lf_MM_58 : (Jvm.Cond.fieldLink "MergeRowsModel" (58 : Nat) "MergeRowsModel" "versionLines" "[I") ∈ hB := hB_in 620 rfl (by decide +kernel)
set_option maxRecDepth 20000 in
theorem lf_MM_61 : (Jvm.Cond.fieldLink "MergeRowsModel" (61 : Nat) "MergeRowsModel" "origins" "[I") ∈ hB := hB_in 621 rfl (by decide +kernel)
set_option maxRecDepth 20000 in
theorem lf_MM_64 : (Jvm.Cond.fieldLink "MergeRowsModel" (64 : Nat) "MergeRowsModel" "thrown" "I") ∈ hB := hB_in 593 rfl (by decide +kernel)
set_option maxRecDepth 20000 in
theorem lm_MM_68 : (Jvm.Cond.methodLink "MergeRowsModel" (68 : Nat) ({ cls := "MergeRowsModel", name := "isRow", desc := "(I)Z" } : Jvm.MethodName)) ∈ hB := hB_in 689 rfl (by decide +kernel)
set_option maxRecDepth 20000 in
theorem lm_MM_72 : (Jvm.Cond.methodLink "MergeRowsModel" (72 : Nat) ({ cls := "MergeRowsModel", name := "refuse", desc := "(ZZ)Z" } : Jvm.MethodName)) ∈ hB := hB_in 692 rfl (by decide +kernel)
set_option maxRecDepth 20000 in
theorem lf_MM_76 : (Jvm.Cond.fieldLink "MergeRowsModel" (76 : Nat) "MergeRowsModel" "xs" "I") ∈ hB := hB_in 596 rfl (by decide +kernel)
set_option maxRecDepth 20000 in
theorem lf_MM_79 : (Jvm.Cond.fieldLink "MergeRowsModel" (79 : Nat) "MergeRowsModel" "ys" "I") ∈ hB := hB_in 597 rfl (by decide +kernel)
set_option maxRecDepth 20000 in
theorem lm_MM_82 : (Jvm.Cond.methodLink "MergeRowsModel" (82 : Nat) ({ cls := "MergeRowsModel", name := "first", desc := "([III)V" } : Jvm.MethodName)) ∈ hB := hB_in 716 rfl (by decide +kernel)
set_option maxRecDepth 20000 in
theorem lm_MM_86 : (Jvm.Cond.methodLink "MergeRowsModel" (86 : Nat) ({ cls := "MergeRowsModel", name := "second", desc := "([III)V" } : Jvm.MethodName)) ∈ hB := hB_in 720 rfl (by decide +kernel)
set_option maxRecDepth 20000 in
theorem lm_MM_89 : (Jvm.Cond.methodLink "MergeRowsModel" (89 : Nat) ({ cls := "MergeRowsModel", name := "rows", desc := "(II)V" } : Jvm.MethodName)) ∈ hB := hB_in 712 rfl (by decide +kernel)
set_option maxRecDepth 20000 in
theorem lm_MM_93 : (Jvm.Cond.methodLink "MergeRowsModel" (93 : Nat) ({ cls := "MergeRowsModel", name := "compare", desc := "()V" } : Jvm.MethodName)) ∈ hB := hB_in 724 rfl (by decide +kernel)
set_option maxRecDepth 20000 in
theorem lf_MM_96 : (Jvm.Cond.fieldLink "MergeRowsModel" (96 : Nat) "MergeRowsModel" "pairs" "I") ∈ hB := hB_in 602 rfl (by decide +kernel)
set_option maxRecDepth 20000 in
theorem lf_MM_99 : (Jvm.Cond.fieldLink "MergeRowsModel" (99 : Nat) "MergeRowsModel" "parts" "I") ∈ hB := hB_in 607 rfl (by decide +kernel)
set_option maxRecDepth 20000 in
theorem lm_MM_102 : (Jvm.Cond.methodLink "MergeRowsModel" (102 : Nat) ({ cls := "MergeRowsModel", name := "addPart", desc := "(IIII)V" } : Jvm.MethodName)) ∈ hB := hB_in 740 rfl (by decide +kernel)
set_option maxRecDepth 20000 in
theorem lm_MM_106 : (Jvm.Cond.methodLink "MergeRowsModel" (106 : Nat) ({ cls := "MergeRowsModel", name := "cut", desc := "()V" } : Jvm.MethodName)) ∈ hB := hB_in 736 rfl (by decide +kernel)
set_option maxRecDepth 20000 in
theorem lf_MM_109 : (Jvm.Cond.fieldLink "MergeRowsModel" (109 : Nat) "MergeRowsModel" "hunks" "I") ∈ hB := hB_in 605 rfl (by decide +kernel)
set_option maxRecDepth 20000 in
theorem lf_MM_112 : (Jvm.Cond.fieldLink "MergeRowsModel" (112 : Nat) "MergeRowsModel" "made" "I") ∈ hB := hB_in 609 rfl (by decide +kernel)
set_option maxRecDepth 20000 in
theorem lf_MM_115 : (Jvm.Cond.fieldLink "MergeRowsModel" (115 : Nat) "MergeRowsModel" "tooLong" "Z") ∈ hB := hB_in 610 rfl (by decide +kernel)
set_option maxRecDepth 20000 in
theorem lm_MM_119 : (Jvm.Cond.methodLink "MergeRowsModel" (119 : Nat) ({ cls := "MergeRowsModel", name := "write", desc := "(I)V" } : Jvm.MethodName)) ∈ hB := hB_in 764 rfl (by decide +kernel)
set_option maxRecDepth 20000 in
theorem lm_MM_123 : (Jvm.Cond.methodLink "MergeRowsModel" (123 : Nat) ({ cls := "MergeRowsModel", name := "alike", desc := "(IIIIII)Z" } : Jvm.MethodName)) ∈ hB := hB_in 756 rfl (by decide +kernel)
set_option maxRecDepth 20000 in
theorem lm_MM_127 : (Jvm.Cond.methodLink "MergeRowsModel" (127 : Nat) ({ cls := "MergeRowsModel", name := "writePart", desc := "(III)V" } : Jvm.MethodName)) ∈ hB := hB_in 760 rfl (by decide +kernel)
set_option maxRecDepth 20000 in
theorem lf_MM_131 : (Jvm.Cond.fieldLink "MergeRowsModel" (131 : Nat) "MergeRowsModel" "news" "I") ∈ hB := hB_in 616 rfl (by decide +kernel)
set_option maxRecDepth 20000 in
theorem lm_MM_134 : (Jvm.Cond.methodLink "MergeRowsModel" (134 : Nat) ({ cls := "MergeRowsModel", name := "joinParts", desc := "(IIIIIIIII)V" } : Jvm.MethodName)) ∈ hB := hB_in 752 rfl (by decide +kernel)
set_option maxRecDepth 20000 in
theorem lm_MM_138 : (Jvm.Cond.methodLink "MergeRowsModel" (138 : Nat) ({ cls := "MergeRowsModel", name := "become", desc := "(I)V" } : Jvm.MethodName)) ∈ hB := hB_in 768 rfl (by decide +kernel)
set_option maxRecDepth 20000 in
theorem lf_MM_141 : (Jvm.Cond.fieldLink "MergeRowsModel" (141 : Nat) "MergeRowsModel" "conflicts" "I") ∈ hB := hB_in 614 rfl (by decide +kernel)
set_option maxRecDepth 20000 in
theorem lm_MM_144 : (Jvm.Cond.methodLink "MergeRowsModel" (144 : Nat) ({ cls := "MergeRowsModel", name := "apart", desc := "(II)I" } : Jvm.MethodName)) ∈ hB := hB_in 780 rfl (by decide +kernel)
set_option maxRecDepth 20000 in
theorem lm_MM_148 : (Jvm.Cond.methodLink "MergeRowsModel" (148 : Nat) ({ cls := "MergeRowsModel", name := "fits", desc := "(III)Z" } : Jvm.MethodName)) ∈ hB := hB_in 783 rfl (by decide +kernel)
set_option maxRecDepth 20000 in
theorem lf_MM_152 : (Jvm.Cond.fieldLink "MergeRowsModel" (152 : Nat) "MergeRowsModel" "versions" "I") ∈ hB := hB_in 618 rfl (by decide +kernel)
set_option maxRecDepth 20000 in
theorem lm_Co_3 : (Jvm.Cond.methodLink "MergeRows$Common" (3 : Nat) ({ cls := "java/lang/Object", name := "<init>", desc := "()V" } : Jvm.MethodName)) ∈ hB := hB_in 82 rfl (by decide +kernel)
set_option maxRecDepth 20000 in
theorem lf_Co_9 : (Jvm.Cond.fieldLink "MergeRows$Common" (9 : Nat) "MergeRows$Common" "placesA" "[I") ∈ hB := hB_in 83 rfl (by decide +kernel)
set_option maxRecDepth 20000 in
theorem lf_Co_15 : (Jvm.Cond.fieldLink "MergeRows$Common" (15 : Nat) "MergeRows$Common" "placesB" "[I") ∈ hB := hB_in 88 rfl (by decide +kernel)
set_option maxRecDepth 20000 in
theorem lf_Co_18 : (Jvm.Cond.fieldLink "MergeRows$Common" (18 : Nat) "MergeRows$Common" "count" "I") ∈ hB := hB_in 93 rfl (by decide +kernel)
set_option maxRecDepth 20000 in
theorem lf_Co_22 : (Jvm.Cond.fieldLink "MergeRows$Common" (22 : Nat) "MergeRows$Common" "lengths" "[I") ∈ hB := hB_in 98 rfl (by decide +kernel)
set_option maxRecDepth 20000 in
theorem lm_Co_25 : (Jvm.Cond.methodLink "MergeRows$Common" (25 : Nat) ({ cls := "MergeRows$Common", name := "measure", desc := "(LMergeRows$Row;LMergeRows$Row;)V" } : Jvm.MethodName)) ∈ hB := hB_in 404 rfl (by decide +kernel)
set_option maxRecDepth 20000 in
theorem lf_Co_29 : (Jvm.Cond.fieldLink "MergeRows$Common" (29 : Nat) "MergeRows$Row" "count" "I") ∈ hB := hB_in 67 rfl (by decide +kernel)
set_option maxRecDepth 20000 in
theorem lf_Co_32 : (Jvm.Cond.fieldLink "MergeRows$Common" (32 : Nat) "MergeRows$Row" "lines" "[I") ∈ hB := hB_in 59 rfl (by decide +kernel)
set_option maxRecDepth 20000 in
theorem lm_Co_35 : (Jvm.Cond.methodLink "MergeRows$Common" (35 : Nat) ({ cls := "MergeRows$Row", name := "firstPlaceOf", desc := "(II)I" } : Jvm.MethodName)) ∈ hB := hB_in 415 rfl (by decide +kernel)
set_option maxRecDepth 20000 in
theorem lm_Co_39 : (Jvm.Cond.methodLink "MergeRows$Common" (39 : Nat) ({ cls := "MergeRows$Common", name := "losesNoPair", desc := "(III)Z" } : Jvm.MethodName)) ∈ hB := hB_in 419 rfl (by decide +kernel)
set_option maxRecDepth 20000 in
theorem lm_Co_43 : (Jvm.Cond.methodLink "MergeRows$Common" (43 : Nat) ({ cls := "MergeRows$Common", name := "addPair", desc := "(II)V" } : Jvm.MethodName)) ∈ hB := hB_in 423 rfl (by decide +kernel)
set_option maxRecDepth 20000 in
theorem lm_Co_47 : (Jvm.Cond.methodLink "MergeRows$Common" (47 : Nat) ({ cls := "MergeRows$Common", name := "clearEnds", desc := "(II)V" } : Jvm.MethodName)) ∈ hB := hB_in 408 rfl (by decide +kernel)
set_option maxRecDepth 20000 in
theorem lm_Co_50 : (Jvm.Cond.methodLink "MergeRows$Common" (50 : Nat) ({ cls := "java/lang/Math", name := "max", desc := "(II)I" } : Jvm.MethodName)) ∈ hB := hB_in 412 rfl (by decide +kernel)
set_option maxRecDepth 20000 in
theorem lm_Hu_3 : (Jvm.Cond.methodLink "MergeRows$Hunks" (3 : Nat) ({ cls := "java/lang/Object", name := "<init>", desc := "()V" } : Jvm.MethodName)) ∈ hB := hB_in 113 rfl (by decide +kernel)
set_option maxRecDepth 20000 in
theorem lf_Hu_11 : (Jvm.Cond.fieldLink "MergeRows$Hunks" (11 : Nat) "MergeRows$Hunks" "cells" "[I") ∈ hB := hB_in 114 rfl (by decide +kernel)
set_option maxRecDepth 20000 in
theorem lf_Hu_15 : (Jvm.Cond.fieldLink "MergeRows$Hunks" (15 : Nat) "MergeRows$Hunks" "count" "I") ∈ hB := hB_in 117 rfl (by decide +kernel)
set_option maxRecDepth 20000 in
theorem lf_Hu_19 : (Jvm.Cond.fieldLink "MergeRows$Hunks" (19 : Nat) "MergeRows$Hunks" "common" "LMergeRows$Common;") ∈ hB := hB_in 120 rfl (by decide +kernel)
set_option maxRecDepth 20000 in
theorem lm_Hu_23 : (Jvm.Cond.methodLink "MergeRows$Hunks" (23 : Nat) ({ cls := "MergeRows$Common", name := "find", desc := "(LMergeRows$Row;LMergeRows$Row;)V" } : Jvm.MethodName)) ∈ hB := hB_in 446 rfl (by decide +kernel)
set_option maxRecDepth 20000 in
theorem lf_Hu_29 : (Jvm.Cond.fieldLink "MergeRows$Hunks" (29 : Nat) "MergeRows$Common" "count" "I") ∈ hB := hB_in 94 rfl (by decide +kernel)
set_option maxRecDepth 20000 in
theorem lf_Hu_30 : (Jvm.Cond.fieldLink "MergeRows$Hunks" (30 : Nat) "MergeRows$Common" "placesA" "[I") ∈ hB := hB_in 84 rfl (by decide +kernel)
set_option maxRecDepth 20000 in
theorem lf_Hu_33 : (Jvm.Cond.fieldLink "MergeRows$Hunks" (33 : Nat) "MergeRows$Common" "placesB" "[I") ∈ hB := hB_in 89 rfl (by decide +kernel)
set_option maxRecDepth 20000 in
theorem lm_Hu_36 : (Jvm.Cond.methodLink "MergeRows$Hunks" (36 : Nat) ({ cls := "MergeRows$Hunks", name := "addUnlessEmpty", desc := "(IIII)V" } : Jvm.MethodName)) ∈ hB := hB_in 447 rfl (by decide +kernel)
set_option maxRecDepth 20000 in
theorem lf_Hu_40 : (Jvm.Cond.fieldLink "MergeRows$Hunks" (40 : Nat) "MergeRows$Row" "count" "I") ∈ hB := hB_in 70 rfl (by decide +kernel)
set_option maxRecDepth 20000 in
theorem lm_Mg_3 : (Jvm.Cond.methodLink "MergeRows$Merging" (3 : Nat) ({ cls := "java/lang/Object", name := "<init>", desc := "()V" } : Jvm.MethodName)) ∈ hB := hB_in 180 rfl (by decide +kernel)
set_option maxRecDepth 20000 in
theorem lc_Mg_9 : (Jvm.Cond.classLink "MergeRows$Merging" (9 : Nat) "MergeRows$Row") ∈ hB := hB_in 181 rfl (by decide +kernel)
set_option maxRecDepth 20000 in
theorem lm_Mg_11 : (Jvm.Cond.methodLink "MergeRows$Merging" (11 : Nat) ({ cls := "MergeRows$Row", name := "<init>", desc := "(I)V" } : Jvm.MethodName)) ∈ hB := hB_in 182 rfl (by decide +kernel)
set_option maxRecDepth 20000 in
theorem lf_Mg_14 : (Jvm.Cond.fieldLink "MergeRows$Merging" (14 : Nat) "MergeRows$Merging" "outcome" "LMergeRows$Row;") ∈ hB := hB_in 204 rfl (by decide +kernel)
set_option maxRecDepth 20000 in
theorem lf_Mg_20 : (Jvm.Cond.fieldLink "MergeRows$Merging" (20 : Nat) "MergeRows$Merging" "conflictCells" "[I") ∈ hB := hB_in 206 rfl (by decide +kernel)
set_option maxRecDepth 20000 in
theorem lf_Mg_24 : (Jvm.Cond.fieldLink "MergeRows$Merging" (24 : Nat) "MergeRows$Merging" "conflictCount" "I") ∈ hB := hB_in 208 rfl (by decide +kernel)
set_option maxRecDepth 20000 in
theorem lf_Mg_28 : (Jvm.Cond.fieldLink "MergeRows$Merging" (28 : Nat) "MergeRows$Merging" "baseAndLeft" "LMergeRows$Common;") ∈ hB := hB_in 210 rfl (by decide +kernel)
set_option maxRecDepth 20000 in
theorem lf_Mg_32 : (Jvm.Cond.fieldLink "MergeRows$Merging" (32 : Nat) "MergeRows$Merging" "baseAndRight" "LMergeRows$Common;") ∈ hB := hB_in 211 rfl (by decide +kernel)
set_option maxRecDepth 20000 in
theorem lc_Mg_35 : (Jvm.Cond.classLink "MergeRows$Merging" (35 : Nat) "MergeRows$Part") ∈ hB := hB_in 183 rfl (by decide +kernel)
set_option maxRecDepth 20000 in
theorem lm_Mg_37 : (Jvm.Cond.methodLink "MergeRows$Merging" (37 : Nat) ({ cls := "MergeRows$Part", name := "<init>", desc := "()V" } : Jvm.MethodName)) ∈ hB := hB_in 185 rfl (by decide +kernel)
set_option maxRecDepth 20000 in
theorem lf_Mg_38 : (Jvm.Cond.fieldLink "MergeRows$Merging" (38 : Nat) "MergeRows$Merging" "basePart" "LMergeRows$Part;") ∈ hB := hB_in 212 rfl (by decide +kernel)
set_option maxRecDepth 20000 in
theorem lf_Mg_42 : (Jvm.Cond.fieldLink "MergeRows$Merging" (42 : Nat) "MergeRows$Merging" "leftPart" "LMergeRows$Part;") ∈ hB := hB_in 213 rfl (by decide +kernel)
set_option maxRecDepth 20000 in
theorem lf_Mg_45 : (Jvm.Cond.fieldLink "MergeRows$Merging" (45 : Nat) "MergeRows$Merging" "rightPart" "LMergeRows$Part;") ∈ hB := hB_in 214 rfl (by decide +kernel)
set_option maxRecDepth 20000 in
theorem lm_Mg_48 : (Jvm.Cond.methodLink "MergeRows$Merging" (48 : Nat) ({ cls := "MergeRows$Common", name := "find", desc := "(LMergeRows$Row;LMergeRows$Row;)V" } : Jvm.MethodName)) ∈ hB := hB_in 470 rfl (by decide +kernel)
set_option maxRecDepth 20000 in
theorem lf_Mg_54 : (Jvm.Cond.fieldLink "MergeRows$Merging" (54 : Nat) "MergeRows$Row" "count" "I") ∈ hB := hB_in 68 rfl (by decide +kernel)
set_option maxRecDepth 20000 in
theorem lm_Mg_57 : (Jvm.Cond.methodLink "MergeRows$Merging" (57 : Nat) ({ cls := "MergeRows$Part", name := "startOn", desc := "(LMergeRows$Row;)V" } : Jvm.MethodName)) ∈ hB := hB_in 471 rfl (by decide +kernel)
set_option maxRecDepth 20000 in
theorem lm_Mg_61 : (Jvm.Cond.methodLink "MergeRows$Merging" (61 : Nat) ({ cls := "MergeRows$Merging", name := "mergeUpToAnchors", desc := "(LMergeRows$Row;)V" } : Jvm.MethodName)) ∈ hB := hB_in 475 rfl (by decide +kernel)
set_option maxRecDepth 20000 in
theorem lm_Mg_64 : (Jvm.Cond.methodLink "MergeRows$Merging" (64 : Nat) ({ cls := "MergeRows$Merging", name := "mergeParts", desc := "(III)V" } : Jvm.MethodName)) ∈ hB := hB_in 479 rfl (by decide +kernel)
set_option maxRecDepth 20000 in
theorem lf_Mg_68 : (Jvm.Cond.fieldLink "MergeRows$Merging" (68 : Nat) "MergeRows$Common" "count" "I") ∈ hB := hB_in 95 rfl (by decide +kernel)
set_option maxRecDepth 20000 in
theorem lf_Mg_69 : (Jvm.Cond.fieldLink "MergeRows$Merging" (69 : Nat) "MergeRows$Common" "placesA" "[I") ∈ hB := hB_in 85 rfl (by decide +kernel)
set_option maxRecDepth 20000 in
theorem lf_Mg_72 : (Jvm.Cond.fieldLink "MergeRows$Merging" (72 : Nat) "MergeRows$Common" "placesB" "[I") ∈ hB := hB_in 91 rfl (by decide +kernel)
set_option maxRecDepth 20000 in
theorem lf_Mg_75 : (Jvm.Cond.fieldLink "MergeRows$Merging" (75 : Nat) "MergeRows$Row" "lines" "[I") ∈ hB := hB_in 60 rfl (by decide +kernel)
set_option maxRecDepth 20000 in
theorem lm_Mg_78 : (Jvm.Cond.methodLink "MergeRows$Merging" (78 : Nat) ({ cls := "MergeRows$Row", name := "add", desc := "(I)V" } : Jvm.MethodName)) ∈ hB := hB_in 505 rfl (by decide +kernel)
set_option maxRecDepth 20000 in
theorem lm_Mg_81 : (Jvm.Cond.methodLink "MergeRows$Merging" (81 : Nat) ({ cls := "MergeRows$Merging", name := "stepPartsOverAnchor", desc := "()V" } : Jvm.MethodName)) ∈ hB := hB_in 506 rfl (by decide +kernel)
set_option maxRecDepth 20000 in
theorem lm_Mg_84 : (Jvm.Cond.methodLink "MergeRows$Merging" (84 : Nat) ({ cls := "MergeRows$Part", name := "stepOverAnchor", desc := "()V" } : Jvm.MethodName)) ∈ hB := hB_in 510 rfl (by decide +kernel)
set_option maxRecDepth 20000 in
theorem lf_Mg_87 : (Jvm.Cond.fieldLink "MergeRows$Merging" (87 : Nat) "MergeRows$Part" "end" "I") ∈ hB := hB_in 196 rfl (by decide +kernel)
set_option maxRecDepth 20000 in
theorem lm_Mg_90 : (Jvm.Cond.methodLink "MergeRows$Merging" (90 : Nat) ({ cls := "MergeRows$Part", name := "isLike", desc := "(LMergeRows$Part;)Z" } : Jvm.MethodName)) ∈ hB := hB_in 483 rfl (by decide +kernel)
set_option maxRecDepth 20000 in
theorem lm_Mg_94 : (Jvm.Cond.methodLink "MergeRows$Merging" (94 : Nat) ({ cls := "MergeRows$Merging", name := "take", desc := "(LMergeRows$Part;)V" } : Jvm.MethodName)) ∈ hB := hB_in 491 rfl (by decide +kernel)
set_option maxRecDepth 20000 in
theorem lm_Mg_98 : (Jvm.Cond.methodLink "MergeRows$Merging" (98 : Nat) ({ cls := "MergeRows$Merging", name := "addConflict", desc := "()V" } : Jvm.MethodName)) ∈ hB := hB_in 500 rfl (by decide +kernel)
set_option maxRecDepth 20000 in
theorem lf_Mg_101 : (Jvm.Cond.fieldLink "MergeRows$Merging" (101 : Nat) "MergeRows$Part" "row" "LMergeRows$Row;") ∈ hB := hB_in 192 rfl (by decide +kernel)
set_option maxRecDepth 20000 in
theorem lf_Mg_104 : (Jvm.Cond.fieldLink "MergeRows$Merging" (104 : Nat) "MergeRows$Part" "from" "I") ∈ hB := hB_in 194 rfl (by decide +kernel)
set_option maxRecDepth 20000 in
theorem lm_Mg_107 : (Jvm.Cond.methodLink "MergeRows$Merging" (107 : Nat) ({ cls := "MergeRows$Row", name := "addPart", desc := "(LMergeRows$Row;II)V" } : Jvm.MethodName)) ∈ hB := hB_in 495 rfl (by decide +kernel)
set_option maxRecDepth 20000 in
theorem lm_Mg_111 : (Jvm.Cond.methodLink "MergeRows$Merging" (111 : Nat) ({ cls := "MergeRows$Part", name := "length", desc := "()I" } : Jvm.MethodName)) ∈ hB := hB_in 504 rfl (by decide +kernel)
set_option maxRecDepth 20000 in
theorem lm_Pa_1 : (Jvm.Cond.methodLink "MergeRows$Part" (1 : Nat) ({ cls := "java/lang/Object", name := "<init>", desc := "()V" } : Jvm.MethodName)) ∈ hB := hB_in 188 rfl (by decide +kernel)
set_option maxRecDepth 20000 in
theorem lc_Pa_7 : (Jvm.Cond.classLink "MergeRows$Part" (7 : Nat) "MergeRows$Row") ∈ hB := hB_in 189 rfl (by decide +kernel)
set_option maxRecDepth 20000 in
theorem lm_Pa_9 : (Jvm.Cond.methodLink "MergeRows$Part" (9 : Nat) ({ cls := "MergeRows$Row", name := "<init>", desc := "(I)V" } : Jvm.MethodName)) ∈ hB := hB_in 190 rfl (by decide +kernel)
set_option maxRecDepth 20000 in
theorem lf_Pa_12 : (Jvm.Cond.fieldLink "MergeRows$Part" (12 : Nat) "MergeRows$Part" "row" "LMergeRows$Row;") ∈ hB := hB_in 191 rfl (by decide +kernel)
set_option maxRecDepth 20000 in
theorem lf_Pa_18 : (Jvm.Cond.fieldLink "MergeRows$Part" (18 : Nat) "MergeRows$Part" "from" "I") ∈ hB := hB_in 193 rfl (by decide +kernel)
set_option maxRecDepth 20000 in
theorem lf_Pa_22 : (Jvm.Cond.fieldLink "MergeRows$Part" (22 : Nat) "MergeRows$Part" "end" "I") ∈ hB := hB_in 195 rfl (by decide +kernel)
set_option maxRecDepth 20000 in
theorem lm_Pa_25 : (Jvm.Cond.methodLink "MergeRows$Part" (25 : Nat) ({ cls := "MergeRows$Part", name := "length", desc := "()I" } : Jvm.MethodName)) ∈ hB := hB_in 487 rfl (by decide +kernel)
set_option maxRecDepth 20000 in
theorem lf_Pa_29 : (Jvm.Cond.fieldLink "MergeRows$Part" (29 : Nat) "MergeRows$Row" "lines" "[I") ∈ hB := hB_in 62 rfl (by decide +kernel)
set_option maxRecDepth 20000 in
theorem lm_Pg_3 : (Jvm.Cond.methodLink "MergeRows$Patching" (3 : Nat) ({ cls := "java/lang/Object", name := "<init>", desc := "()V" } : Jvm.MethodName)) ∈ hB := hB_in 133 rfl (by decide +kernel)
set_option maxRecDepth 20000 in
theorem lc_Pg_9 : (Jvm.Cond.classLink "MergeRows$Patching" (9 : Nat) "MergeRows$Row") ∈ hB := hB_in 134 rfl (by decide +kernel)
set_option maxRecDepth 20000 in
theorem lm_Pg_11 : (Jvm.Cond.methodLink "MergeRows$Patching" (11 : Nat) ({ cls := "MergeRows$Row", name := "<init>", desc := "(I)V" } : Jvm.MethodName)) ∈ hB := hB_in 135 rfl (by decide +kernel)
set_option maxRecDepth 20000 in
theorem lf_Pg_14 : (Jvm.Cond.fieldLink "MergeRows$Patching" (14 : Nat) "MergeRows$Patching" "outcome" "LMergeRows$Row;") ∈ hB := hB_in 136 rfl (by decide +kernel)
set_option maxRecDepth 20000 in
theorem lf_Pg_20 : (Jvm.Cond.fieldLink "MergeRows$Patching" (20 : Nat) "MergeRows$Patching" "rejected" "I") ∈ hB := hB_in 138 rfl (by decide +kernel)
set_option maxRecDepth 20000 in
theorem lf_Pg_24 : (Jvm.Cond.fieldLink "MergeRows$Patching" (24 : Nat) "MergeRows$Patching" "hunks" "LMergeRows$Hunks;") ∈ hB := hB_in 140 rfl (by decide +kernel)
set_option maxRecDepth 20000 in
theorem lm_Pg_28 : (Jvm.Cond.methodLink "MergeRows$Patching" (28 : Nat) ({ cls := "MergeRows$Hunks", name := "find", desc := "(LMergeRows$Row;LMergeRows$Row;)V" } : Jvm.MethodName)) ∈ hB := hB_in 542 rfl (by decide +kernel)
set_option maxRecDepth 20000 in
theorem lf_Pg_34 : (Jvm.Cond.fieldLink "MergeRows$Patching" (34 : Nat) "MergeRows$Row" "count" "I") ∈ hB := hB_in 66 rfl (by decide +kernel)
set_option maxRecDepth 20000 in
theorem lf_Pg_37 : (Jvm.Cond.fieldLink "MergeRows$Patching" (37 : Nat) "MergeRows$Hunks" "count" "I") ∈ hB := hB_in 118 rfl (by decide +kernel)
set_option maxRecDepth 20000 in
theorem lf_Pg_38 : (Jvm.Cond.fieldLink "MergeRows$Patching" (38 : Nat) "MergeRows$Hunks" "cells" "[I") ∈ hB := hB_in 115 rfl (by decide +kernel)
set_option maxRecDepth 20000 in
theorem lm_Pg_42 : (Jvm.Cond.methodLink "MergeRows$Patching" (42 : Nat) ({ cls := "MergeRows$Patching", name := "nearestFit", desc := "(LMergeRows$Row;IILMergeRows$Row;II)I" } : Jvm.MethodName)) ∈ hB := hB_in 543 rfl (by decide +kernel)
set_option maxRecDepth 20000 in
theorem lm_Pg_46 : (Jvm.Cond.methodLink "MergeRows$Patching" (46 : Nat) ({ cls := "MergeRows$Row", name := "addPart", desc := "(LMergeRows$Row;II)V" } : Jvm.MethodName)) ∈ hB := hB_in 560 rfl (by decide +kernel)
set_option maxRecDepth 20000 in
theorem lm_Pg_50 : (Jvm.Cond.methodLink "MergeRows$Patching" (50 : Nat) ({ cls := "java/lang/Math", name := "abs", desc := "(I)I" } : Jvm.MethodName)) ∈ hB := hB_in 546 rfl (by decide +kernel)
set_option maxRecDepth 20000 in
theorem lm_Pg_56 : (Jvm.Cond.methodLink "MergeRows$Patching" (56 : Nat) ({ cls := "MergeRows$Patching", name := "fits", desc := "(LMergeRows$Row;IILMergeRows$Row;I)Z" } : Jvm.MethodName)) ∈ hB := hB_in 549 rfl (by decide +kernel)
set_option maxRecDepth 20000 in
theorem lm_Pg_60 : (Jvm.Cond.methodLink "MergeRows$Patching" (60 : Nat) ({ cls := "java/lang/Math", name := "max", desc := "(II)I" } : Jvm.MethodName)) ∈ hB := hB_in 552 rfl (by decide +kernel)
set_option maxRecDepth 20000 in
theorem lm_Pg_64 : (Jvm.Cond.methodLink "MergeRows$Patching" (64 : Nat) ({ cls := "java/lang/Math", name := "min", desc := "(II)I" } : Jvm.MethodName)) ∈ hB := hB_in 553 rfl (by decide +kernel)
set_option maxRecDepth 20000 in
theorem lf_Pg_67 : (Jvm.Cond.fieldLink "MergeRows$Patching" (67 : Nat) "MergeRows$Row" "lines" "[I") ∈ hB := hB_in 61 rfl (by decide +kernel)
set_option maxRecDepth 20000 in
theorem lm_Pg_70 : (Jvm.Cond.methodLink "MergeRows$Patching" (70 : Nat) ({ cls := "MergeRows$Row", name := "hasAt", desc := "(II)Z" } : Jvm.MethodName)) ∈ hB := hB_in 556 rfl (by decide +kernel)
set_option maxRecDepth 20000 in
theorem lm_Ro_3 : (Jvm.Cond.methodLink "MergeRows$Row" (3 : Nat) ({ cls := "java/lang/Object", name := "<init>", desc := "()V" } : Jvm.MethodName)) ∈ hB := hB_in 57 rfl (by decide +kernel)
set_option maxRecDepth 20000 in
theorem lf_Ro_9 : (Jvm.Cond.fieldLink "MergeRows$Row" (9 : Nat) "MergeRows$Row" "lines" "[I") ∈ hB := hB_in 58 rfl (by decide +kernel)
set_option maxRecDepth 20000 in
theorem lf_Ro_15 : (Jvm.Cond.fieldLink "MergeRows$Row" (15 : Nat) "MergeRows$Row" "count" "I") ∈ hB := hB_in 64 rfl (by decide +kernel)
set_option maxRecDepth 20000 in
theorem lm_Ro_19 : (Jvm.Cond.methodLink "MergeRows$Row" (19 : Nat) ({ cls := "MergeRows$Row", name := "add", desc := "(I)V" } : Jvm.MethodName)) ∈ hB := hB_in 499 rfl (by decide +kernel)
set_option maxRecDepth 20000 in
theorem lm_Ro_23 : (Jvm.Cond.methodLink "MergeRows$Row" (23 : Nat) ({ cls := "MergeRows$Row", name := "addPart", desc := "(LMergeRows$Row;II)V" } : Jvm.MethodName)) ∈ hB := hB_in 522 rfl (by decide +kernel)
set_option maxRecDepth 20000 in
theorem lm_Ve_3 : (Jvm.Cond.methodLink "MergeRows$Versions" (3 : Nat) ({ cls := "java/lang/Object", name := "<init>", desc := "()V" } : Jvm.MethodName)) ∈ hB := hB_in 153 rfl (by decide +kernel)
set_option maxRecDepth 20000 in
theorem lf_Ve_9 : (Jvm.Cond.fieldLink "MergeRows$Versions" (9 : Nat) "MergeRows$Versions" "sizes" "[I") ∈ hB := hB_in 156 rfl (by decide +kernel)
set_option maxRecDepth 20000 in
theorem lf_Ve_15 : (Jvm.Cond.fieldLink "MergeRows$Versions" (15 : Nat) "MergeRows$Versions" "origins" "[I") ∈ hB := hB_in 158 rfl (by decide +kernel)
set_option maxRecDepth 20000 in
theorem lf_Ve_18 : (Jvm.Cond.fieldLink "MergeRows$Versions" (18 : Nat) "MergeRows$Versions" "count" "I") ∈ hB := hB_in 160 rfl (by decide +kernel)
set_option maxRecDepth 20000 in
theorem lc_Ve_22 : (Jvm.Cond.classLink "MergeRows$Versions" (22 : Nat) "MergeRows$Row") ∈ hB := hB_in 154 rfl (by decide +kernel)
set_option maxRecDepth 20000 in
theorem lm_Ve_24 : (Jvm.Cond.methodLink "MergeRows$Versions" (24 : Nat) ({ cls := "MergeRows$Row", name := "<init>", desc := "(I)V" } : Jvm.MethodName)) ∈ hB := hB_in 155 rfl (by decide +kernel)
set_option maxRecDepth 20000 in
theorem lf_Ve_27 : (Jvm.Cond.fieldLink "MergeRows$Versions" (27 : Nat) "MergeRows$Versions" "newest" "LMergeRows$Row;") ∈ hB := hB_in 162 rfl (by decide +kernel)
set_option maxRecDepth 20000 in
theorem lf_Ve_31 : (Jvm.Cond.fieldLink "MergeRows$Versions" (31 : Nat) "MergeRows$Versions" "common" "LMergeRows$Common;") ∈ hB := hB_in 163 rfl (by decide +kernel)
set_option maxRecDepth 20000 in
theorem lm_Ve_35 : (Jvm.Cond.methodLink "MergeRows$Versions" (35 : Nat) ({ cls := "MergeRows$Versions", name := "fillOrigins", desc := "(LMergeRows$Row;)V" } : Jvm.MethodName)) ∈ hB := hB_in 573 rfl (by decide +kernel)
set_option maxRecDepth 20000 in
theorem lf_Ve_39 : (Jvm.Cond.fieldLink "MergeRows$Versions" (39 : Nat) "MergeRows$Row" "count" "I") ∈ hB := hB_in 69 rfl (by decide +kernel)
set_option maxRecDepth 20000 in
theorem lm_Ve_40 : (Jvm.Cond.methodLink "MergeRows$Versions" (40 : Nat) ({ cls := "MergeRows$Row", name := "become", desc := "(LMergeRows$Row;)V" } : Jvm.MethodName)) ∈ hB := hB_in 578 rfl (by decide +kernel)
set_option maxRecDepth 20000 in
theorem lm_Ve_43 : (Jvm.Cond.methodLink "MergeRows$Versions" (43 : Nat) ({ cls := "MergeRows$Common", name := "find", desc := "(LMergeRows$Row;LMergeRows$Row;)V" } : Jvm.MethodName)) ∈ hB := hB_in 577 rfl (by decide +kernel)
set_option maxRecDepth 20000 in
theorem lf_Ve_49 : (Jvm.Cond.fieldLink "MergeRows$Versions" (49 : Nat) "MergeRows$Common" "count" "I") ∈ hB := hB_in 96 rfl (by decide +kernel)
set_option maxRecDepth 20000 in
theorem lf_Ve_50 : (Jvm.Cond.fieldLink "MergeRows$Versions" (50 : Nat) "MergeRows$Common" "placesB" "[I") ∈ hB := hB_in 90 rfl (by decide +kernel)
set_option maxRecDepth 20000 in
theorem lf_Ve_53 : (Jvm.Cond.fieldLink "MergeRows$Versions" (53 : Nat) "MergeRows$Common" "placesA" "[I") ∈ hB := hB_in 86 rfl (by decide +kernel)
set_option maxRecDepth 20000 in
theorem lm_La_7 : (Jvm.Cond.methodLink "MergeRowsLaw" (7 : Nat) ({ cls := "MergeRows", name := "put", desc := "(II)I" } : Jvm.MethodName)) ∈ hB := hB_in 259 rfl (by decide +kernel)
set_option maxRecDepth 20000 in
theorem lm_La_17 : (Jvm.Cond.methodLink "MergeRowsLaw" (17 : Nat) ({ cls := "MergeRows", name := "clear", desc := "(I)V" } : Jvm.MethodName)) ∈ hB := hB_in 358 rfl (by decide +kernel)
set_option maxRecDepth 20000 in
theorem lm_La_21 : (Jvm.Cond.methodLink "MergeRowsLaw" (21 : Nat) ({ cls := "MergeRows", name := "size", desc := "(I)I" } : Jvm.MethodName)) ∈ hB := hB_in 365 rfl (by decide +kernel)
set_option maxRecDepth 20000 in
theorem lm_La_25 : (Jvm.Cond.methodLink "MergeRowsLaw" (25 : Nat) ({ cls := "MergeRows", name := "get", desc := "(II)I" } : Jvm.MethodName)) ∈ hB := hB_in 373 rfl (by decide +kernel)
set_option maxRecDepth 20000 in
theorem lm_La_30 : (Jvm.Cond.methodLink "MergeRowsLaw" (30 : Nat) ({ cls := "MergeRows", name := "common", desc := "(II)I" } : Jvm.MethodName)) ∈ hB := hB_in 396 rfl (by decide +kernel)
set_option maxRecDepth 20000 in
theorem lm_La_33 : (Jvm.Cond.methodLink "MergeRowsLaw" (33 : Nat) ({ cls := "MergeRows", name := "pair", desc := "(II)I" } : Jvm.MethodName)) ∈ hB := hB_in 430 rfl (by decide +kernel)
set_option maxRecDepth 20000 in
theorem lm_La_36 : (Jvm.Cond.methodLink "MergeRowsLaw" (36 : Nat) ({ cls := "MergeRows", name := "hunks", desc := "(II)I" } : Jvm.MethodName)) ∈ hB := hB_in 438 rfl (by decide +kernel)
set_option maxRecDepth 20000 in
theorem lm_La_39 : (Jvm.Cond.methodLink "MergeRowsLaw" (39 : Nat) ({ cls := "MergeRows", name := "hunk", desc := "(II)I" } : Jvm.MethodName)) ∈ hB := hB_in 454 rfl (by decide +kernel)
set_option maxRecDepth 20000 in
theorem lm_La_42 : (Jvm.Cond.methodLink "MergeRowsLaw" (42 : Nat) ({ cls := "MergeRows", name := "merge", desc := "(IIII)I" } : Jvm.MethodName)) ∈ hB := hB_in 462 rfl (by decide +kernel)
set_option maxRecDepth 20000 in
theorem lm_La_46 : (Jvm.Cond.methodLink "MergeRowsLaw" (46 : Nat) ({ cls := "MergeRows", name := "conflict", desc := "(II)I" } : Jvm.MethodName)) ∈ hB := hB_in 526 rfl (by decide +kernel)
set_option maxRecDepth 20000 in
theorem lm_La_49 : (Jvm.Cond.methodLink "MergeRowsLaw" (49 : Nat) ({ cls := "MergeRows", name := "patch", desc := "(IIII)I" } : Jvm.MethodName)) ∈ hB := hB_in 534 rfl (by decide +kernel)
set_option maxRecDepth 20000 in
theorem lm_La_52 : (Jvm.Cond.methodLink "MergeRowsLaw" (52 : Nat) ({ cls := "MergeRows", name := "commit", desc := "(I)I" } : Jvm.MethodName)) ∈ hB := hB_in 564 rfl (by decide +kernel)
set_option maxRecDepth 20000 in
theorem lm_La_55 : (Jvm.Cond.methodLink "MergeRowsLaw" (55 : Nat) ({ cls := "MergeRows", name := "origin", desc := "(II)I" } : Jvm.MethodName)) ∈ hB := hB_in 582 rfl (by decide +kernel)
set_option maxRecDepth 20000 in
theorem lm_La_62 : (Jvm.Cond.methodLink "MergeRowsLaw" (62 : Nat) ({ cls := "MergeRowsLaw", name := "put", desc := "(LMergeRows;II[J)I" } : Jvm.MethodName)) ∈ hB := hB_in 254 rfl (by decide +kernel)
set_option maxRecDepth 20000 in
theorem lm_La_67 : (Jvm.Cond.methodLink "MergeRowsLaw" (67 : Nat) ({ cls := "MergeRowsModel", name := "put", desc := "(II)I" } : Jvm.MethodName)) ∈ hB := hB_in 685 rfl (by decide +kernel)
set_option maxRecDepth 20000 in
theorem lm_La_68 : (Jvm.Cond.methodLink "MergeRowsLaw" (68 : Nat) ({ cls := "MergeRowsModel", name := "thrown", desc := "()I" } : Jvm.MethodName)) ∈ hB := hB_in 681 rfl (by decide +kernel)
set_option maxRecDepth 20000 in
theorem lm_La_72 : (Jvm.Cond.methodLink "MergeRowsLaw" (72 : Nat) ({ cls := "MergeRowsLaw", name := "clear", desc := "(LMergeRows;I)I" } : Jvm.MethodName)) ∈ hB := hB_in 355 rfl (by decide +kernel)
set_option maxRecDepth 20000 in
theorem lm_La_75 : (Jvm.Cond.methodLink "MergeRowsLaw" (75 : Nat) ({ cls := "MergeRowsModel", name := "clear", desc := "(I)V" } : Jvm.MethodName)) ∈ hB := hB_in 696 rfl (by decide +kernel)
set_option maxRecDepth 20000 in
theorem lm_La_76 : (Jvm.Cond.methodLink "MergeRowsLaw" (76 : Nat) ({ cls := "MergeRowsLaw", name := "size", desc := "(LMergeRows;I[J)I" } : Jvm.MethodName)) ∈ hB := hB_in 362 rfl (by decide +kernel)
set_option maxRecDepth 20000 in
theorem lm_La_79 : (Jvm.Cond.methodLink "MergeRowsLaw" (79 : Nat) ({ cls := "MergeRowsModel", name := "size", desc := "(I)I" } : Jvm.MethodName)) ∈ hB := hB_in 700 rfl (by decide +kernel)
set_option maxRecDepth 20000 in
theorem lm_La_80 : (Jvm.Cond.methodLink "MergeRowsLaw" (80 : Nat) ({ cls := "MergeRowsLaw", name := "get", desc := "(LMergeRows;II[J)I" } : Jvm.MethodName)) ∈ hB := hB_in 369 rfl (by decide +kernel)
set_option maxRecDepth 20000 in
theorem lm_La_82 : (Jvm.Cond.methodLink "MergeRowsLaw" (82 : Nat) ({ cls := "MergeRowsModel", name := "get", desc := "(II)I" } : Jvm.MethodName)) ∈ hB := hB_in 704 rfl (by decide +kernel)
set_option maxRecDepth 20000 in
theorem lm_La_83 : (Jvm.Cond.methodLink "MergeRowsLaw" (83 : Nat) ({ cls := "MergeRowsLaw", name := "common", desc := "(LMergeRows;II[J)I" } : Jvm.MethodName)) ∈ hB := hB_in 393 rfl (by decide +kernel)
set_option maxRecDepth 20000 in
theorem lm_La_85 : (Jvm.Cond.methodLink "MergeRowsLaw" (85 : Nat) ({ cls := "MergeRowsModel", name := "common", desc := "(II)I" } : Jvm.MethodName)) ∈ hB := hB_in 708 rfl (by decide +kernel)
set_option maxRecDepth 20000 in
theorem lm_La_86 : (Jvm.Cond.methodLink "MergeRowsLaw" (86 : Nat) ({ cls := "MergeRowsLaw", name := "pair", desc := "(LMergeRows;II[J)I" } : Jvm.MethodName)) ∈ hB := hB_in 427 rfl (by decide +kernel)
set_option maxRecDepth 20000 in
theorem lm_La_88 : (Jvm.Cond.methodLink "MergeRowsLaw" (88 : Nat) ({ cls := "MergeRowsModel", name := "pair", desc := "(II)I" } : Jvm.MethodName)) ∈ hB := hB_in 728 rfl (by decide +kernel)
set_option maxRecDepth 20000 in
theorem lm_La_89 : (Jvm.Cond.methodLink "MergeRowsLaw" (89 : Nat) ({ cls := "MergeRowsLaw", name := "hunks", desc := "(LMergeRows;II[J)I" } : Jvm.MethodName)) ∈ hB := hB_in 435 rfl (by decide +kernel)
set_option maxRecDepth 20000 in
theorem lm_La_91 : (Jvm.Cond.methodLink "MergeRowsLaw" (91 : Nat) ({ cls := "MergeRowsModel", name := "hunks", desc := "(II)I" } : Jvm.MethodName)) ∈ hB := hB_in 732 rfl (by decide +kernel)
set_option maxRecDepth 20000 in
theorem lm_La_92 : (Jvm.Cond.methodLink "MergeRowsLaw" (92 : Nat) ({ cls := "MergeRowsLaw", name := "hunk", desc := "(LMergeRows;II[J)I" } : Jvm.MethodName)) ∈ hB := hB_in 451 rfl (by decide +kernel)
set_option maxRecDepth 20000 in
theorem lm_La_94 : (Jvm.Cond.methodLink "MergeRowsLaw" (94 : Nat) ({ cls := "MergeRowsModel", name := "hunk", desc := "(II)I" } : Jvm.MethodName)) ∈ hB := hB_in 744 rfl (by decide +kernel)
set_option maxRecDepth 20000 in
theorem lm_La_95 : (Jvm.Cond.methodLink "MergeRowsLaw" (95 : Nat) ({ cls := "MergeRowsLaw", name := "merge", desc := "(LMergeRows;IIII[J)I" } : Jvm.MethodName)) ∈ hB := hB_in 459 rfl (by decide +kernel)
set_option maxRecDepth 20000 in
theorem lm_La_98 : (Jvm.Cond.methodLink "MergeRowsLaw" (98 : Nat) ({ cls := "MergeRowsModel", name := "merge", desc := "(IIII)I" } : Jvm.MethodName)) ∈ hB := hB_in 748 rfl (by decide +kernel)
set_option maxRecDepth 20000 in
theorem lm_La_99 : (Jvm.Cond.methodLink "MergeRowsLaw" (99 : Nat) ({ cls := "MergeRowsLaw", name := "conflict", desc := "(LMergeRows;II[J)I" } : Jvm.MethodName)) ∈ hB := hB_in 523 rfl (by decide +kernel)
set_option maxRecDepth 20000 in
theorem lm_La_101 : (Jvm.Cond.methodLink "MergeRowsLaw" (101 : Nat) ({ cls := "MergeRowsModel", name := "conflict", desc := "(II)I" } : Jvm.MethodName)) ∈ hB := hB_in 772 rfl (by decide +kernel)
set_option maxRecDepth 20000 in
theorem lm_La_102 : (Jvm.Cond.methodLink "MergeRowsLaw" (102 : Nat) ({ cls := "MergeRowsLaw", name := "patch", desc := "(LMergeRows;IIII[J)I" } : Jvm.MethodName)) ∈ hB := hB_in 531 rfl (by decide +kernel)
set_option maxRecDepth 20000 in
theorem lm_La_104 : (Jvm.Cond.methodLink "MergeRowsLaw" (104 : Nat) ({ cls := "MergeRowsModel", name := "patch", desc := "(IIII)I" } : Jvm.MethodName)) ∈ hB := hB_in 776 rfl (by decide +kernel)
set_option maxRecDepth 20000 in
theorem lm_La_105 : (Jvm.Cond.methodLink "MergeRowsLaw" (105 : Nat) ({ cls := "MergeRowsLaw", name := "commit", desc := "(LMergeRows;I[J)I" } : Jvm.MethodName)) ∈ hB := hB_in 561 rfl (by decide +kernel)
set_option maxRecDepth 20000 in
theorem lm_La_107 : (Jvm.Cond.methodLink "MergeRowsLaw" (107 : Nat) ({ cls := "MergeRowsModel", name := "commit", desc := "(I)I" } : Jvm.MethodName)) ∈ hB := hB_in 787 rfl (by decide +kernel)
set_option maxRecDepth 20000 in
theorem lm_La_108 : (Jvm.Cond.methodLink "MergeRowsLaw" (108 : Nat) ({ cls := "MergeRowsLaw", name := "origin", desc := "(LMergeRows;II[J)I" } : Jvm.MethodName)) ∈ hB := hB_in 579 rfl (by decide +kernel)
set_option maxRecDepth 20000 in
theorem lm_La_110 : (Jvm.Cond.methodLink "MergeRowsLaw" (110 : Nat) ({ cls := "MergeRowsModel", name := "origin", desc := "(II)I" } : Jvm.MethodName)) ∈ hB := hB_in 791 rfl (by decide +kernel)
end
section
theorem dCo_init_0 : decode cCo_init 0 = .ok (.aload_n 0, 1) := by decide +kernel
theorem dCo_init_1 : decode cCo_init 1 = .ok (.invokespecial 3, 3) := by decide +kernel
theorem dCo_init_4 : decode cCo_init 4 = .ok (.aload_n 0, 1) := by decide +kernel
theorem dCo_init_5 : decode cCo_init 5 = .ok (.bipush 60, 2) := by decide +kernel
theorem dCo_init_7 : decode cCo_init 7 = .ok (.newarray .int, 2) := by decide +kernel
theorem dCo_init_9 : decode cCo_init 9 = .ok (.putfield 9, 3) := by decide +kernel
theorem dCo_init_12 : decode cCo_init 12 = .ok (.aload_n 0, 1) := by decide +kernel
theorem dCo_init_13 : decode cCo_init 13 = .ok (.bipush 60, 2) := by decide +kernel
theorem dCo_init_15 : decode cCo_init 15 = .ok (.newarray .int, 2) := by decide +kernel
theorem dCo_init_17 : decode cCo_init 17 = .ok (.putfield 15, 3) := by decide +kernel
theorem dCo_init_20 : decode cCo_init 20 = .ok (.aload_n 0, 1) := by decide +kernel
theorem dCo_init_21 : decode cCo_init 21 = .ok (.iconst 0, 1) := by decide +kernel
theorem dCo_init_22 : decode cCo_init 22 = .ok (.putfield 18, 3) := by decide +kernel
theorem dCo_init_25 : decode cCo_init 25 = .ok (.aload_n 0, 1) := by decide +kernel
theorem dCo_init_26 : decode cCo_init 26 = .ok (.aload_n 1, 1) := by decide +kernel
theorem dCo_init_27 : decode cCo_init 27 = .ok (.putfield 22, 3) := by decide +kernel
theorem dCo_init_30 : decode cCo_init 30 = .ok (.return_, 1) := by decide +kernel
theorem dCo_find_0 : decode cCo_find 0 = .ok (.aload_n 0, 1) := by decide +kernel
theorem dCo_find_1 : decode cCo_find 1 = .ok (.aload_n 1, 1) := by decide +kernel
theorem dCo_find_2 : decode cCo_find 2 = .ok (.aload_n 2, 1) := by decide +kernel
theorem dCo_find_3 : decode cCo_find 3 = .ok (.invokevirtual 25, 3) := by decide +kernel
theorem dCo_find_6 : decode cCo_find 6 = .ok (.aload_n 0, 1) := by decide +kernel
theorem dCo_find_7 : decode cCo_find 7 = .ok (.iconst 0, 1) := by decide +kernel
theorem dCo_find_8 : decode cCo_find 8 = .ok (.putfield 18, 3) := by decide +kernel
theorem dCo_find_11 : decode cCo_find 11 = .ok (.iconst 0, 1) := by decide +kernel
theorem dCo_find_12 : decode cCo_find 12 = .ok (.istore_n 3, 1) := by decide +kernel
theorem dCo_find_13 : decode cCo_find 13 = .ok (.iconst 0, 1) := by decide +kernel
theorem dCo_find_14 : decode cCo_find 14 = .ok (.istore 4, 2) := by decide +kernel
theorem dCo_find_16 : decode cCo_find 16 = .ok (.iload 4, 2) := by decide +kernel
theorem dCo_find_18 : decode cCo_find 18 = .ok (.aload_n 1, 1) := by decide +kernel
theorem dCo_find_19 : decode cCo_find 19 = .ok (.getfield 29, 3) := by decide +kernel
theorem dCo_find_22 : decode cCo_find 22 = .ok (.if_icmp .ge 54, 3) := by decide +kernel
theorem dCo_find_25 : decode cCo_find 25 = .ok (.aload_n 2, 1) := by decide +kernel
theorem dCo_find_26 : decode cCo_find 26 = .ok (.aload_n 1, 1) := by decide +kernel
theorem dCo_find_27 : decode cCo_find 27 = .ok (.getfield 32, 3) := by decide +kernel
theorem dCo_find_30 : decode cCo_find 30 = .ok (.iload 4, 2) := by decide +kernel
theorem dCo_find_32 : decode cCo_find 32 = .ok (.iaload, 1) := by decide +kernel
theorem dCo_find_33 : decode cCo_find 33 = .ok (.iload_n 3, 1) := by decide +kernel
theorem dCo_find_34 : decode cCo_find 34 = .ok (.invokevirtual 35, 3) := by decide +kernel
theorem dCo_find_37 : decode cCo_find 37 = .ok (.istore 5, 2) := by decide +kernel
theorem dCo_find_39 : decode cCo_find 39 = .ok (.iload 5, 2) := by decide +kernel
theorem dCo_find_41 : decode cCo_find 41 = .ok (.iconst (-1), 1) := by decide +kernel
theorem dCo_find_42 : decode cCo_find 42 = .ok (.if_icmp .eq 28, 3) := by decide +kernel
theorem dCo_find_45 : decode cCo_find 45 = .ok (.aload_n 0, 1) := by decide +kernel
theorem dCo_find_46 : decode cCo_find 46 = .ok (.iload 4, 2) := by decide +kernel
theorem dCo_find_48 : decode cCo_find 48 = .ok (.iload_n 3, 1) := by decide +kernel
theorem dCo_find_49 : decode cCo_find 49 = .ok (.iload 5, 2) := by decide +kernel
theorem dCo_find_51 : decode cCo_find 51 = .ok (.invokevirtual 39, 3) := by decide +kernel
theorem dCo_find_54 : decode cCo_find 54 = .ok (.ifCond .eq 16, 3) := by decide +kernel
theorem dCo_find_57 : decode cCo_find 57 = .ok (.aload_n 0, 1) := by decide +kernel
theorem dCo_find_58 : decode cCo_find 58 = .ok (.iload 4, 2) := by decide +kernel
theorem dCo_find_60 : decode cCo_find 60 = .ok (.iload 5, 2) := by decide +kernel
theorem dCo_find_62 : decode cCo_find 62 = .ok (.invokevirtual 43, 3) := by decide +kernel
theorem dCo_find_65 : decode cCo_find 65 = .ok (.iload 5, 2) := by decide +kernel
theorem dCo_find_67 : decode cCo_find 67 = .ok (.iconst 1, 1) := by decide +kernel
theorem dCo_find_68 : decode cCo_find 68 = .ok (.iadd, 1) := by decide +kernel
theorem dCo_find_69 : decode cCo_find 69 = .ok (.istore_n 3, 1) := by decide +kernel
theorem dCo_find_70 : decode cCo_find 70 = .ok (.iinc 4 1, 3) := by decide +kernel
theorem dCo_find_73 : decode cCo_find 73 = .ok (.goto (-57), 3) := by decide +kernel
theorem dCo_find_76 : decode cCo_find 76 = .ok (.return_, 1) := by decide +kernel
theorem dCo_measure_0 : decode cCo_measure 0 = .ok (.aload_n 0, 1) := by decide +kernel
theorem dCo_measure_1 : decode cCo_measure 1 = .ok (.aload_n 1, 1) := by decide +kernel
theorem dCo_measure_2 : decode cCo_measure 2 = .ok (.getfield 29, 3) := by decide +kernel
theorem dCo_measure_5 : decode cCo_measure 5 = .ok (.aload_n 2, 1) := by decide +kernel
theorem dCo_measure_6 : decode cCo_measure 6 = .ok (.getfield 29, 3) := by decide +kernel
theorem dCo_measure_9 : decode cCo_measure 9 = .ok (.invokevirtual 47, 3) := by decide +kernel
theorem dCo_measure_12 : decode cCo_measure 12 = .ok (.aload_n 1, 1) := by decide +kernel
theorem dCo_measure_13 : decode cCo_measure 13 = .ok (.getfield 29, 3) := by decide +kernel
theorem dCo_measure_16 : decode cCo_measure 16 = .ok (.iconst 1, 1) := by decide +kernel
theorem dCo_measure_17 : decode cCo_measure 17 = .ok (.isub, 1) := by decide +kernel
theorem dCo_measure_18 : decode cCo_measure 18 = .ok (.istore_n 3, 1) := by decide +kernel
theorem dCo_measure_19 : decode cCo_measure 19 = .ok (.iload_n 3, 1) := by decide +kernel
theorem dCo_measure_20 : decode cCo_measure 20 = .ok (.ifCond .lt 99, 3) := by decide +kernel
theorem dCo_measure_23 : decode cCo_measure 23 = .ok (.aload_n 2, 1) := by decide +kernel
theorem dCo_measure_24 : decode cCo_measure 24 = .ok (.getfield 29, 3) := by decide +kernel
theorem dCo_measure_27 : decode cCo_measure 27 = .ok (.iconst 1, 1) := by decide +kernel
theorem dCo_measure_28 : decode cCo_measure 28 = .ok (.isub, 1) := by decide +kernel
theorem dCo_measure_29 : decode cCo_measure 29 = .ok (.istore 4, 2) := by decide +kernel
theorem dCo_measure_31 : decode cCo_measure 31 = .ok (.iload 4, 2) := by decide +kernel
theorem dCo_measure_33 : decode cCo_measure 33 = .ok (.ifCond .lt 80, 3) := by decide +kernel
theorem dCo_measure_36 : decode cCo_measure 36 = .ok (.iload_n 3, 1) := by decide +kernel
theorem dCo_measure_37 : decode cCo_measure 37 = .ok (.bipush 61, 2) := by decide +kernel
theorem dCo_measure_39 : decode cCo_measure 39 = .ok (.imul, 1) := by decide +kernel
theorem dCo_measure_40 : decode cCo_measure 40 = .ok (.iload 4, 2) := by decide +kernel
theorem dCo_measure_42 : decode cCo_measure 42 = .ok (.iadd, 1) := by decide +kernel
theorem dCo_measure_43 : decode cCo_measure 43 = .ok (.istore 5, 2) := by decide +kernel
theorem dCo_measure_45 : decode cCo_measure 45 = .ok (.aload_n 0, 1) := by decide +kernel
theorem dCo_measure_46 : decode cCo_measure 46 = .ok (.getfield 22, 3) := by decide +kernel
theorem dCo_measure_49 : decode cCo_measure 49 = .ok (.iload 5, 2) := by decide +kernel
theorem dCo_measure_51 : decode cCo_measure 51 = .ok (.aload_n 1, 1) := by decide +kernel
theorem dCo_measure_52 : decode cCo_measure 52 = .ok (.getfield 32, 3) := by decide +kernel
theorem dCo_measure_55 : decode cCo_measure 55 = .ok (.iload_n 3, 1) := by decide +kernel
theorem dCo_measure_56 : decode cCo_measure 56 = .ok (.iaload, 1) := by decide +kernel
theorem dCo_measure_57 : decode cCo_measure 57 = .ok (.aload_n 2, 1) := by decide +kernel
theorem dCo_measure_58 : decode cCo_measure 58 = .ok (.getfield 32, 3) := by decide +kernel
theorem dCo_measure_61 : decode cCo_measure 61 = .ok (.iload 4, 2) := by decide +kernel
theorem dCo_measure_63 : decode cCo_measure 63 = .ok (.iaload, 1) := by decide +kernel
theorem dCo_measure_64 : decode cCo_measure 64 = .ok (.if_icmp .ne 20, 3) := by decide +kernel
theorem dCo_measure_67 : decode cCo_measure 67 = .ok (.iconst 1, 1) := by decide +kernel
theorem dCo_measure_68 : decode cCo_measure 68 = .ok (.aload_n 0, 1) := by decide +kernel
theorem dCo_measure_69 : decode cCo_measure 69 = .ok (.getfield 22, 3) := by decide +kernel
theorem dCo_measure_72 : decode cCo_measure 72 = .ok (.iload 5, 2) := by decide +kernel
theorem dCo_measure_74 : decode cCo_measure 74 = .ok (.bipush 61, 2) := by decide +kernel
theorem dCo_measure_76 : decode cCo_measure 76 = .ok (.iadd, 1) := by decide +kernel
theorem dCo_measure_77 : decode cCo_measure 77 = .ok (.iconst 1, 1) := by decide +kernel
theorem dCo_measure_78 : decode cCo_measure 78 = .ok (.iadd, 1) := by decide +kernel
theorem dCo_measure_79 : decode cCo_measure 79 = .ok (.iaload, 1) := by decide +kernel
theorem dCo_measure_80 : decode cCo_measure 80 = .ok (.iadd, 1) := by decide +kernel
theorem dCo_measure_81 : decode cCo_measure 81 = .ok (.goto 25, 3) := by decide +kernel
theorem dCo_measure_84 : decode cCo_measure 84 = .ok (.aload_n 0, 1) := by decide +kernel
theorem dCo_measure_85 : decode cCo_measure 85 = .ok (.getfield 22, 3) := by decide +kernel
theorem dCo_measure_88 : decode cCo_measure 88 = .ok (.iload 5, 2) := by decide +kernel
theorem dCo_measure_90 : decode cCo_measure 90 = .ok (.bipush 61, 2) := by decide +kernel
theorem dCo_measure_92 : decode cCo_measure 92 = .ok (.iadd, 1) := by decide +kernel
theorem dCo_measure_93 : decode cCo_measure 93 = .ok (.iaload, 1) := by decide +kernel
theorem dCo_measure_94 : decode cCo_measure 94 = .ok (.aload_n 0, 1) := by decide +kernel
theorem dCo_measure_95 : decode cCo_measure 95 = .ok (.getfield 22, 3) := by decide +kernel
theorem dCo_measure_98 : decode cCo_measure 98 = .ok (.iload 5, 2) := by decide +kernel
theorem dCo_measure_100 : decode cCo_measure 100 = .ok (.iconst 1, 1) := by decide +kernel
theorem dCo_measure_101 : decode cCo_measure 101 = .ok (.iadd, 1) := by decide +kernel
theorem dCo_measure_102 : decode cCo_measure 102 = .ok (.iaload, 1) := by decide +kernel
theorem dCo_measure_103 : decode cCo_measure 103 = .ok (.invokestatic 50, 3) := by decide +kernel
theorem dCo_measure_106 : decode cCo_measure 106 = .ok (.iastore, 1) := by decide +kernel
theorem dCo_measure_107 : decode cCo_measure 107 = .ok (.iinc 4 (-1), 3) := by decide +kernel
theorem dCo_measure_110 : decode cCo_measure 110 = .ok (.goto (-79), 3) := by decide +kernel
theorem dCo_measure_113 : decode cCo_measure 113 = .ok (.iinc 3 (-1), 3) := by decide +kernel
theorem dCo_measure_116 : decode cCo_measure 116 = .ok (.goto (-97), 3) := by decide +kernel
theorem dCo_measure_119 : decode cCo_measure 119 = .ok (.return_, 1) := by decide +kernel
theorem dCo_clearEnds_0 : decode cCo_clearEnds 0 = .ok (.iconst 0, 1) := by decide +kernel
theorem dCo_clearEnds_1 : decode cCo_clearEnds 1 = .ok (.istore_n 3, 1) := by decide +kernel
theorem dCo_clearEnds_2 : decode cCo_clearEnds 2 = .ok (.iload_n 3, 1) := by decide +kernel
theorem dCo_clearEnds_3 : decode cCo_clearEnds 3 = .ok (.iload_n 1, 1) := by decide +kernel
theorem dCo_clearEnds_4 : decode cCo_clearEnds 4 = .ok (.if_icmp .gt 21, 3) := by decide +kernel
theorem dCo_clearEnds_7 : decode cCo_clearEnds 7 = .ok (.aload_n 0, 1) := by decide +kernel
theorem dCo_clearEnds_8 : decode cCo_clearEnds 8 = .ok (.getfield 22, 3) := by decide +kernel
theorem dCo_clearEnds_11 : decode cCo_clearEnds 11 = .ok (.iload_n 3, 1) := by decide +kernel
theorem dCo_clearEnds_12 : decode cCo_clearEnds 12 = .ok (.bipush 61, 2) := by decide +kernel
theorem dCo_clearEnds_14 : decode cCo_clearEnds 14 = .ok (.imul, 1) := by decide +kernel
theorem dCo_clearEnds_15 : decode cCo_clearEnds 15 = .ok (.iload_n 2, 1) := by decide +kernel
theorem dCo_clearEnds_16 : decode cCo_clearEnds 16 = .ok (.iadd, 1) := by decide +kernel
theorem dCo_clearEnds_17 : decode cCo_clearEnds 17 = .ok (.iconst 0, 1) := by decide +kernel
theorem dCo_clearEnds_18 : decode cCo_clearEnds 18 = .ok (.iastore, 1) := by decide +kernel
theorem dCo_clearEnds_19 : decode cCo_clearEnds 19 = .ok (.iinc 3 1, 3) := by decide +kernel
theorem dCo_clearEnds_22 : decode cCo_clearEnds 22 = .ok (.goto (-20), 3) := by decide +kernel
theorem dCo_clearEnds_25 : decode cCo_clearEnds 25 = .ok (.iconst 0, 1) := by decide +kernel
theorem dCo_clearEnds_26 : decode cCo_clearEnds 26 = .ok (.istore_n 3, 1) := by decide +kernel
theorem dCo_clearEnds_27 : decode cCo_clearEnds 27 = .ok (.iload_n 3, 1) := by decide +kernel
theorem dCo_clearEnds_28 : decode cCo_clearEnds 28 = .ok (.iload_n 2, 1) := by decide +kernel
theorem dCo_clearEnds_29 : decode cCo_clearEnds 29 = .ok (.if_icmp .gt 21, 3) := by decide +kernel
theorem dCo_clearEnds_32 : decode cCo_clearEnds 32 = .ok (.aload_n 0, 1) := by decide +kernel
theorem dCo_clearEnds_33 : decode cCo_clearEnds 33 = .ok (.getfield 22, 3) := by decide +kernel
theorem dCo_clearEnds_36 : decode cCo_clearEnds 36 = .ok (.iload_n 1, 1) := by decide +kernel
theorem dCo_clearEnds_37 : decode cCo_clearEnds 37 = .ok (.bipush 61, 2) := by decide +kernel
theorem dCo_clearEnds_39 : decode cCo_clearEnds 39 = .ok (.imul, 1) := by decide +kernel
theorem dCo_clearEnds_40 : decode cCo_clearEnds 40 = .ok (.iload_n 3, 1) := by decide +kernel
theorem dCo_clearEnds_41 : decode cCo_clearEnds 41 = .ok (.iadd, 1) := by decide +kernel
theorem dCo_clearEnds_42 : decode cCo_clearEnds 42 = .ok (.iconst 0, 1) := by decide +kernel
theorem dCo_clearEnds_43 : decode cCo_clearEnds 43 = .ok (.iastore, 1) := by decide +kernel
theorem dCo_clearEnds_44 : decode cCo_clearEnds 44 = .ok (.iinc 3 1, 3) := by decide +kernel
theorem dCo_clearEnds_47 : decode cCo_clearEnds 47 = .ok (.goto (-20), 3) := by decide +kernel
theorem dCo_clearEnds_50 : decode cCo_clearEnds 50 = .ok (.return_, 1) := by decide +kernel
theorem dCo_losesNoPair_0 : decode cCo_losesNoPair 0 = .ok (.aload_n 0, 1) := by decide +kernel
theorem dCo_losesNoPair_1 : decode cCo_losesNoPair 1 = .ok (.getfield 22, 3) := by decide +kernel
theorem dCo_losesNoPair_4 : decode cCo_losesNoPair 4 = .ok (.iload_n 1, 1) := by decide +kernel
theorem dCo_losesNoPair_5 : decode cCo_losesNoPair 5 = .ok (.bipush 61, 2) := by decide +kernel
theorem dCo_losesNoPair_7 : decode cCo_losesNoPair 7 = .ok (.imul, 1) := by decide +kernel
theorem dCo_losesNoPair_8 : decode cCo_losesNoPair 8 = .ok (.iload_n 2, 1) := by decide +kernel
theorem dCo_losesNoPair_9 : decode cCo_losesNoPair 9 = .ok (.iadd, 1) := by decide +kernel
theorem dCo_losesNoPair_10 : decode cCo_losesNoPair 10 = .ok (.iaload, 1) := by decide +kernel
theorem dCo_losesNoPair_11 : decode cCo_losesNoPair 11 = .ok (.istore 4, 2) := by decide +kernel
theorem dCo_losesNoPair_13 : decode cCo_losesNoPair 13 = .ok (.iconst 1, 1) := by decide +kernel
theorem dCo_losesNoPair_14 : decode cCo_losesNoPair 14 = .ok (.aload_n 0, 1) := by decide +kernel
theorem dCo_losesNoPair_15 : decode cCo_losesNoPair 15 = .ok (.getfield 22, 3) := by decide +kernel
theorem dCo_losesNoPair_18 : decode cCo_losesNoPair 18 = .ok (.iload_n 1, 1) := by decide +kernel
theorem dCo_losesNoPair_19 : decode cCo_losesNoPair 19 = .ok (.iconst 1, 1) := by decide +kernel
theorem dCo_losesNoPair_20 : decode cCo_losesNoPair 20 = .ok (.iadd, 1) := by decide +kernel
theorem dCo_losesNoPair_21 : decode cCo_losesNoPair 21 = .ok (.bipush 61, 2) := by decide +kernel
theorem dCo_losesNoPair_23 : decode cCo_losesNoPair 23 = .ok (.imul, 1) := by decide +kernel
theorem dCo_losesNoPair_24 : decode cCo_losesNoPair 24 = .ok (.iload_n 3, 1) := by decide +kernel
theorem dCo_losesNoPair_25 : decode cCo_losesNoPair 25 = .ok (.iadd, 1) := by decide +kernel
theorem dCo_losesNoPair_26 : decode cCo_losesNoPair 26 = .ok (.iconst 1, 1) := by decide +kernel
theorem dCo_losesNoPair_27 : decode cCo_losesNoPair 27 = .ok (.iadd, 1) := by decide +kernel
theorem dCo_losesNoPair_28 : decode cCo_losesNoPair 28 = .ok (.iaload, 1) := by decide +kernel
theorem dCo_losesNoPair_29 : decode cCo_losesNoPair 29 = .ok (.iadd, 1) := by decide +kernel
theorem dCo_losesNoPair_30 : decode cCo_losesNoPair 30 = .ok (.iload 4, 2) := by decide +kernel
theorem dCo_losesNoPair_32 : decode cCo_losesNoPair 32 = .ok (.if_icmp .ne 7, 3) := by decide +kernel
theorem dCo_losesNoPair_35 : decode cCo_losesNoPair 35 = .ok (.iconst 1, 1) := by decide +kernel
theorem dCo_losesNoPair_36 : decode cCo_losesNoPair 36 = .ok (.goto 4, 3) := by decide +kernel
theorem dCo_losesNoPair_39 : decode cCo_losesNoPair 39 = .ok (.iconst 0, 1) := by decide +kernel
theorem dCo_losesNoPair_40 : decode cCo_losesNoPair 40 = .ok (.ireturn, 1) := by decide +kernel
theorem dCo_addPair_0 : decode cCo_addPair 0 = .ok (.aload_n 0, 1) := by decide +kernel
theorem dCo_addPair_1 : decode cCo_addPair 1 = .ok (.getfield 18, 3) := by decide +kernel
theorem dCo_addPair_4 : decode cCo_addPair 4 = .ok (.bipush 60, 2) := by decide +kernel
theorem dCo_addPair_6 : decode cCo_addPair 6 = .ok (.if_icmp .ge 33, 3) := by decide +kernel
theorem dCo_addPair_9 : decode cCo_addPair 9 = .ok (.aload_n 0, 1) := by decide +kernel
theorem dCo_addPair_10 : decode cCo_addPair 10 = .ok (.getfield 9, 3) := by decide +kernel
theorem dCo_addPair_13 : decode cCo_addPair 13 = .ok (.aload_n 0, 1) := by decide +kernel
theorem dCo_addPair_14 : decode cCo_addPair 14 = .ok (.getfield 18, 3) := by decide +kernel
theorem dCo_addPair_17 : decode cCo_addPair 17 = .ok (.iload_n 1, 1) := by decide +kernel
theorem dCo_addPair_18 : decode cCo_addPair 18 = .ok (.iastore, 1) := by decide +kernel
theorem dCo_addPair_19 : decode cCo_addPair 19 = .ok (.aload_n 0, 1) := by decide +kernel
theorem dCo_addPair_20 : decode cCo_addPair 20 = .ok (.getfield 15, 3) := by decide +kernel
theorem dCo_addPair_23 : decode cCo_addPair 23 = .ok (.aload_n 0, 1) := by decide +kernel
theorem dCo_addPair_24 : decode cCo_addPair 24 = .ok (.getfield 18, 3) := by decide +kernel
theorem dCo_addPair_27 : decode cCo_addPair 27 = .ok (.iload_n 2, 1) := by decide +kernel
theorem dCo_addPair_28 : decode cCo_addPair 28 = .ok (.iastore, 1) := by decide +kernel
theorem dCo_addPair_29 : decode cCo_addPair 29 = .ok (.aload_n 0, 1) := by decide +kernel
theorem dCo_addPair_30 : decode cCo_addPair 30 = .ok (.dup, 1) := by decide +kernel
theorem dCo_addPair_31 : decode cCo_addPair 31 = .ok (.getfield 18, 3) := by decide +kernel
theorem dCo_addPair_34 : decode cCo_addPair 34 = .ok (.iconst 1, 1) := by decide +kernel
theorem dCo_addPair_35 : decode cCo_addPair 35 = .ok (.iadd, 1) := by decide +kernel
theorem dCo_addPair_36 : decode cCo_addPair 36 = .ok (.putfield 18, 3) := by decide +kernel
theorem dCo_addPair_39 : decode cCo_addPair 39 = .ok (.return_, 1) := by decide +kernel
theorem dHu_init_0 : decode cHu_init 0 = .ok (.aload_n 0, 1) := by decide +kernel
theorem dHu_init_1 : decode cHu_init 1 = .ok (.invokespecial 3, 3) := by decide +kernel
theorem dHu_init_4 : decode cHu_init 4 = .ok (.aload_n 0, 1) := by decide +kernel
theorem dHu_init_5 : decode cHu_init 5 = .ok (.sipush 244, 3) := by decide +kernel
theorem dHu_init_8 : decode cHu_init 8 = .ok (.newarray .int, 2) := by decide +kernel
theorem dHu_init_10 : decode cHu_init 10 = .ok (.putfield 11, 3) := by decide +kernel
theorem dHu_init_13 : decode cHu_init 13 = .ok (.aload_n 0, 1) := by decide +kernel
theorem dHu_init_14 : decode cHu_init 14 = .ok (.iconst 0, 1) := by decide +kernel
theorem dHu_init_15 : decode cHu_init 15 = .ok (.putfield 15, 3) := by decide +kernel
theorem dHu_init_18 : decode cHu_init 18 = .ok (.aload_n 0, 1) := by decide +kernel
theorem dHu_init_19 : decode cHu_init 19 = .ok (.aload_n 1, 1) := by decide +kernel
theorem dHu_init_20 : decode cHu_init 20 = .ok (.putfield 19, 3) := by decide +kernel
theorem dHu_init_23 : decode cHu_init 23 = .ok (.return_, 1) := by decide +kernel
theorem dHu_find_0 : decode cHu_find 0 = .ok (.aload_n 0, 1) := by decide +kernel
theorem dHu_find_1 : decode cHu_find 1 = .ok (.getfield 19, 3) := by decide +kernel
theorem dHu_find_4 : decode cHu_find 4 = .ok (.aload_n 1, 1) := by decide +kernel
theorem dHu_find_5 : decode cHu_find 5 = .ok (.aload_n 2, 1) := by decide +kernel
theorem dHu_find_6 : decode cHu_find 6 = .ok (.invokevirtual 23, 3) := by decide +kernel
theorem dHu_find_9 : decode cHu_find 9 = .ok (.aload_n 0, 1) := by decide +kernel
theorem dHu_find_10 : decode cHu_find 10 = .ok (.iconst 0, 1) := by decide +kernel
theorem dHu_find_11 : decode cHu_find 11 = .ok (.putfield 15, 3) := by decide +kernel
theorem dHu_find_14 : decode cHu_find 14 = .ok (.iconst 0, 1) := by decide +kernel
theorem dHu_find_15 : decode cHu_find 15 = .ok (.istore_n 3, 1) := by decide +kernel
theorem dHu_find_16 : decode cHu_find 16 = .ok (.iconst 0, 1) := by decide +kernel
theorem dHu_find_17 : decode cHu_find 17 = .ok (.istore 4, 2) := by decide +kernel
theorem dHu_find_19 : decode cHu_find 19 = .ok (.iconst 0, 1) := by decide +kernel
theorem dHu_find_20 : decode cHu_find 20 = .ok (.istore 5, 2) := by decide +kernel
theorem dHu_find_22 : decode cHu_find 22 = .ok (.iload 5, 2) := by decide +kernel
theorem dHu_find_24 : decode cHu_find 24 = .ok (.aload_n 0, 1) := by decide +kernel
theorem dHu_find_25 : decode cHu_find 25 = .ok (.getfield 19, 3) := by decide +kernel
theorem dHu_find_28 : decode cHu_find 28 = .ok (.getfield 29, 3) := by decide +kernel
theorem dHu_find_31 : decode cHu_find 31 = .ok (.if_icmp .ge 63, 3) := by decide +kernel
theorem dHu_find_34 : decode cHu_find 34 = .ok (.aload_n 0, 1) := by decide +kernel
theorem dHu_find_35 : decode cHu_find 35 = .ok (.iload_n 3, 1) := by decide +kernel
theorem dHu_find_36 : decode cHu_find 36 = .ok (.aload_n 0, 1) := by decide +kernel
theorem dHu_find_37 : decode cHu_find 37 = .ok (.getfield 19, 3) := by decide +kernel
theorem dHu_find_40 : decode cHu_find 40 = .ok (.getfield 30, 3) := by decide +kernel
theorem dHu_find_43 : decode cHu_find 43 = .ok (.iload 5, 2) := by decide +kernel
theorem dHu_find_45 : decode cHu_find 45 = .ok (.iaload, 1) := by decide +kernel
theorem dHu_find_46 : decode cHu_find 46 = .ok (.iload 4, 2) := by decide +kernel
theorem dHu_find_48 : decode cHu_find 48 = .ok (.aload_n 0, 1) := by decide +kernel
theorem dHu_find_49 : decode cHu_find 49 = .ok (.getfield 19, 3) := by decide +kernel
theorem dHu_find_52 : decode cHu_find 52 = .ok (.getfield 33, 3) := by decide +kernel
theorem dHu_find_55 : decode cHu_find 55 = .ok (.iload 5, 2) := by decide +kernel
theorem dHu_find_57 : decode cHu_find 57 = .ok (.iaload, 1) := by decide +kernel
theorem dHu_find_58 : decode cHu_find 58 = .ok (.invokevirtual 36, 3) := by decide +kernel
theorem dHu_find_61 : decode cHu_find 61 = .ok (.aload_n 0, 1) := by decide +kernel
theorem dHu_find_62 : decode cHu_find 62 = .ok (.getfield 19, 3) := by decide +kernel
theorem dHu_find_65 : decode cHu_find 65 = .ok (.getfield 30, 3) := by decide +kernel
theorem dHu_find_68 : decode cHu_find 68 = .ok (.iload 5, 2) := by decide +kernel
theorem dHu_find_70 : decode cHu_find 70 = .ok (.iaload, 1) := by decide +kernel
theorem dHu_find_71 : decode cHu_find 71 = .ok (.iconst 1, 1) := by decide +kernel
theorem dHu_find_72 : decode cHu_find 72 = .ok (.iadd, 1) := by decide +kernel
theorem dHu_find_73 : decode cHu_find 73 = .ok (.istore_n 3, 1) := by decide +kernel
theorem dHu_find_74 : decode cHu_find 74 = .ok (.aload_n 0, 1) := by decide +kernel
theorem dHu_find_75 : decode cHu_find 75 = .ok (.getfield 19, 3) := by decide +kernel
theorem dHu_find_78 : decode cHu_find 78 = .ok (.getfield 33, 3) := by decide +kernel
theorem dHu_find_81 : decode cHu_find 81 = .ok (.iload 5, 2) := by decide +kernel
theorem dHu_find_83 : decode cHu_find 83 = .ok (.iaload, 1) := by decide +kernel
theorem dHu_find_84 : decode cHu_find 84 = .ok (.iconst 1, 1) := by decide +kernel
theorem dHu_find_85 : decode cHu_find 85 = .ok (.iadd, 1) := by decide +kernel
theorem dHu_find_86 : decode cHu_find 86 = .ok (.istore 4, 2) := by decide +kernel
theorem dHu_find_88 : decode cHu_find 88 = .ok (.iinc 5 1, 3) := by decide +kernel
theorem dHu_find_91 : decode cHu_find 91 = .ok (.goto (-69), 3) := by decide +kernel
theorem dHu_find_94 : decode cHu_find 94 = .ok (.aload_n 0, 1) := by decide +kernel
theorem dHu_find_95 : decode cHu_find 95 = .ok (.iload_n 3, 1) := by decide +kernel
theorem dHu_find_96 : decode cHu_find 96 = .ok (.aload_n 1, 1) := by decide +kernel
theorem dHu_find_97 : decode cHu_find 97 = .ok (.getfield 40, 3) := by decide +kernel
theorem dHu_find_100 : decode cHu_find 100 = .ok (.iload 4, 2) := by decide +kernel
theorem dHu_find_102 : decode cHu_find 102 = .ok (.aload_n 2, 1) := by decide +kernel
theorem dHu_find_103 : decode cHu_find 103 = .ok (.getfield 40, 3) := by decide +kernel
theorem dHu_find_106 : decode cHu_find 106 = .ok (.invokevirtual 36, 3) := by decide +kernel
theorem dHu_find_109 : decode cHu_find 109 = .ok (.return_, 1) := by decide +kernel
theorem dHu_addUnlessEmpty_0 : decode cHu_addUnlessEmpty 0 = .ok (.iload_n 1, 1) := by decide +kernel
theorem dHu_addUnlessEmpty_1 : decode cHu_addUnlessEmpty 1 = .ok (.iload_n 2, 1) := by decide +kernel
theorem dHu_addUnlessEmpty_2 : decode cHu_addUnlessEmpty 2 = .ok (.if_icmp .lt 9, 3) := by decide +kernel
theorem dHu_addUnlessEmpty_5 : decode cHu_addUnlessEmpty 5 = .ok (.iload_n 3, 1) := by decide +kernel
theorem dHu_addUnlessEmpty_6 : decode cHu_addUnlessEmpty 6 = .ok (.iload 4, 2) := by decide +kernel
theorem dHu_addUnlessEmpty_8 : decode cHu_addUnlessEmpty 8 = .ok (.if_icmp .ge 75, 3) := by decide +kernel
theorem dHu_addUnlessEmpty_11 : decode cHu_addUnlessEmpty 11 = .ok (.aload_n 0, 1) := by decide +kernel
theorem dHu_addUnlessEmpty_12 : decode cHu_addUnlessEmpty 12 = .ok (.getfield 15, 3) := by decide +kernel
theorem dHu_addUnlessEmpty_15 : decode cHu_addUnlessEmpty 15 = .ok (.bipush 61, 2) := by decide +kernel
theorem dHu_addUnlessEmpty_17 : decode cHu_addUnlessEmpty 17 = .ok (.if_icmp .ge 66, 3) := by decide +kernel
theorem dHu_addUnlessEmpty_20 : decode cHu_addUnlessEmpty 20 = .ok (.aload_n 0, 1) := by decide +kernel
theorem dHu_addUnlessEmpty_21 : decode cHu_addUnlessEmpty 21 = .ok (.getfield 15, 3) := by decide +kernel
theorem dHu_addUnlessEmpty_24 : decode cHu_addUnlessEmpty 24 = .ok (.iconst 4, 1) := by decide +kernel
theorem dHu_addUnlessEmpty_25 : decode cHu_addUnlessEmpty 25 = .ok (.imul, 1) := by decide +kernel
theorem dHu_addUnlessEmpty_26 : decode cHu_addUnlessEmpty 26 = .ok (.istore 5, 2) := by decide +kernel
theorem dHu_addUnlessEmpty_28 : decode cHu_addUnlessEmpty 28 = .ok (.aload_n 0, 1) := by decide +kernel
theorem dHu_addUnlessEmpty_29 : decode cHu_addUnlessEmpty 29 = .ok (.getfield 11, 3) := by decide +kernel
theorem dHu_addUnlessEmpty_32 : decode cHu_addUnlessEmpty 32 = .ok (.iload 5, 2) := by decide +kernel
theorem dHu_addUnlessEmpty_34 : decode cHu_addUnlessEmpty 34 = .ok (.iconst 0, 1) := by decide +kernel
theorem dHu_addUnlessEmpty_35 : decode cHu_addUnlessEmpty 35 = .ok (.iadd, 1) := by decide +kernel
theorem dHu_addUnlessEmpty_36 : decode cHu_addUnlessEmpty 36 = .ok (.iload_n 1, 1) := by decide +kernel
theorem dHu_addUnlessEmpty_37 : decode cHu_addUnlessEmpty 37 = .ok (.iastore, 1) := by decide +kernel
theorem dHu_addUnlessEmpty_38 : decode cHu_addUnlessEmpty 38 = .ok (.aload_n 0, 1) := by decide +kernel
theorem dHu_addUnlessEmpty_39 : decode cHu_addUnlessEmpty 39 = .ok (.getfield 11, 3) := by decide +kernel
theorem dHu_addUnlessEmpty_42 : decode cHu_addUnlessEmpty 42 = .ok (.iload 5, 2) := by decide +kernel
theorem dHu_addUnlessEmpty_44 : decode cHu_addUnlessEmpty 44 = .ok (.iconst 1, 1) := by decide +kernel
theorem dHu_addUnlessEmpty_45 : decode cHu_addUnlessEmpty 45 = .ok (.iadd, 1) := by decide +kernel
theorem dHu_addUnlessEmpty_46 : decode cHu_addUnlessEmpty 46 = .ok (.iload_n 2, 1) := by decide +kernel
theorem dHu_addUnlessEmpty_47 : decode cHu_addUnlessEmpty 47 = .ok (.iload_n 1, 1) := by decide +kernel
theorem dHu_addUnlessEmpty_48 : decode cHu_addUnlessEmpty 48 = .ok (.isub, 1) := by decide +kernel
theorem dHu_addUnlessEmpty_49 : decode cHu_addUnlessEmpty 49 = .ok (.iastore, 1) := by decide +kernel
theorem dHu_addUnlessEmpty_50 : decode cHu_addUnlessEmpty 50 = .ok (.aload_n 0, 1) := by decide +kernel
theorem dHu_addUnlessEmpty_51 : decode cHu_addUnlessEmpty 51 = .ok (.getfield 11, 3) := by decide +kernel
theorem dHu_addUnlessEmpty_54 : decode cHu_addUnlessEmpty 54 = .ok (.iload 5, 2) := by decide +kernel
theorem dHu_addUnlessEmpty_56 : decode cHu_addUnlessEmpty 56 = .ok (.iconst 2, 1) := by decide +kernel
theorem dHu_addUnlessEmpty_57 : decode cHu_addUnlessEmpty 57 = .ok (.iadd, 1) := by decide +kernel
theorem dHu_addUnlessEmpty_58 : decode cHu_addUnlessEmpty 58 = .ok (.iload_n 3, 1) := by decide +kernel
theorem dHu_addUnlessEmpty_59 : decode cHu_addUnlessEmpty 59 = .ok (.iastore, 1) := by decide +kernel
theorem dHu_addUnlessEmpty_60 : decode cHu_addUnlessEmpty 60 = .ok (.aload_n 0, 1) := by decide +kernel
theorem dHu_addUnlessEmpty_61 : decode cHu_addUnlessEmpty 61 = .ok (.getfield 11, 3) := by decide +kernel
theorem dHu_addUnlessEmpty_64 : decode cHu_addUnlessEmpty 64 = .ok (.iload 5, 2) := by decide +kernel
theorem dHu_addUnlessEmpty_66 : decode cHu_addUnlessEmpty 66 = .ok (.iconst 3, 1) := by decide +kernel
theorem dHu_addUnlessEmpty_67 : decode cHu_addUnlessEmpty 67 = .ok (.iadd, 1) := by decide +kernel
theorem dHu_addUnlessEmpty_68 : decode cHu_addUnlessEmpty 68 = .ok (.iload 4, 2) := by decide +kernel
theorem dHu_addUnlessEmpty_70 : decode cHu_addUnlessEmpty 70 = .ok (.iload_n 3, 1) := by decide +kernel
theorem dHu_addUnlessEmpty_71 : decode cHu_addUnlessEmpty 71 = .ok (.isub, 1) := by decide +kernel
theorem dHu_addUnlessEmpty_72 : decode cHu_addUnlessEmpty 72 = .ok (.iastore, 1) := by decide +kernel
theorem dHu_addUnlessEmpty_73 : decode cHu_addUnlessEmpty 73 = .ok (.aload_n 0, 1) := by decide +kernel
theorem dHu_addUnlessEmpty_74 : decode cHu_addUnlessEmpty 74 = .ok (.dup, 1) := by decide +kernel
theorem dHu_addUnlessEmpty_75 : decode cHu_addUnlessEmpty 75 = .ok (.getfield 15, 3) := by decide +kernel
theorem dHu_addUnlessEmpty_78 : decode cHu_addUnlessEmpty 78 = .ok (.iconst 1, 1) := by decide +kernel
theorem dHu_addUnlessEmpty_79 : decode cHu_addUnlessEmpty 79 = .ok (.iadd, 1) := by decide +kernel
theorem dHu_addUnlessEmpty_80 : decode cHu_addUnlessEmpty 80 = .ok (.putfield 15, 3) := by decide +kernel
theorem dHu_addUnlessEmpty_83 : decode cHu_addUnlessEmpty 83 = .ok (.return_, 1) := by decide +kernel
theorem dPa_init_0 : decode cPa_init 0 = .ok (.aload_n 0, 1) := by decide +kernel
theorem dPa_init_1 : decode cPa_init 1 = .ok (.invokespecial 1, 3) := by decide +kernel
theorem dPa_init_4 : decode cPa_init 4 = .ok (.aload_n 0, 1) := by decide +kernel
theorem dPa_init_5 : decode cPa_init 5 = .ok (.new 7, 3) := by decide +kernel
theorem dPa_init_8 : decode cPa_init 8 = .ok (.dup, 1) := by decide +kernel
theorem dPa_init_9 : decode cPa_init 9 = .ok (.iconst 0, 1) := by decide +kernel
theorem dPa_init_10 : decode cPa_init 10 = .ok (.invokespecial 9, 3) := by decide +kernel
theorem dPa_init_13 : decode cPa_init 13 = .ok (.putfield 12, 3) := by decide +kernel
theorem dPa_init_16 : decode cPa_init 16 = .ok (.aload_n 0, 1) := by decide +kernel
theorem dPa_init_17 : decode cPa_init 17 = .ok (.iconst 0, 1) := by decide +kernel
theorem dPa_init_18 : decode cPa_init 18 = .ok (.putfield 18, 3) := by decide +kernel
theorem dPa_init_21 : decode cPa_init 21 = .ok (.aload_n 0, 1) := by decide +kernel
theorem dPa_init_22 : decode cPa_init 22 = .ok (.iconst 0, 1) := by decide +kernel
theorem dPa_init_23 : decode cPa_init 23 = .ok (.putfield 22, 3) := by decide +kernel
theorem dPa_init_26 : decode cPa_init 26 = .ok (.return_, 1) := by decide +kernel
theorem dPa_startOn_0 : decode cPa_startOn 0 = .ok (.aload_n 0, 1) := by decide +kernel
theorem dPa_startOn_1 : decode cPa_startOn 1 = .ok (.aload_n 1, 1) := by decide +kernel
theorem dPa_startOn_2 : decode cPa_startOn 2 = .ok (.putfield 12, 3) := by decide +kernel
theorem dPa_startOn_5 : decode cPa_startOn 5 = .ok (.aload_n 0, 1) := by decide +kernel
theorem dPa_startOn_6 : decode cPa_startOn 6 = .ok (.iconst 0, 1) := by decide +kernel
theorem dPa_startOn_7 : decode cPa_startOn 7 = .ok (.putfield 18, 3) := by decide +kernel
theorem dPa_startOn_10 : decode cPa_startOn 10 = .ok (.aload_n 0, 1) := by decide +kernel
theorem dPa_startOn_11 : decode cPa_startOn 11 = .ok (.iconst 0, 1) := by decide +kernel
theorem dPa_startOn_12 : decode cPa_startOn 12 = .ok (.putfield 22, 3) := by decide +kernel
theorem dPa_startOn_15 : decode cPa_startOn 15 = .ok (.return_, 1) := by decide +kernel
theorem dPa_stepOverAnchor_0 : decode cPa_stepOverAnchor 0 = .ok (.aload_n 0, 1) := by decide +kernel
theorem dPa_stepOverAnchor_1 : decode cPa_stepOverAnchor 1 = .ok (.aload_n 0, 1) := by decide +kernel
theorem dPa_stepOverAnchor_2 : decode cPa_stepOverAnchor 2 = .ok (.getfield 22, 3) := by decide +kernel
theorem dPa_stepOverAnchor_5 : decode cPa_stepOverAnchor 5 = .ok (.iconst 1, 1) := by decide +kernel
theorem dPa_stepOverAnchor_6 : decode cPa_stepOverAnchor 6 = .ok (.iadd, 1) := by decide +kernel
theorem dPa_stepOverAnchor_7 : decode cPa_stepOverAnchor 7 = .ok (.putfield 18, 3) := by decide +kernel
theorem dPa_stepOverAnchor_10 : decode cPa_stepOverAnchor 10 = .ok (.return_, 1) := by decide +kernel
theorem dPa_length_0 : decode cPa_length 0 = .ok (.aload_n 0, 1) := by decide +kernel
theorem dPa_length_1 : decode cPa_length 1 = .ok (.getfield 22, 3) := by decide +kernel
theorem dPa_length_4 : decode cPa_length 4 = .ok (.aload_n 0, 1) := by decide +kernel
theorem dPa_length_5 : decode cPa_length 5 = .ok (.getfield 18, 3) := by decide +kernel
theorem dPa_length_8 : decode cPa_length 8 = .ok (.isub, 1) := by decide +kernel
theorem dPa_length_9 : decode cPa_length 9 = .ok (.ireturn, 1) := by decide +kernel
theorem dPa_isLike_0 : decode cPa_isLike 0 = .ok (.aload_n 0, 1) := by decide +kernel
theorem dPa_isLike_1 : decode cPa_isLike 1 = .ok (.invokevirtual 25, 3) := by decide +kernel
theorem dPa_isLike_4 : decode cPa_isLike 4 = .ok (.aload_n 1, 1) := by decide +kernel
theorem dPa_isLike_5 : decode cPa_isLike 5 = .ok (.invokevirtual 25, 3) := by decide +kernel
theorem dPa_isLike_8 : decode cPa_isLike 8 = .ok (.if_icmp .eq 5, 3) := by decide +kernel
theorem dPa_isLike_11 : decode cPa_isLike 11 = .ok (.iconst 0, 1) := by decide +kernel
theorem dPa_isLike_12 : decode cPa_isLike 12 = .ok (.ireturn, 1) := by decide +kernel
theorem dPa_isLike_13 : decode cPa_isLike 13 = .ok (.iconst 0, 1) := by decide +kernel
theorem dPa_isLike_14 : decode cPa_isLike 14 = .ok (.istore_n 2, 1) := by decide +kernel
theorem dPa_isLike_15 : decode cPa_isLike 15 = .ok (.iload_n 2, 1) := by decide +kernel
theorem dPa_isLike_16 : decode cPa_isLike 16 = .ok (.aload_n 0, 1) := by decide +kernel
theorem dPa_isLike_17 : decode cPa_isLike 17 = .ok (.invokevirtual 25, 3) := by decide +kernel
theorem dPa_isLike_20 : decode cPa_isLike 20 = .ok (.if_icmp .ge 42, 3) := by decide +kernel
theorem dPa_isLike_23 : decode cPa_isLike 23 = .ok (.aload_n 0, 1) := by decide +kernel
theorem dPa_isLike_24 : decode cPa_isLike 24 = .ok (.getfield 12, 3) := by decide +kernel
theorem dPa_isLike_27 : decode cPa_isLike 27 = .ok (.getfield 29, 3) := by decide +kernel
theorem dPa_isLike_30 : decode cPa_isLike 30 = .ok (.aload_n 0, 1) := by decide +kernel
theorem dPa_isLike_31 : decode cPa_isLike 31 = .ok (.getfield 18, 3) := by decide +kernel
theorem dPa_isLike_34 : decode cPa_isLike 34 = .ok (.iload_n 2, 1) := by decide +kernel
theorem dPa_isLike_35 : decode cPa_isLike 35 = .ok (.iadd, 1) := by decide +kernel
theorem dPa_isLike_36 : decode cPa_isLike 36 = .ok (.iaload, 1) := by decide +kernel
theorem dPa_isLike_37 : decode cPa_isLike 37 = .ok (.aload_n 1, 1) := by decide +kernel
theorem dPa_isLike_38 : decode cPa_isLike 38 = .ok (.getfield 12, 3) := by decide +kernel
theorem dPa_isLike_41 : decode cPa_isLike 41 = .ok (.getfield 29, 3) := by decide +kernel
theorem dPa_isLike_44 : decode cPa_isLike 44 = .ok (.aload_n 1, 1) := by decide +kernel
theorem dPa_isLike_45 : decode cPa_isLike 45 = .ok (.getfield 18, 3) := by decide +kernel
theorem dPa_isLike_48 : decode cPa_isLike 48 = .ok (.iload_n 2, 1) := by decide +kernel
theorem dPa_isLike_49 : decode cPa_isLike 49 = .ok (.iadd, 1) := by decide +kernel
theorem dPa_isLike_50 : decode cPa_isLike 50 = .ok (.iaload, 1) := by decide +kernel
theorem dPa_isLike_51 : decode cPa_isLike 51 = .ok (.if_icmp .eq 5, 3) := by decide +kernel
theorem dPa_isLike_54 : decode cPa_isLike 54 = .ok (.iconst 0, 1) := by decide +kernel
theorem dPa_isLike_55 : decode cPa_isLike 55 = .ok (.ireturn, 1) := by decide +kernel
theorem dPa_isLike_56 : decode cPa_isLike 56 = .ok (.iinc 2 1, 3) := by decide +kernel
theorem dPa_isLike_59 : decode cPa_isLike 59 = .ok (.goto (-44), 3) := by decide +kernel
theorem dPa_isLike_62 : decode cPa_isLike 62 = .ok (.iconst 1, 1) := by decide +kernel
theorem dPa_isLike_63 : decode cPa_isLike 63 = .ok (.ireturn, 1) := by decide +kernel
theorem dRo_init_0 : decode cRo_init 0 = .ok (.aload_n 0, 1) := by decide +kernel
theorem dRo_init_1 : decode cRo_init 1 = .ok (.invokespecial 3, 3) := by decide +kernel
theorem dRo_init_4 : decode cRo_init 4 = .ok (.aload_n 0, 1) := by decide +kernel
theorem dRo_init_5 : decode cRo_init 5 = .ok (.iload_n 1, 1) := by decide +kernel
theorem dRo_init_6 : decode cRo_init 6 = .ok (.newarray .int, 2) := by decide +kernel
theorem dRo_init_8 : decode cRo_init 8 = .ok (.putfield 9, 3) := by decide +kernel
theorem dRo_init_11 : decode cRo_init 11 = .ok (.aload_n 0, 1) := by decide +kernel
theorem dRo_init_12 : decode cRo_init 12 = .ok (.iconst 0, 1) := by decide +kernel
theorem dRo_init_13 : decode cRo_init 13 = .ok (.putfield 15, 3) := by decide +kernel
theorem dRo_init_16 : decode cRo_init 16 = .ok (.return_, 1) := by decide +kernel
theorem dRo_add_0 : decode cRo_add 0 = .ok (.aload_n 0, 1) := by decide +kernel
theorem dRo_add_1 : decode cRo_add 1 = .ok (.getfield 15, 3) := by decide +kernel
theorem dRo_add_4 : decode cRo_add 4 = .ok (.aload_n 0, 1) := by decide +kernel
theorem dRo_add_5 : decode cRo_add 5 = .ok (.getfield 9, 3) := by decide +kernel
theorem dRo_add_8 : decode cRo_add 8 = .ok (.arraylength, 1) := by decide +kernel
theorem dRo_add_9 : decode cRo_add 9 = .ok (.if_icmp .ge 23, 3) := by decide +kernel
theorem dRo_add_12 : decode cRo_add 12 = .ok (.aload_n 0, 1) := by decide +kernel
theorem dRo_add_13 : decode cRo_add 13 = .ok (.getfield 9, 3) := by decide +kernel
theorem dRo_add_16 : decode cRo_add 16 = .ok (.aload_n 0, 1) := by decide +kernel
theorem dRo_add_17 : decode cRo_add 17 = .ok (.getfield 15, 3) := by decide +kernel
theorem dRo_add_20 : decode cRo_add 20 = .ok (.iload_n 1, 1) := by decide +kernel
theorem dRo_add_21 : decode cRo_add 21 = .ok (.iastore, 1) := by decide +kernel
theorem dRo_add_22 : decode cRo_add 22 = .ok (.aload_n 0, 1) := by decide +kernel
theorem dRo_add_23 : decode cRo_add 23 = .ok (.dup, 1) := by decide +kernel
theorem dRo_add_24 : decode cRo_add 24 = .ok (.getfield 15, 3) := by decide +kernel
theorem dRo_add_27 : decode cRo_add 27 = .ok (.iconst 1, 1) := by decide +kernel
theorem dRo_add_28 : decode cRo_add 28 = .ok (.iadd, 1) := by decide +kernel
theorem dRo_add_29 : decode cRo_add 29 = .ok (.putfield 15, 3) := by decide +kernel
theorem dRo_add_32 : decode cRo_add 32 = .ok (.return_, 1) := by decide +kernel
theorem dRo_addPart_0 : decode cRo_addPart 0 = .ok (.iload_n 2, 1) := by decide +kernel
theorem dRo_addPart_1 : decode cRo_addPart 1 = .ok (.istore 4, 2) := by decide +kernel
theorem dRo_addPart_3 : decode cRo_addPart 3 = .ok (.iload 4, 2) := by decide +kernel
theorem dRo_addPart_5 : decode cRo_addPart 5 = .ok (.iload_n 3, 1) := by decide +kernel
theorem dRo_addPart_6 : decode cRo_addPart 6 = .ok (.if_icmp .ge 20, 3) := by decide +kernel
theorem dRo_addPart_9 : decode cRo_addPart 9 = .ok (.aload_n 0, 1) := by decide +kernel
theorem dRo_addPart_10 : decode cRo_addPart 10 = .ok (.aload_n 1, 1) := by decide +kernel
theorem dRo_addPart_11 : decode cRo_addPart 11 = .ok (.getfield 9, 3) := by decide +kernel
theorem dRo_addPart_14 : decode cRo_addPart 14 = .ok (.iload 4, 2) := by decide +kernel
theorem dRo_addPart_16 : decode cRo_addPart 16 = .ok (.iaload, 1) := by decide +kernel
theorem dRo_addPart_17 : decode cRo_addPart 17 = .ok (.invokevirtual 19, 3) := by decide +kernel
theorem dRo_addPart_20 : decode cRo_addPart 20 = .ok (.iinc 4 1, 3) := by decide +kernel
theorem dRo_addPart_23 : decode cRo_addPart 23 = .ok (.goto (-20), 3) := by decide +kernel
theorem dRo_addPart_26 : decode cRo_addPart 26 = .ok (.return_, 1) := by decide +kernel
theorem dRo_become_0 : decode cRo_become 0 = .ok (.aload_n 0, 1) := by decide +kernel
theorem dRo_become_1 : decode cRo_become 1 = .ok (.iconst 0, 1) := by decide +kernel
theorem dRo_become_2 : decode cRo_become 2 = .ok (.putfield 15, 3) := by decide +kernel
theorem dRo_become_5 : decode cRo_become 5 = .ok (.aload_n 0, 1) := by decide +kernel
theorem dRo_become_6 : decode cRo_become 6 = .ok (.aload_n 1, 1) := by decide +kernel
theorem dRo_become_7 : decode cRo_become 7 = .ok (.iconst 0, 1) := by decide +kernel
theorem dRo_become_8 : decode cRo_become 8 = .ok (.aload_n 1, 1) := by decide +kernel
theorem dRo_become_9 : decode cRo_become 9 = .ok (.getfield 15, 3) := by decide +kernel
theorem dRo_become_12 : decode cRo_become 12 = .ok (.invokevirtual 23, 3) := by decide +kernel
theorem dRo_become_15 : decode cRo_become 15 = .ok (.return_, 1) := by decide +kernel
theorem dRo_hasAt_0 : decode cRo_hasAt 0 = .ok (.iload_n 1, 1) := by decide +kernel
theorem dRo_hasAt_1 : decode cRo_hasAt 1 = .ok (.ifCond .lt 25, 3) := by decide +kernel
theorem dRo_hasAt_4 : decode cRo_hasAt 4 = .ok (.iload_n 1, 1) := by decide +kernel
theorem dRo_hasAt_5 : decode cRo_hasAt 5 = .ok (.aload_n 0, 1) := by decide +kernel
theorem dRo_hasAt_6 : decode cRo_hasAt 6 = .ok (.getfield 15, 3) := by decide +kernel
theorem dRo_hasAt_9 : decode cRo_hasAt 9 = .ok (.if_icmp .ge 17, 3) := by decide +kernel
theorem dRo_hasAt_12 : decode cRo_hasAt 12 = .ok (.aload_n 0, 1) := by decide +kernel
theorem dRo_hasAt_13 : decode cRo_hasAt 13 = .ok (.getfield 9, 3) := by decide +kernel
theorem dRo_hasAt_16 : decode cRo_hasAt 16 = .ok (.iload_n 1, 1) := by decide +kernel
theorem dRo_hasAt_17 : decode cRo_hasAt 17 = .ok (.iaload, 1) := by decide +kernel
theorem dRo_hasAt_18 : decode cRo_hasAt 18 = .ok (.iload_n 2, 1) := by decide +kernel
theorem dRo_hasAt_19 : decode cRo_hasAt 19 = .ok (.if_icmp .ne 7, 3) := by decide +kernel
theorem dRo_hasAt_22 : decode cRo_hasAt 22 = .ok (.iconst 1, 1) := by decide +kernel
theorem dRo_hasAt_23 : decode cRo_hasAt 23 = .ok (.goto 4, 3) := by decide +kernel
theorem dRo_hasAt_26 : decode cRo_hasAt 26 = .ok (.iconst 0, 1) := by decide +kernel
theorem dRo_hasAt_27 : decode cRo_hasAt 27 = .ok (.ireturn, 1) := by decide +kernel
theorem dRo_firstPlaceOf_0 : decode cRo_firstPlaceOf 0 = .ok (.iload_n 2, 1) := by decide +kernel
theorem dRo_firstPlaceOf_1 : decode cRo_firstPlaceOf 1 = .ok (.istore_n 3, 1) := by decide +kernel
theorem dRo_firstPlaceOf_2 : decode cRo_firstPlaceOf 2 = .ok (.iload_n 3, 1) := by decide +kernel
theorem dRo_firstPlaceOf_3 : decode cRo_firstPlaceOf 3 = .ok (.aload_n 0, 1) := by decide +kernel
theorem dRo_firstPlaceOf_4 : decode cRo_firstPlaceOf 4 = .ok (.getfield 15, 3) := by decide +kernel
theorem dRo_firstPlaceOf_7 : decode cRo_firstPlaceOf 7 = .ok (.if_icmp .ge 21, 3) := by decide +kernel
theorem dRo_firstPlaceOf_10 : decode cRo_firstPlaceOf 10 = .ok (.aload_n 0, 1) := by decide +kernel
theorem dRo_firstPlaceOf_11 : decode cRo_firstPlaceOf 11 = .ok (.getfield 9, 3) := by decide +kernel
theorem dRo_firstPlaceOf_14 : decode cRo_firstPlaceOf 14 = .ok (.iload_n 3, 1) := by decide +kernel
theorem dRo_firstPlaceOf_15 : decode cRo_firstPlaceOf 15 = .ok (.iaload, 1) := by decide +kernel
theorem dRo_firstPlaceOf_16 : decode cRo_firstPlaceOf 16 = .ok (.iload_n 1, 1) := by decide +kernel
theorem dRo_firstPlaceOf_17 : decode cRo_firstPlaceOf 17 = .ok (.if_icmp .ne 5, 3) := by decide +kernel
theorem dRo_firstPlaceOf_20 : decode cRo_firstPlaceOf 20 = .ok (.iload_n 3, 1) := by decide +kernel
theorem dRo_firstPlaceOf_21 : decode cRo_firstPlaceOf 21 = .ok (.ireturn, 1) := by decide +kernel
theorem dRo_firstPlaceOf_22 : decode cRo_firstPlaceOf 22 = .ok (.iinc 3 1, 3) := by decide +kernel
theorem dRo_firstPlaceOf_25 : decode cRo_firstPlaceOf 25 = .ok (.goto (-23), 3) := by decide +kernel
theorem dRo_firstPlaceOf_28 : decode cRo_firstPlaceOf 28 = .ok (.iconst (-1), 1) := by decide +kernel
theorem dRo_firstPlaceOf_29 : decode cRo_firstPlaceOf 29 = .ok (.ireturn, 1) := by decide +kernel
end
section
theorem dMR_init_0 : decode cMR_init 0 = .ok (.aload_n 0, 1) := by decide +kernel
theorem dMR_init_1 : decode cMR_init 1 = .ok (.invokespecial 3, 3) := by decide +kernel
theorem dMR_init_4 : decode cMR_init 4 = .ok (.aload_n 0, 1) := by decide +kernel
theorem dMR_init_5 : decode cMR_init 5 = .ok (.bipush 6, 2) := by decide +kernel
theorem dMR_init_7 : decode cMR_init 7 = .ok (.anewarray 9, 3) := by decide +kernel
theorem dMR_init_10 : decode cMR_init 10 = .ok (.putfield 11, 3) := by decide +kernel
theorem dMR_init_13 : decode cMR_init 13 = .ok (.iconst 0, 1) := by decide +kernel
theorem dMR_init_14 : decode cMR_init 14 = .ok (.istore_n 1, 1) := by decide +kernel
theorem dMR_init_15 : decode cMR_init 15 = .ok (.iload_n 1, 1) := by decide +kernel
theorem dMR_init_16 : decode cMR_init 16 = .ok (.bipush 6, 2) := by decide +kernel
theorem dMR_init_18 : decode cMR_init 18 = .ok (.if_icmp .ge 24, 3) := by decide +kernel
theorem dMR_init_21 : decode cMR_init 21 = .ok (.aload_n 0, 1) := by decide +kernel
theorem dMR_init_22 : decode cMR_init 22 = .ok (.getfield 11, 3) := by decide +kernel
theorem dMR_init_25 : decode cMR_init 25 = .ok (.iload_n 1, 1) := by decide +kernel
theorem dMR_init_26 : decode cMR_init 26 = .ok (.new 9, 3) := by decide +kernel
theorem dMR_init_29 : decode cMR_init 29 = .ok (.dup, 1) := by decide +kernel
theorem dMR_init_30 : decode cMR_init 30 = .ok (.bipush 60, 2) := by decide +kernel
theorem dMR_init_32 : decode cMR_init 32 = .ok (.invokespecial 15, 3) := by decide +kernel
theorem dMR_init_35 : decode cMR_init 35 = .ok (.aastore, 1) := by decide +kernel
theorem dMR_init_36 : decode cMR_init 36 = .ok (.iinc 1 1, 3) := by decide +kernel
theorem dMR_init_39 : decode cMR_init 39 = .ok (.goto (-24), 3) := by decide +kernel
theorem dMR_init_42 : decode cMR_init 42 = .ok (.sipush 3721, 3) := by decide +kernel
theorem dMR_init_45 : decode cMR_init 45 = .ok (.newarray .int, 2) := by decide +kernel
theorem dMR_init_47 : decode cMR_init 47 = .ok (.astore_n 1, 1) := by decide +kernel
theorem dMR_init_48 : decode cMR_init 48 = .ok (.new 18, 3) := by decide +kernel
theorem dMR_init_51 : decode cMR_init 51 = .ok (.dup, 1) := by decide +kernel
theorem dMR_init_52 : decode cMR_init 52 = .ok (.aload_n 1, 1) := by decide +kernel
theorem dMR_init_53 : decode cMR_init 53 = .ok (.invokespecial 20, 3) := by decide +kernel
theorem dMR_init_56 : decode cMR_init 56 = .ok (.astore_n 2, 1) := by decide +kernel
theorem dMR_init_57 : decode cMR_init 57 = .ok (.new 18, 3) := by decide +kernel
theorem dMR_init_60 : decode cMR_init 60 = .ok (.dup, 1) := by decide +kernel
theorem dMR_init_61 : decode cMR_init 61 = .ok (.aload_n 1, 1) := by decide +kernel
theorem dMR_init_62 : decode cMR_init 62 = .ok (.invokespecial 20, 3) := by decide +kernel
theorem dMR_init_65 : decode cMR_init 65 = .ok (.astore_n 3, 1) := by decide +kernel
theorem dMR_init_66 : decode cMR_init 66 = .ok (.aload_n 0, 1) := by decide +kernel
theorem dMR_init_67 : decode cMR_init 67 = .ok (.new 18, 3) := by decide +kernel
theorem dMR_init_70 : decode cMR_init 70 = .ok (.dup, 1) := by decide +kernel
theorem dMR_init_71 : decode cMR_init 71 = .ok (.aload_n 1, 1) := by decide +kernel
theorem dMR_init_72 : decode cMR_init 72 = .ok (.invokespecial 20, 3) := by decide +kernel
theorem dMR_init_75 : decode cMR_init 75 = .ok (.putfield 23, 3) := by decide +kernel
theorem dMR_init_78 : decode cMR_init 78 = .ok (.aload_n 0, 1) := by decide +kernel
theorem dMR_init_79 : decode cMR_init 79 = .ok (.new 27, 3) := by decide +kernel
theorem dMR_init_82 : decode cMR_init 82 = .ok (.dup, 1) := by decide +kernel
theorem dMR_init_83 : decode cMR_init 83 = .ok (.aload_n 2, 1) := by decide +kernel
theorem dMR_init_84 : decode cMR_init 84 = .ok (.invokespecial 29, 3) := by decide +kernel
theorem dMR_init_87 : decode cMR_init 87 = .ok (.putfield 32, 3) := by decide +kernel
theorem dMR_init_90 : decode cMR_init 90 = .ok (.aload_n 0, 1) := by decide +kernel
theorem dMR_init_91 : decode cMR_init 91 = .ok (.new 36, 3) := by decide +kernel
theorem dMR_init_94 : decode cMR_init 94 = .ok (.dup, 1) := by decide +kernel
theorem dMR_init_95 : decode cMR_init 95 = .ok (.new 27, 3) := by decide +kernel
theorem dMR_init_98 : decode cMR_init 98 = .ok (.dup, 1) := by decide +kernel
theorem dMR_init_99 : decode cMR_init 99 = .ok (.aload_n 2, 1) := by decide +kernel
theorem dMR_init_100 : decode cMR_init 100 = .ok (.invokespecial 29, 3) := by decide +kernel
theorem dMR_init_103 : decode cMR_init 103 = .ok (.invokespecial 38, 3) := by decide +kernel
theorem dMR_init_106 : decode cMR_init 106 = .ok (.putfield 41, 3) := by decide +kernel
theorem dMR_init_109 : decode cMR_init 109 = .ok (.aload_n 0, 1) := by decide +kernel
theorem dMR_init_110 : decode cMR_init 110 = .ok (.new 45, 3) := by decide +kernel
theorem dMR_init_113 : decode cMR_init 113 = .ok (.dup, 1) := by decide +kernel
theorem dMR_init_114 : decode cMR_init 114 = .ok (.aload_n 2, 1) := by decide +kernel
theorem dMR_init_115 : decode cMR_init 115 = .ok (.invokespecial 47, 3) := by decide +kernel
theorem dMR_init_118 : decode cMR_init 118 = .ok (.putfield 48, 3) := by decide +kernel
theorem dMR_init_121 : decode cMR_init 121 = .ok (.aload_n 0, 1) := by decide +kernel
theorem dMR_init_122 : decode cMR_init 122 = .ok (.new 52, 3) := by decide +kernel
theorem dMR_init_125 : decode cMR_init 125 = .ok (.dup, 1) := by decide +kernel
theorem dMR_init_126 : decode cMR_init 126 = .ok (.aload_n 2, 1) := by decide +kernel
theorem dMR_init_127 : decode cMR_init 127 = .ok (.aload_n 3, 1) := by decide +kernel
theorem dMR_init_128 : decode cMR_init 128 = .ok (.invokespecial 54, 3) := by decide +kernel
theorem dMR_init_131 : decode cMR_init 131 = .ok (.putfield 57, 3) := by decide +kernel
theorem dMR_init_134 : decode cMR_init 134 = .ok (.aload_n 0, 1) := by decide +kernel
theorem dMR_init_135 : decode cMR_init 135 = .ok (.new 52, 3) := by decide +kernel
theorem dMR_init_138 : decode cMR_init 138 = .ok (.dup, 1) := by decide +kernel
theorem dMR_init_139 : decode cMR_init 139 = .ok (.aload_n 2, 1) := by decide +kernel
theorem dMR_init_140 : decode cMR_init 140 = .ok (.aload_n 3, 1) := by decide +kernel
theorem dMR_init_141 : decode cMR_init 141 = .ok (.invokespecial 54, 3) := by decide +kernel
theorem dMR_init_144 : decode cMR_init 144 = .ok (.putfield 61, 3) := by decide +kernel
theorem dMR_init_147 : decode cMR_init 147 = .ok (.return_, 1) := by decide +kernel
theorem dMR_put_0 : decode cMR_put 0 = .ok (.aload_n 0, 1) := by decide +kernel
theorem dMR_put_1 : decode cMR_put 1 = .ok (.iload_n 1, 1) := by decide +kernel
theorem dMR_put_2 : decode cMR_put 2 = .ok (.invokevirtual 64, 3) := by decide +kernel
theorem dMR_put_5 : decode cMR_put 5 = .ok (.astore_n 3, 1) := by decide +kernel
theorem dMR_put_6 : decode cMR_put 6 = .ok (.aload_n 3, 1) := by decide +kernel
theorem dMR_put_7 : decode cMR_put 7 = .ok (.getfield 68, 3) := by decide +kernel
theorem dMR_put_10 : decode cMR_put 10 = .ok (.bipush 60, 2) := by decide +kernel
theorem dMR_put_12 : decode cMR_put 12 = .ok (.if_icmp .lt 13, 3) := by decide +kernel
theorem dMR_put_15 : decode cMR_put 15 = .ok (.new 72, 3) := by decide +kernel
theorem dMR_put_18 : decode cMR_put 18 = .ok (.dup, 1) := by decide +kernel
theorem dMR_put_19 : decode cMR_put 19 = .ok (.ldc 74, 2) := by decide +kernel
theorem dMR_put_21 : decode cMR_put 21 = .ok (.invokespecial 76, 3) := by decide +kernel
theorem dMR_put_24 : decode cMR_put 24 = .ok (.athrow, 1) := by decide +kernel
theorem dMR_put_25 : decode cMR_put 25 = .ok (.aload_n 3, 1) := by decide +kernel
theorem dMR_put_26 : decode cMR_put 26 = .ok (.iload_n 2, 1) := by decide +kernel
theorem dMR_put_27 : decode cMR_put 27 = .ok (.invokevirtual 79, 3) := by decide +kernel
theorem dMR_put_30 : decode cMR_put 30 = .ok (.aload_n 3, 1) := by decide +kernel
theorem dMR_put_31 : decode cMR_put 31 = .ok (.getfield 68, 3) := by decide +kernel
theorem dMR_put_34 : decode cMR_put 34 = .ok (.ireturn, 1) := by decide +kernel
theorem dMR_clear_0 : decode cMR_clear 0 = .ok (.aload_n 0, 1) := by decide +kernel
theorem dMR_clear_1 : decode cMR_clear 1 = .ok (.iload_n 1, 1) := by decide +kernel
theorem dMR_clear_2 : decode cMR_clear 2 = .ok (.invokevirtual 64, 3) := by decide +kernel
theorem dMR_clear_5 : decode cMR_clear 5 = .ok (.iconst 0, 1) := by decide +kernel
theorem dMR_clear_6 : decode cMR_clear 6 = .ok (.putfield 68, 3) := by decide +kernel
theorem dMR_clear_9 : decode cMR_clear 9 = .ok (.return_, 1) := by decide +kernel
theorem dMR_size_0 : decode cMR_size 0 = .ok (.aload_n 0, 1) := by decide +kernel
theorem dMR_size_1 : decode cMR_size 1 = .ok (.iload_n 1, 1) := by decide +kernel
theorem dMR_size_2 : decode cMR_size 2 = .ok (.invokevirtual 64, 3) := by decide +kernel
theorem dMR_size_5 : decode cMR_size 5 = .ok (.getfield 68, 3) := by decide +kernel
theorem dMR_size_8 : decode cMR_size 8 = .ok (.ireturn, 1) := by decide +kernel
theorem dMR_get_0 : decode cMR_get 0 = .ok (.aload_n 0, 1) := by decide +kernel
theorem dMR_get_1 : decode cMR_get 1 = .ok (.iload_n 1, 1) := by decide +kernel
theorem dMR_get_2 : decode cMR_get 2 = .ok (.invokevirtual 64, 3) := by decide +kernel
theorem dMR_get_5 : decode cMR_get 5 = .ok (.astore_n 3, 1) := by decide +kernel
theorem dMR_get_6 : decode cMR_get 6 = .ok (.iload_n 2, 1) := by decide +kernel
theorem dMR_get_7 : decode cMR_get 7 = .ok (.ifCond .lt 11, 3) := by decide +kernel
theorem dMR_get_10 : decode cMR_get 10 = .ok (.iload_n 2, 1) := by decide +kernel
theorem dMR_get_11 : decode cMR_get 11 = .ok (.aload_n 3, 1) := by decide +kernel
theorem dMR_get_12 : decode cMR_get 12 = .ok (.getfield 68, 3) := by decide +kernel
theorem dMR_get_15 : decode cMR_get 15 = .ok (.if_icmp .lt 13, 3) := by decide +kernel
theorem dMR_get_18 : decode cMR_get 18 = .ok (.new 82, 3) := by decide +kernel
theorem dMR_get_21 : decode cMR_get 21 = .ok (.dup, 1) := by decide +kernel
theorem dMR_get_22 : decode cMR_get 22 = .ok (.ldc 84, 2) := by decide +kernel
theorem dMR_get_24 : decode cMR_get 24 = .ok (.invokespecial 86, 3) := by decide +kernel
theorem dMR_get_27 : decode cMR_get 27 = .ok (.athrow, 1) := by decide +kernel
theorem dMR_get_28 : decode cMR_get 28 = .ok (.aload_n 3, 1) := by decide +kernel
theorem dMR_get_29 : decode cMR_get 29 = .ok (.getfield 87, 3) := by decide +kernel
theorem dMR_get_32 : decode cMR_get 32 = .ok (.iload_n 2, 1) := by decide +kernel
theorem dMR_get_33 : decode cMR_get 33 = .ok (.iaload, 1) := by decide +kernel
theorem dMR_get_34 : decode cMR_get 34 = .ok (.ireturn, 1) := by decide +kernel
theorem dMR_common_0 : decode cMR_common 0 = .ok (.aload_n 0, 1) := by decide +kernel
theorem dMR_common_1 : decode cMR_common 1 = .ok (.iload_n 1, 1) := by decide +kernel
theorem dMR_common_2 : decode cMR_common 2 = .ok (.invokevirtual 64, 3) := by decide +kernel
theorem dMR_common_5 : decode cMR_common 5 = .ok (.astore_n 3, 1) := by decide +kernel
theorem dMR_common_6 : decode cMR_common 6 = .ok (.aload_n 0, 1) := by decide +kernel
theorem dMR_common_7 : decode cMR_common 7 = .ok (.iload_n 2, 1) := by decide +kernel
theorem dMR_common_8 : decode cMR_common 8 = .ok (.invokevirtual 64, 3) := by decide +kernel
theorem dMR_common_11 : decode cMR_common 11 = .ok (.astore 4, 2) := by decide +kernel
theorem dMR_common_13 : decode cMR_common 13 = .ok (.aload_n 0, 1) := by decide +kernel
theorem dMR_common_14 : decode cMR_common 14 = .ok (.getfield 23, 3) := by decide +kernel
theorem dMR_common_17 : decode cMR_common 17 = .ok (.aload_n 3, 1) := by decide +kernel
theorem dMR_common_18 : decode cMR_common 18 = .ok (.aload 4, 2) := by decide +kernel
theorem dMR_common_20 : decode cMR_common 20 = .ok (.invokevirtual 91, 3) := by decide +kernel
theorem dMR_common_23 : decode cMR_common 23 = .ok (.aload_n 0, 1) := by decide +kernel
theorem dMR_common_24 : decode cMR_common 24 = .ok (.getfield 23, 3) := by decide +kernel
theorem dMR_common_27 : decode cMR_common 27 = .ok (.getfield 95, 3) := by decide +kernel
theorem dMR_common_30 : decode cMR_common 30 = .ok (.ireturn, 1) := by decide +kernel
theorem dMR_pair_0 : decode cMR_pair 0 = .ok (.iload_n 1, 1) := by decide +kernel
theorem dMR_pair_1 : decode cMR_pair 1 = .ok (.ifCond .lt 23, 3) := by decide +kernel
theorem dMR_pair_4 : decode cMR_pair 4 = .ok (.iload_n 1, 1) := by decide +kernel
theorem dMR_pair_5 : decode cMR_pair 5 = .ok (.aload_n 0, 1) := by decide +kernel
theorem dMR_pair_6 : decode cMR_pair 6 = .ok (.getfield 23, 3) := by decide +kernel
theorem dMR_pair_9 : decode cMR_pair 9 = .ok (.getfield 95, 3) := by decide +kernel
theorem dMR_pair_12 : decode cMR_pair 12 = .ok (.if_icmp .ge 12, 3) := by decide +kernel
theorem dMR_pair_15 : decode cMR_pair 15 = .ok (.iload_n 2, 1) := by decide +kernel
theorem dMR_pair_16 : decode cMR_pair 16 = .ok (.ifCond .lt 8, 3) := by decide +kernel
theorem dMR_pair_19 : decode cMR_pair 19 = .ok (.iload_n 2, 1) := by decide +kernel
theorem dMR_pair_20 : decode cMR_pair 20 = .ok (.iconst 1, 1) := by decide +kernel
theorem dMR_pair_21 : decode cMR_pair 21 = .ok (.if_icmp .le 13, 3) := by decide +kernel
theorem dMR_pair_24 : decode cMR_pair 24 = .ok (.new 82, 3) := by decide +kernel
theorem dMR_pair_27 : decode cMR_pair 27 = .ok (.dup, 1) := by decide +kernel
theorem dMR_pair_28 : decode cMR_pair 28 = .ok (.ldc 96, 2) := by decide +kernel
theorem dMR_pair_30 : decode cMR_pair 30 = .ok (.invokespecial 86, 3) := by decide +kernel
theorem dMR_pair_33 : decode cMR_pair 33 = .ok (.athrow, 1) := by decide +kernel
theorem dMR_pair_34 : decode cMR_pair 34 = .ok (.iload_n 2, 1) := by decide +kernel
theorem dMR_pair_35 : decode cMR_pair 35 = .ok (.ifCond .ne 15, 3) := by decide +kernel
theorem dMR_pair_38 : decode cMR_pair 38 = .ok (.aload_n 0, 1) := by decide +kernel
theorem dMR_pair_39 : decode cMR_pair 39 = .ok (.getfield 23, 3) := by decide +kernel
theorem dMR_pair_42 : decode cMR_pair 42 = .ok (.getfield 98, 3) := by decide +kernel
theorem dMR_pair_45 : decode cMR_pair 45 = .ok (.iload_n 1, 1) := by decide +kernel
theorem dMR_pair_46 : decode cMR_pair 46 = .ok (.iaload, 1) := by decide +kernel
theorem dMR_pair_47 : decode cMR_pair 47 = .ok (.goto 12, 3) := by decide +kernel
theorem dMR_pair_50 : decode cMR_pair 50 = .ok (.aload_n 0, 1) := by decide +kernel
theorem dMR_pair_51 : decode cMR_pair 51 = .ok (.getfield 23, 3) := by decide +kernel
theorem dMR_pair_54 : decode cMR_pair 54 = .ok (.getfield 101, 3) := by decide +kernel
theorem dMR_pair_57 : decode cMR_pair 57 = .ok (.iload_n 1, 1) := by decide +kernel
theorem dMR_pair_58 : decode cMR_pair 58 = .ok (.iaload, 1) := by decide +kernel
theorem dMR_pair_59 : decode cMR_pair 59 = .ok (.ireturn, 1) := by decide +kernel
theorem dMR_hunks_0 : decode cMR_hunks 0 = .ok (.aload_n 0, 1) := by decide +kernel
theorem dMR_hunks_1 : decode cMR_hunks 1 = .ok (.iload_n 1, 1) := by decide +kernel
theorem dMR_hunks_2 : decode cMR_hunks 2 = .ok (.invokevirtual 64, 3) := by decide +kernel
theorem dMR_hunks_5 : decode cMR_hunks 5 = .ok (.astore_n 3, 1) := by decide +kernel
theorem dMR_hunks_6 : decode cMR_hunks 6 = .ok (.aload_n 0, 1) := by decide +kernel
theorem dMR_hunks_7 : decode cMR_hunks 7 = .ok (.iload_n 2, 1) := by decide +kernel
theorem dMR_hunks_8 : decode cMR_hunks 8 = .ok (.invokevirtual 64, 3) := by decide +kernel
theorem dMR_hunks_11 : decode cMR_hunks 11 = .ok (.astore 4, 2) := by decide +kernel
theorem dMR_hunks_13 : decode cMR_hunks 13 = .ok (.aload_n 0, 1) := by decide +kernel
theorem dMR_hunks_14 : decode cMR_hunks 14 = .ok (.getfield 32, 3) := by decide +kernel
theorem dMR_hunks_17 : decode cMR_hunks 17 = .ok (.aload_n 3, 1) := by decide +kernel
theorem dMR_hunks_18 : decode cMR_hunks 18 = .ok (.aload 4, 2) := by decide +kernel
theorem dMR_hunks_20 : decode cMR_hunks 20 = .ok (.invokevirtual 104, 3) := by decide +kernel
theorem dMR_hunks_23 : decode cMR_hunks 23 = .ok (.aload_n 0, 1) := by decide +kernel
theorem dMR_hunks_24 : decode cMR_hunks 24 = .ok (.getfield 32, 3) := by decide +kernel
theorem dMR_hunks_27 : decode cMR_hunks 27 = .ok (.getfield 105, 3) := by decide +kernel
theorem dMR_hunks_30 : decode cMR_hunks 30 = .ok (.ireturn, 1) := by decide +kernel
theorem dMR_hunk_0 : decode cMR_hunk 0 = .ok (.iload_n 1, 1) := by decide +kernel
theorem dMR_hunk_1 : decode cMR_hunk 1 = .ok (.ifCond .lt 23, 3) := by decide +kernel
theorem dMR_hunk_4 : decode cMR_hunk 4 = .ok (.iload_n 1, 1) := by decide +kernel
theorem dMR_hunk_5 : decode cMR_hunk 5 = .ok (.aload_n 0, 1) := by decide +kernel
theorem dMR_hunk_6 : decode cMR_hunk 6 = .ok (.getfield 32, 3) := by decide +kernel
theorem dMR_hunk_9 : decode cMR_hunk 9 = .ok (.getfield 105, 3) := by decide +kernel
theorem dMR_hunk_12 : decode cMR_hunk 12 = .ok (.if_icmp .ge 12, 3) := by decide +kernel
theorem dMR_hunk_15 : decode cMR_hunk 15 = .ok (.iload_n 2, 1) := by decide +kernel
theorem dMR_hunk_16 : decode cMR_hunk 16 = .ok (.ifCond .lt 8, 3) := by decide +kernel
theorem dMR_hunk_19 : decode cMR_hunk 19 = .ok (.iload_n 2, 1) := by decide +kernel
theorem dMR_hunk_20 : decode cMR_hunk 20 = .ok (.iconst 4, 1) := by decide +kernel
theorem dMR_hunk_21 : decode cMR_hunk 21 = .ok (.if_icmp .lt 13, 3) := by decide +kernel
theorem dMR_hunk_24 : decode cMR_hunk 24 = .ok (.new 82, 3) := by decide +kernel
theorem dMR_hunk_27 : decode cMR_hunk 27 = .ok (.dup, 1) := by decide +kernel
theorem dMR_hunk_28 : decode cMR_hunk 28 = .ok (.ldc 106, 2) := by decide +kernel
theorem dMR_hunk_30 : decode cMR_hunk 30 = .ok (.invokespecial 86, 3) := by decide +kernel
theorem dMR_hunk_33 : decode cMR_hunk 33 = .ok (.athrow, 1) := by decide +kernel
theorem dMR_hunk_34 : decode cMR_hunk 34 = .ok (.aload_n 0, 1) := by decide +kernel
theorem dMR_hunk_35 : decode cMR_hunk 35 = .ok (.getfield 32, 3) := by decide +kernel
theorem dMR_hunk_38 : decode cMR_hunk 38 = .ok (.getfield 108, 3) := by decide +kernel
theorem dMR_hunk_41 : decode cMR_hunk 41 = .ok (.iload_n 1, 1) := by decide +kernel
theorem dMR_hunk_42 : decode cMR_hunk 42 = .ok (.iconst 4, 1) := by decide +kernel
theorem dMR_hunk_43 : decode cMR_hunk 43 = .ok (.imul, 1) := by decide +kernel
theorem dMR_hunk_44 : decode cMR_hunk 44 = .ok (.iload_n 2, 1) := by decide +kernel
theorem dMR_hunk_45 : decode cMR_hunk 45 = .ok (.iadd, 1) := by decide +kernel
theorem dMR_hunk_46 : decode cMR_hunk 46 = .ok (.iaload, 1) := by decide +kernel
theorem dMR_hunk_47 : decode cMR_hunk 47 = .ok (.ireturn, 1) := by decide +kernel
theorem dMR_merge_0 : decode cMR_merge 0 = .ok (.aload_n 0, 1) := by decide +kernel
theorem dMR_merge_1 : decode cMR_merge 1 = .ok (.iload_n 1, 1) := by decide +kernel
theorem dMR_merge_2 : decode cMR_merge 2 = .ok (.invokevirtual 64, 3) := by decide +kernel
theorem dMR_merge_5 : decode cMR_merge 5 = .ok (.astore 5, 2) := by decide +kernel
theorem dMR_merge_7 : decode cMR_merge 7 = .ok (.aload_n 0, 1) := by decide +kernel
theorem dMR_merge_8 : decode cMR_merge 8 = .ok (.iload_n 2, 1) := by decide +kernel
theorem dMR_merge_9 : decode cMR_merge 9 = .ok (.invokevirtual 64, 3) := by decide +kernel
theorem dMR_merge_12 : decode cMR_merge 12 = .ok (.astore 6, 2) := by decide +kernel
theorem dMR_merge_14 : decode cMR_merge 14 = .ok (.aload_n 0, 1) := by decide +kernel
theorem dMR_merge_15 : decode cMR_merge 15 = .ok (.iload_n 3, 1) := by decide +kernel
theorem dMR_merge_16 : decode cMR_merge 16 = .ok (.invokevirtual 64, 3) := by decide +kernel
theorem dMR_merge_19 : decode cMR_merge 19 = .ok (.astore 7, 2) := by decide +kernel
theorem dMR_merge_21 : decode cMR_merge 21 = .ok (.aload_n 0, 1) := by decide +kernel
theorem dMR_merge_22 : decode cMR_merge 22 = .ok (.iload 4, 2) := by decide +kernel
theorem dMR_merge_24 : decode cMR_merge 24 = .ok (.invokevirtual 64, 3) := by decide +kernel
theorem dMR_merge_27 : decode cMR_merge 27 = .ok (.astore 8, 2) := by decide +kernel
theorem dMR_merge_29 : decode cMR_merge 29 = .ok (.aload_n 0, 1) := by decide +kernel
theorem dMR_merge_30 : decode cMR_merge 30 = .ok (.getfield 61, 3) := by decide +kernel
theorem dMR_merge_33 : decode cMR_merge 33 = .ok (.aload 5, 2) := by decide +kernel
theorem dMR_merge_35 : decode cMR_merge 35 = .ok (.aload 6, 2) := by decide +kernel
theorem dMR_merge_37 : decode cMR_merge 37 = .ok (.aload 7, 2) := by decide +kernel
theorem dMR_merge_39 : decode cMR_merge 39 = .ok (.invokevirtual 111, 3) := by decide +kernel
theorem dMR_merge_42 : decode cMR_merge 42 = .ok (.aload 8, 2) := by decide +kernel
theorem dMR_merge_44 : decode cMR_merge 44 = .ok (.aload_n 0, 1) := by decide +kernel
theorem dMR_merge_45 : decode cMR_merge 45 = .ok (.getfield 61, 3) := by decide +kernel
theorem dMR_merge_48 : decode cMR_merge 48 = .ok (.getfield 115, 3) := by decide +kernel
theorem dMR_merge_51 : decode cMR_merge 51 = .ok (.invokestatic 119, 3) := by decide +kernel
theorem dMR_merge_54 : decode cMR_merge 54 = .ok (.aload_n 0, 1) := by decide +kernel
theorem dMR_merge_55 : decode cMR_merge 55 = .ok (.getfield 61, 3) := by decide +kernel
theorem dMR_merge_58 : decode cMR_merge 58 = .ok (.astore 9, 2) := by decide +kernel
theorem dMR_merge_60 : decode cMR_merge 60 = .ok (.aload_n 0, 1) := by decide +kernel
theorem dMR_merge_61 : decode cMR_merge 61 = .ok (.aload_n 0, 1) := by decide +kernel
theorem dMR_merge_62 : decode cMR_merge 62 = .ok (.getfield 57, 3) := by decide +kernel
theorem dMR_merge_65 : decode cMR_merge 65 = .ok (.putfield 61, 3) := by decide +kernel
theorem dMR_merge_68 : decode cMR_merge 68 = .ok (.aload_n 0, 1) := by decide +kernel
theorem dMR_merge_69 : decode cMR_merge 69 = .ok (.aload 9, 2) := by decide +kernel
theorem dMR_merge_71 : decode cMR_merge 71 = .ok (.putfield 57, 3) := by decide +kernel
theorem dMR_merge_74 : decode cMR_merge 74 = .ok (.aload 9, 2) := by decide +kernel
theorem dMR_merge_76 : decode cMR_merge 76 = .ok (.getfield 122, 3) := by decide +kernel
theorem dMR_merge_79 : decode cMR_merge 79 = .ok (.ireturn, 1) := by decide +kernel
theorem dMR_conflict_0 : decode cMR_conflict 0 = .ok (.iload_n 1, 1) := by decide +kernel
theorem dMR_conflict_1 : decode cMR_conflict 1 = .ok (.ifCond .lt 23, 3) := by decide +kernel
theorem dMR_conflict_4 : decode cMR_conflict 4 = .ok (.iload_n 1, 1) := by decide +kernel
theorem dMR_conflict_5 : decode cMR_conflict 5 = .ok (.aload_n 0, 1) := by decide +kernel
theorem dMR_conflict_6 : decode cMR_conflict 6 = .ok (.getfield 57, 3) := by decide +kernel
theorem dMR_conflict_9 : decode cMR_conflict 9 = .ok (.getfield 122, 3) := by decide +kernel
theorem dMR_conflict_12 : decode cMR_conflict 12 = .ok (.if_icmp .ge 12, 3) := by decide +kernel
theorem dMR_conflict_15 : decode cMR_conflict 15 = .ok (.iload_n 2, 1) := by decide +kernel
theorem dMR_conflict_16 : decode cMR_conflict 16 = .ok (.ifCond .lt 8, 3) := by decide +kernel
theorem dMR_conflict_19 : decode cMR_conflict 19 = .ok (.iload_n 2, 1) := by decide +kernel
theorem dMR_conflict_20 : decode cMR_conflict 20 = .ok (.iconst 3, 1) := by decide +kernel
theorem dMR_conflict_21 : decode cMR_conflict 21 = .ok (.if_icmp .lt 13, 3) := by decide +kernel
theorem dMR_conflict_24 : decode cMR_conflict 24 = .ok (.new 82, 3) := by decide +kernel
theorem dMR_conflict_27 : decode cMR_conflict 27 = .ok (.dup, 1) := by decide +kernel
theorem dMR_conflict_28 : decode cMR_conflict 28 = .ok (.ldc 125, 2) := by decide +kernel
theorem dMR_conflict_30 : decode cMR_conflict 30 = .ok (.invokespecial 86, 3) := by decide +kernel
theorem dMR_conflict_33 : decode cMR_conflict 33 = .ok (.athrow, 1) := by decide +kernel
theorem dMR_conflict_34 : decode cMR_conflict 34 = .ok (.aload_n 0, 1) := by decide +kernel
theorem dMR_conflict_35 : decode cMR_conflict 35 = .ok (.getfield 57, 3) := by decide +kernel
theorem dMR_conflict_38 : decode cMR_conflict 38 = .ok (.getfield 127, 3) := by decide +kernel
theorem dMR_conflict_41 : decode cMR_conflict 41 = .ok (.iload_n 1, 1) := by decide +kernel
theorem dMR_conflict_42 : decode cMR_conflict 42 = .ok (.iconst 3, 1) := by decide +kernel
theorem dMR_conflict_43 : decode cMR_conflict 43 = .ok (.imul, 1) := by decide +kernel
theorem dMR_conflict_44 : decode cMR_conflict 44 = .ok (.iload_n 2, 1) := by decide +kernel
theorem dMR_conflict_45 : decode cMR_conflict 45 = .ok (.iadd, 1) := by decide +kernel
theorem dMR_conflict_46 : decode cMR_conflict 46 = .ok (.iaload, 1) := by decide +kernel
theorem dMR_conflict_47 : decode cMR_conflict 47 = .ok (.ireturn, 1) := by decide +kernel
theorem dMR_patch_0 : decode cMR_patch 0 = .ok (.aload_n 0, 1) := by decide +kernel
theorem dMR_patch_1 : decode cMR_patch 1 = .ok (.iload_n 1, 1) := by decide +kernel
theorem dMR_patch_2 : decode cMR_patch 2 = .ok (.invokevirtual 64, 3) := by decide +kernel
theorem dMR_patch_5 : decode cMR_patch 5 = .ok (.astore 5, 2) := by decide +kernel
theorem dMR_patch_7 : decode cMR_patch 7 = .ok (.aload_n 0, 1) := by decide +kernel
theorem dMR_patch_8 : decode cMR_patch 8 = .ok (.iload_n 2, 1) := by decide +kernel
theorem dMR_patch_9 : decode cMR_patch 9 = .ok (.invokevirtual 64, 3) := by decide +kernel
theorem dMR_patch_12 : decode cMR_patch 12 = .ok (.astore 6, 2) := by decide +kernel
theorem dMR_patch_14 : decode cMR_patch 14 = .ok (.aload_n 0, 1) := by decide +kernel
theorem dMR_patch_15 : decode cMR_patch 15 = .ok (.iload_n 3, 1) := by decide +kernel
theorem dMR_patch_16 : decode cMR_patch 16 = .ok (.invokevirtual 64, 3) := by decide +kernel
theorem dMR_patch_19 : decode cMR_patch 19 = .ok (.astore 7, 2) := by decide +kernel
theorem dMR_patch_21 : decode cMR_patch 21 = .ok (.aload_n 0, 1) := by decide +kernel
theorem dMR_patch_22 : decode cMR_patch 22 = .ok (.iload 4, 2) := by decide +kernel
theorem dMR_patch_24 : decode cMR_patch 24 = .ok (.invokevirtual 64, 3) := by decide +kernel
theorem dMR_patch_27 : decode cMR_patch 27 = .ok (.astore 8, 2) := by decide +kernel
theorem dMR_patch_29 : decode cMR_patch 29 = .ok (.aload_n 0, 1) := by decide +kernel
theorem dMR_patch_30 : decode cMR_patch 30 = .ok (.getfield 41, 3) := by decide +kernel
theorem dMR_patch_33 : decode cMR_patch 33 = .ok (.aload 5, 2) := by decide +kernel
theorem dMR_patch_35 : decode cMR_patch 35 = .ok (.aload 6, 2) := by decide +kernel
theorem dMR_patch_37 : decode cMR_patch 37 = .ok (.aload 7, 2) := by decide +kernel
theorem dMR_patch_39 : decode cMR_patch 39 = .ok (.invokevirtual 130, 3) := by decide +kernel
theorem dMR_patch_42 : decode cMR_patch 42 = .ok (.aload 8, 2) := by decide +kernel
theorem dMR_patch_44 : decode cMR_patch 44 = .ok (.aload_n 0, 1) := by decide +kernel
theorem dMR_patch_45 : decode cMR_patch 45 = .ok (.getfield 41, 3) := by decide +kernel
theorem dMR_patch_48 : decode cMR_patch 48 = .ok (.getfield 131, 3) := by decide +kernel
theorem dMR_patch_51 : decode cMR_patch 51 = .ok (.invokestatic 119, 3) := by decide +kernel
theorem dMR_patch_54 : decode cMR_patch 54 = .ok (.aload_n 0, 1) := by decide +kernel
theorem dMR_patch_55 : decode cMR_patch 55 = .ok (.getfield 41, 3) := by decide +kernel
theorem dMR_patch_58 : decode cMR_patch 58 = .ok (.getfield 132, 3) := by decide +kernel
theorem dMR_patch_61 : decode cMR_patch 61 = .ok (.ireturn, 1) := by decide +kernel
theorem dMR_commit_0 : decode cMR_commit 0 = .ok (.aload_n 0, 1) := by decide +kernel
theorem dMR_commit_1 : decode cMR_commit 1 = .ok (.iload_n 1, 1) := by decide +kernel
theorem dMR_commit_2 : decode cMR_commit 2 = .ok (.invokevirtual 64, 3) := by decide +kernel
theorem dMR_commit_5 : decode cMR_commit 5 = .ok (.astore_n 2, 1) := by decide +kernel
theorem dMR_commit_6 : decode cMR_commit 6 = .ok (.aload_n 0, 1) := by decide +kernel
theorem dMR_commit_7 : decode cMR_commit 7 = .ok (.getfield 48, 3) := by decide +kernel
theorem dMR_commit_10 : decode cMR_commit 10 = .ok (.getfield 135, 3) := by decide +kernel
theorem dMR_commit_13 : decode cMR_commit 13 = .ok (.bipush 30, 2) := by decide +kernel
theorem dMR_commit_15 : decode cMR_commit 15 = .ok (.if_icmp .lt 13, 3) := by decide +kernel
theorem dMR_commit_18 : decode cMR_commit 18 = .ok (.new 72, 3) := by decide +kernel
theorem dMR_commit_21 : decode cMR_commit 21 = .ok (.dup, 1) := by decide +kernel
theorem dMR_commit_22 : decode cMR_commit 22 = .ok (.ldc 136, 2) := by decide +kernel
theorem dMR_commit_24 : decode cMR_commit 24 = .ok (.invokespecial 76, 3) := by decide +kernel
theorem dMR_commit_27 : decode cMR_commit 27 = .ok (.athrow, 1) := by decide +kernel
theorem dMR_commit_28 : decode cMR_commit 28 = .ok (.aload_n 0, 1) := by decide +kernel
theorem dMR_commit_29 : decode cMR_commit 29 = .ok (.getfield 48, 3) := by decide +kernel
theorem dMR_commit_32 : decode cMR_commit 32 = .ok (.aload_n 2, 1) := by decide +kernel
theorem dMR_commit_33 : decode cMR_commit 33 = .ok (.invokevirtual 138, 3) := by decide +kernel
theorem dMR_commit_36 : decode cMR_commit 36 = .ok (.aload_n 0, 1) := by decide +kernel
theorem dMR_commit_37 : decode cMR_commit 37 = .ok (.getfield 48, 3) := by decide +kernel
theorem dMR_commit_40 : decode cMR_commit 40 = .ok (.getfield 135, 3) := by decide +kernel
theorem dMR_commit_43 : decode cMR_commit 43 = .ok (.iconst 1, 1) := by decide +kernel
theorem dMR_commit_44 : decode cMR_commit 44 = .ok (.isub, 1) := by decide +kernel
theorem dMR_commit_45 : decode cMR_commit 45 = .ok (.ireturn, 1) := by decide +kernel
theorem dMR_origin_0 : decode cMR_origin 0 = .ok (.iload_n 1, 1) := by decide +kernel
theorem dMR_origin_1 : decode cMR_origin 1 = .ok (.ifCond .lt 14, 3) := by decide +kernel
theorem dMR_origin_4 : decode cMR_origin 4 = .ok (.iload_n 1, 1) := by decide +kernel
theorem dMR_origin_5 : decode cMR_origin 5 = .ok (.aload_n 0, 1) := by decide +kernel
theorem dMR_origin_6 : decode cMR_origin 6 = .ok (.getfield 48, 3) := by decide +kernel
theorem dMR_origin_9 : decode cMR_origin 9 = .ok (.getfield 135, 3) := by decide +kernel
theorem dMR_origin_12 : decode cMR_origin 12 = .ok (.if_icmp .lt 13, 3) := by decide +kernel
theorem dMR_origin_15 : decode cMR_origin 15 = .ok (.new 141, 3) := by decide +kernel
theorem dMR_origin_18 : decode cMR_origin 18 = .ok (.dup, 1) := by decide +kernel
theorem dMR_origin_19 : decode cMR_origin 19 = .ok (.ldc 143, 2) := by decide +kernel
theorem dMR_origin_21 : decode cMR_origin 21 = .ok (.invokespecial 145, 3) := by decide +kernel
theorem dMR_origin_24 : decode cMR_origin 24 = .ok (.athrow, 1) := by decide +kernel
theorem dMR_origin_25 : decode cMR_origin 25 = .ok (.iload_n 2, 1) := by decide +kernel
theorem dMR_origin_26 : decode cMR_origin 26 = .ok (.ifCond .lt 16, 3) := by decide +kernel
theorem dMR_origin_29 : decode cMR_origin 29 = .ok (.iload_n 2, 1) := by decide +kernel
theorem dMR_origin_30 : decode cMR_origin 30 = .ok (.aload_n 0, 1) := by decide +kernel
theorem dMR_origin_31 : decode cMR_origin 31 = .ok (.getfield 48, 3) := by decide +kernel
theorem dMR_origin_34 : decode cMR_origin 34 = .ok (.getfield 146, 3) := by decide +kernel
theorem dMR_origin_37 : decode cMR_origin 37 = .ok (.iload_n 1, 1) := by decide +kernel
theorem dMR_origin_38 : decode cMR_origin 38 = .ok (.iaload, 1) := by decide +kernel
theorem dMR_origin_39 : decode cMR_origin 39 = .ok (.if_icmp .lt 13, 3) := by decide +kernel
theorem dMR_origin_42 : decode cMR_origin 42 = .ok (.new 82, 3) := by decide +kernel
theorem dMR_origin_45 : decode cMR_origin 45 = .ok (.dup, 1) := by decide +kernel
theorem dMR_origin_46 : decode cMR_origin 46 = .ok (.ldc 84, 2) := by decide +kernel
theorem dMR_origin_48 : decode cMR_origin 48 = .ok (.invokespecial 86, 3) := by decide +kernel
theorem dMR_origin_51 : decode cMR_origin 51 = .ok (.athrow, 1) := by decide +kernel
theorem dMR_origin_52 : decode cMR_origin 52 = .ok (.aload_n 0, 1) := by decide +kernel
theorem dMR_origin_53 : decode cMR_origin 53 = .ok (.getfield 48, 3) := by decide +kernel
theorem dMR_origin_56 : decode cMR_origin 56 = .ok (.getfield 149, 3) := by decide +kernel
theorem dMR_origin_59 : decode cMR_origin 59 = .ok (.iload_n 1, 1) := by decide +kernel
theorem dMR_origin_60 : decode cMR_origin 60 = .ok (.bipush 60, 2) := by decide +kernel
theorem dMR_origin_62 : decode cMR_origin 62 = .ok (.imul, 1) := by decide +kernel
theorem dMR_origin_63 : decode cMR_origin 63 = .ok (.iload_n 2, 1) := by decide +kernel
theorem dMR_origin_64 : decode cMR_origin 64 = .ok (.iadd, 1) := by decide +kernel
theorem dMR_origin_65 : decode cMR_origin 65 = .ok (.iaload, 1) := by decide +kernel
theorem dMR_origin_66 : decode cMR_origin 66 = .ok (.ireturn, 1) := by decide +kernel
theorem dMR_rowAt_0 : decode cMR_rowAt 0 = .ok (.iload_n 1, 1) := by decide +kernel
theorem dMR_rowAt_1 : decode cMR_rowAt 1 = .ok (.ifCond .lt 12, 3) := by decide +kernel
theorem dMR_rowAt_4 : decode cMR_rowAt 4 = .ok (.iload_n 1, 1) := by decide +kernel
theorem dMR_rowAt_5 : decode cMR_rowAt 5 = .ok (.aload_n 0, 1) := by decide +kernel
theorem dMR_rowAt_6 : decode cMR_rowAt 6 = .ok (.getfield 11, 3) := by decide +kernel
theorem dMR_rowAt_9 : decode cMR_rowAt 9 = .ok (.arraylength, 1) := by decide +kernel
theorem dMR_rowAt_10 : decode cMR_rowAt 10 = .ok (.if_icmp .lt 13, 3) := by decide +kernel
theorem dMR_rowAt_13 : decode cMR_rowAt 13 = .ok (.new 141, 3) := by decide +kernel
theorem dMR_rowAt_16 : decode cMR_rowAt 16 = .ok (.dup, 1) := by decide +kernel
theorem dMR_rowAt_17 : decode cMR_rowAt 17 = .ok (.ldc 152, 2) := by decide +kernel
theorem dMR_rowAt_19 : decode cMR_rowAt 19 = .ok (.invokespecial 145, 3) := by decide +kernel
theorem dMR_rowAt_22 : decode cMR_rowAt 22 = .ok (.athrow, 1) := by decide +kernel
theorem dMR_rowAt_23 : decode cMR_rowAt 23 = .ok (.aload_n 0, 1) := by decide +kernel
theorem dMR_rowAt_24 : decode cMR_rowAt 24 = .ok (.getfield 11, 3) := by decide +kernel
theorem dMR_rowAt_27 : decode cMR_rowAt 27 = .ok (.iload_n 1, 1) := by decide +kernel
theorem dMR_rowAt_28 : decode cMR_rowAt 28 = .ok (.aaload, 1) := by decide +kernel
theorem dMR_rowAt_29 : decode cMR_rowAt 29 = .ok (.areturn, 1) := by decide +kernel
theorem dMR_fillWithOutcome_0 : decode cMR_fillWithOutcome 0 = .ok (.aload_n 1, 1) := by decide +kernel
theorem dMR_fillWithOutcome_1 : decode cMR_fillWithOutcome 1 = .ok (.getfield 68, 3) := by decide +kernel
theorem dMR_fillWithOutcome_4 : decode cMR_fillWithOutcome 4 = .ok (.bipush 60, 2) := by decide +kernel
theorem dMR_fillWithOutcome_6 : decode cMR_fillWithOutcome 6 = .ok (.if_icmp .le 13, 3) := by decide +kernel
theorem dMR_fillWithOutcome_9 : decode cMR_fillWithOutcome 9 = .ok (.new 72, 3) := by decide +kernel
theorem dMR_fillWithOutcome_12 : decode cMR_fillWithOutcome 12 = .ok (.dup, 1) := by decide +kernel
theorem dMR_fillWithOutcome_13 : decode cMR_fillWithOutcome 13 = .ok (.ldc 154, 2) := by decide +kernel
theorem dMR_fillWithOutcome_15 : decode cMR_fillWithOutcome 15 = .ok (.invokespecial 76, 3) := by decide +kernel
theorem dMR_fillWithOutcome_18 : decode cMR_fillWithOutcome 18 = .ok (.athrow, 1) := by decide +kernel
theorem dMR_fillWithOutcome_19 : decode cMR_fillWithOutcome 19 = .ok (.aload_n 0, 1) := by decide +kernel
theorem dMR_fillWithOutcome_20 : decode cMR_fillWithOutcome 20 = .ok (.aload_n 1, 1) := by decide +kernel
theorem dMR_fillWithOutcome_21 : decode cMR_fillWithOutcome 21 = .ok (.invokevirtual 156, 3) := by decide +kernel
theorem dMR_fillWithOutcome_24 : decode cMR_fillWithOutcome 24 = .ok (.return_, 1) := by decide +kernel
theorem dMg_init_0 : decode cMg_init 0 = .ok (.aload_n 0, 1) := by decide +kernel
theorem dMg_init_1 : decode cMg_init 1 = .ok (.invokespecial 3, 3) := by decide +kernel
theorem dMg_init_4 : decode cMg_init 4 = .ok (.aload_n 0, 1) := by decide +kernel
theorem dMg_init_5 : decode cMg_init 5 = .ok (.new 9, 3) := by decide +kernel
theorem dMg_init_8 : decode cMg_init 8 = .ok (.dup, 1) := by decide +kernel
theorem dMg_init_9 : decode cMg_init 9 = .ok (.bipush 120, 2) := by decide +kernel
theorem dMg_init_11 : decode cMg_init 11 = .ok (.invokespecial 11, 3) := by decide +kernel
theorem dMg_init_14 : decode cMg_init 14 = .ok (.putfield 14, 3) := by decide +kernel
theorem dMg_init_17 : decode cMg_init 17 = .ok (.aload_n 0, 1) := by decide +kernel
theorem dMg_init_18 : decode cMg_init 18 = .ok (.sipush 183, 3) := by decide +kernel
theorem dMg_init_21 : decode cMg_init 21 = .ok (.newarray .int, 2) := by decide +kernel
theorem dMg_init_23 : decode cMg_init 23 = .ok (.putfield 20, 3) := by decide +kernel
theorem dMg_init_26 : decode cMg_init 26 = .ok (.aload_n 0, 1) := by decide +kernel
theorem dMg_init_27 : decode cMg_init 27 = .ok (.iconst 0, 1) := by decide +kernel
theorem dMg_init_28 : decode cMg_init 28 = .ok (.putfield 24, 3) := by decide +kernel
theorem dMg_init_31 : decode cMg_init 31 = .ok (.aload_n 0, 1) := by decide +kernel
theorem dMg_init_32 : decode cMg_init 32 = .ok (.aload_n 1, 1) := by decide +kernel
theorem dMg_init_33 : decode cMg_init 33 = .ok (.putfield 28, 3) := by decide +kernel
theorem dMg_init_36 : decode cMg_init 36 = .ok (.aload_n 0, 1) := by decide +kernel
theorem dMg_init_37 : decode cMg_init 37 = .ok (.aload_n 2, 1) := by decide +kernel
theorem dMg_init_38 : decode cMg_init 38 = .ok (.putfield 32, 3) := by decide +kernel
theorem dMg_init_41 : decode cMg_init 41 = .ok (.aload_n 0, 1) := by decide +kernel
theorem dMg_init_42 : decode cMg_init 42 = .ok (.new 35, 3) := by decide +kernel
theorem dMg_init_45 : decode cMg_init 45 = .ok (.dup, 1) := by decide +kernel
theorem dMg_init_46 : decode cMg_init 46 = .ok (.invokespecial 37, 3) := by decide +kernel
theorem dMg_init_49 : decode cMg_init 49 = .ok (.putfield 38, 3) := by decide +kernel
theorem dMg_init_52 : decode cMg_init 52 = .ok (.aload_n 0, 1) := by decide +kernel
theorem dMg_init_53 : decode cMg_init 53 = .ok (.new 35, 3) := by decide +kernel
theorem dMg_init_56 : decode cMg_init 56 = .ok (.dup, 1) := by decide +kernel
theorem dMg_init_57 : decode cMg_init 57 = .ok (.invokespecial 37, 3) := by decide +kernel
theorem dMg_init_60 : decode cMg_init 60 = .ok (.putfield 42, 3) := by decide +kernel
theorem dMg_init_63 : decode cMg_init 63 = .ok (.aload_n 0, 1) := by decide +kernel
theorem dMg_init_64 : decode cMg_init 64 = .ok (.new 35, 3) := by decide +kernel
theorem dMg_init_67 : decode cMg_init 67 = .ok (.dup, 1) := by decide +kernel
theorem dMg_init_68 : decode cMg_init 68 = .ok (.invokespecial 37, 3) := by decide +kernel
theorem dMg_init_71 : decode cMg_init 71 = .ok (.putfield 45, 3) := by decide +kernel
theorem dMg_init_74 : decode cMg_init 74 = .ok (.return_, 1) := by decide +kernel
theorem dMg_run_0 : decode cMg_run 0 = .ok (.aload_n 0, 1) := by decide +kernel
theorem dMg_run_1 : decode cMg_run 1 = .ok (.getfield 28, 3) := by decide +kernel
theorem dMg_run_4 : decode cMg_run 4 = .ok (.aload_n 1, 1) := by decide +kernel
theorem dMg_run_5 : decode cMg_run 5 = .ok (.aload_n 2, 1) := by decide +kernel
theorem dMg_run_6 : decode cMg_run 6 = .ok (.invokevirtual 48, 3) := by decide +kernel
theorem dMg_run_9 : decode cMg_run 9 = .ok (.aload_n 0, 1) := by decide +kernel
theorem dMg_run_10 : decode cMg_run 10 = .ok (.getfield 32, 3) := by decide +kernel
theorem dMg_run_13 : decode cMg_run 13 = .ok (.aload_n 1, 1) := by decide +kernel
theorem dMg_run_14 : decode cMg_run 14 = .ok (.aload_n 3, 1) := by decide +kernel
theorem dMg_run_15 : decode cMg_run 15 = .ok (.invokevirtual 48, 3) := by decide +kernel
theorem dMg_run_18 : decode cMg_run 18 = .ok (.aload_n 0, 1) := by decide +kernel
theorem dMg_run_19 : decode cMg_run 19 = .ok (.getfield 14, 3) := by decide +kernel
theorem dMg_run_22 : decode cMg_run 22 = .ok (.iconst 0, 1) := by decide +kernel
theorem dMg_run_23 : decode cMg_run 23 = .ok (.putfield 54, 3) := by decide +kernel
theorem dMg_run_26 : decode cMg_run 26 = .ok (.aload_n 0, 1) := by decide +kernel
theorem dMg_run_27 : decode cMg_run 27 = .ok (.iconst 0, 1) := by decide +kernel
theorem dMg_run_28 : decode cMg_run 28 = .ok (.putfield 24, 3) := by decide +kernel
theorem dMg_run_31 : decode cMg_run 31 = .ok (.aload_n 0, 1) := by decide +kernel
theorem dMg_run_32 : decode cMg_run 32 = .ok (.getfield 38, 3) := by decide +kernel
theorem dMg_run_35 : decode cMg_run 35 = .ok (.aload_n 1, 1) := by decide +kernel
theorem dMg_run_36 : decode cMg_run 36 = .ok (.invokevirtual 57, 3) := by decide +kernel
theorem dMg_run_39 : decode cMg_run 39 = .ok (.aload_n 0, 1) := by decide +kernel
theorem dMg_run_40 : decode cMg_run 40 = .ok (.getfield 42, 3) := by decide +kernel
theorem dMg_run_43 : decode cMg_run 43 = .ok (.aload_n 2, 1) := by decide +kernel
theorem dMg_run_44 : decode cMg_run 44 = .ok (.invokevirtual 57, 3) := by decide +kernel
theorem dMg_run_47 : decode cMg_run 47 = .ok (.aload_n 0, 1) := by decide +kernel
theorem dMg_run_48 : decode cMg_run 48 = .ok (.getfield 45, 3) := by decide +kernel
theorem dMg_run_51 : decode cMg_run 51 = .ok (.aload_n 3, 1) := by decide +kernel
theorem dMg_run_52 : decode cMg_run 52 = .ok (.invokevirtual 57, 3) := by decide +kernel
theorem dMg_run_55 : decode cMg_run 55 = .ok (.aload_n 0, 1) := by decide +kernel
theorem dMg_run_56 : decode cMg_run 56 = .ok (.aload_n 1, 1) := by decide +kernel
theorem dMg_run_57 : decode cMg_run 57 = .ok (.invokevirtual 61, 3) := by decide +kernel
theorem dMg_run_60 : decode cMg_run 60 = .ok (.aload_n 0, 1) := by decide +kernel
theorem dMg_run_61 : decode cMg_run 61 = .ok (.aload_n 1, 1) := by decide +kernel
theorem dMg_run_62 : decode cMg_run 62 = .ok (.getfield 54, 3) := by decide +kernel
theorem dMg_run_65 : decode cMg_run 65 = .ok (.aload_n 2, 1) := by decide +kernel
theorem dMg_run_66 : decode cMg_run 66 = .ok (.getfield 54, 3) := by decide +kernel
theorem dMg_run_69 : decode cMg_run 69 = .ok (.aload_n 3, 1) := by decide +kernel
theorem dMg_run_70 : decode cMg_run 70 = .ok (.getfield 54, 3) := by decide +kernel
theorem dMg_run_73 : decode cMg_run 73 = .ok (.invokevirtual 64, 3) := by decide +kernel
theorem dMg_run_76 : decode cMg_run 76 = .ok (.return_, 1) := by decide +kernel
theorem dMg_mergeUpToAnchors_0 : decode cMg_mergeUpToAnchors 0 = .ok (.iconst 0, 1) := by decide +kernel
theorem dMg_mergeUpToAnchors_1 : decode cMg_mergeUpToAnchors 1 = .ok (.istore_n 2, 1) := by decide +kernel
theorem dMg_mergeUpToAnchors_2 : decode cMg_mergeUpToAnchors 2 = .ok (.iconst 0, 1) := by decide +kernel
theorem dMg_mergeUpToAnchors_3 : decode cMg_mergeUpToAnchors 3 = .ok (.istore_n 3, 1) := by decide +kernel
theorem dMg_mergeUpToAnchors_4 : decode cMg_mergeUpToAnchors 4 = .ok (.iload_n 3, 1) := by decide +kernel
theorem dMg_mergeUpToAnchors_5 : decode cMg_mergeUpToAnchors 5 = .ok (.aload_n 0, 1) := by decide +kernel
theorem dMg_mergeUpToAnchors_6 : decode cMg_mergeUpToAnchors 6 = .ok (.getfield 28, 3) := by decide +kernel
theorem dMg_mergeUpToAnchors_9 : decode cMg_mergeUpToAnchors 9 = .ok (.getfield 68, 3) := by decide +kernel
theorem dMg_mergeUpToAnchors_12 : decode cMg_mergeUpToAnchors 12 = .ok (.if_icmp .ge 118, 3) := by decide +kernel
theorem dMg_mergeUpToAnchors_15 : decode cMg_mergeUpToAnchors 15 = .ok (.aload_n 0, 1) := by decide +kernel
theorem dMg_mergeUpToAnchors_16 : decode cMg_mergeUpToAnchors 16 = .ok (.getfield 28, 3) := by decide +kernel
theorem dMg_mergeUpToAnchors_19 : decode cMg_mergeUpToAnchors 19 = .ok (.getfield 69, 3) := by decide +kernel
theorem dMg_mergeUpToAnchors_22 : decode cMg_mergeUpToAnchors 22 = .ok (.iload_n 3, 1) := by decide +kernel
theorem dMg_mergeUpToAnchors_23 : decode cMg_mergeUpToAnchors 23 = .ok (.iaload, 1) := by decide +kernel
theorem dMg_mergeUpToAnchors_24 : decode cMg_mergeUpToAnchors 24 = .ok (.istore 4, 2) := by decide +kernel
theorem dMg_mergeUpToAnchors_26 : decode cMg_mergeUpToAnchors 26 = .ok (.iload_n 2, 1) := by decide +kernel
theorem dMg_mergeUpToAnchors_27 : decode cMg_mergeUpToAnchors 27 = .ok (.aload_n 0, 1) := by decide +kernel
theorem dMg_mergeUpToAnchors_28 : decode cMg_mergeUpToAnchors 28 = .ok (.getfield 32, 3) := by decide +kernel
theorem dMg_mergeUpToAnchors_31 : decode cMg_mergeUpToAnchors 31 = .ok (.getfield 68, 3) := by decide +kernel
theorem dMg_mergeUpToAnchors_34 : decode cMg_mergeUpToAnchors 34 = .ok (.if_icmp .ge 23, 3) := by decide +kernel
theorem dMg_mergeUpToAnchors_37 : decode cMg_mergeUpToAnchors 37 = .ok (.aload_n 0, 1) := by decide +kernel
theorem dMg_mergeUpToAnchors_38 : decode cMg_mergeUpToAnchors 38 = .ok (.getfield 32, 3) := by decide +kernel
theorem dMg_mergeUpToAnchors_41 : decode cMg_mergeUpToAnchors 41 = .ok (.getfield 69, 3) := by decide +kernel
theorem dMg_mergeUpToAnchors_44 : decode cMg_mergeUpToAnchors 44 = .ok (.iload_n 2, 1) := by decide +kernel
theorem dMg_mergeUpToAnchors_45 : decode cMg_mergeUpToAnchors 45 = .ok (.iaload, 1) := by decide +kernel
theorem dMg_mergeUpToAnchors_46 : decode cMg_mergeUpToAnchors 46 = .ok (.iload 4, 2) := by decide +kernel
theorem dMg_mergeUpToAnchors_48 : decode cMg_mergeUpToAnchors 48 = .ok (.if_icmp .ge 9, 3) := by decide +kernel
theorem dMg_mergeUpToAnchors_51 : decode cMg_mergeUpToAnchors 51 = .ok (.iinc 2 1, 3) := by decide +kernel
theorem dMg_mergeUpToAnchors_54 : decode cMg_mergeUpToAnchors 54 = .ok (.goto (-28), 3) := by decide +kernel
theorem dMg_mergeUpToAnchors_57 : decode cMg_mergeUpToAnchors 57 = .ok (.iload_n 2, 1) := by decide +kernel
theorem dMg_mergeUpToAnchors_58 : decode cMg_mergeUpToAnchors 58 = .ok (.aload_n 0, 1) := by decide +kernel
theorem dMg_mergeUpToAnchors_59 : decode cMg_mergeUpToAnchors 59 = .ok (.getfield 32, 3) := by decide +kernel
theorem dMg_mergeUpToAnchors_62 : decode cMg_mergeUpToAnchors 62 = .ok (.getfield 68, 3) := by decide +kernel
theorem dMg_mergeUpToAnchors_65 : decode cMg_mergeUpToAnchors 65 = .ok (.if_icmp .ge 59, 3) := by decide +kernel
theorem dMg_mergeUpToAnchors_68 : decode cMg_mergeUpToAnchors 68 = .ok (.aload_n 0, 1) := by decide +kernel
theorem dMg_mergeUpToAnchors_69 : decode cMg_mergeUpToAnchors 69 = .ok (.getfield 32, 3) := by decide +kernel
theorem dMg_mergeUpToAnchors_72 : decode cMg_mergeUpToAnchors 72 = .ok (.getfield 69, 3) := by decide +kernel
theorem dMg_mergeUpToAnchors_75 : decode cMg_mergeUpToAnchors 75 = .ok (.iload_n 2, 1) := by decide +kernel
theorem dMg_mergeUpToAnchors_76 : decode cMg_mergeUpToAnchors 76 = .ok (.iaload, 1) := by decide +kernel
theorem dMg_mergeUpToAnchors_77 : decode cMg_mergeUpToAnchors 77 = .ok (.iload 4, 2) := by decide +kernel
theorem dMg_mergeUpToAnchors_79 : decode cMg_mergeUpToAnchors 79 = .ok (.if_icmp .ne 45, 3) := by decide +kernel
theorem dMg_mergeUpToAnchors_82 : decode cMg_mergeUpToAnchors 82 = .ok (.aload_n 0, 1) := by decide +kernel
theorem dMg_mergeUpToAnchors_83 : decode cMg_mergeUpToAnchors 83 = .ok (.iload 4, 2) := by decide +kernel
theorem dMg_mergeUpToAnchors_85 : decode cMg_mergeUpToAnchors 85 = .ok (.aload_n 0, 1) := by decide +kernel
theorem dMg_mergeUpToAnchors_86 : decode cMg_mergeUpToAnchors 86 = .ok (.getfield 28, 3) := by decide +kernel
theorem dMg_mergeUpToAnchors_89 : decode cMg_mergeUpToAnchors 89 = .ok (.getfield 72, 3) := by decide +kernel
theorem dMg_mergeUpToAnchors_92 : decode cMg_mergeUpToAnchors 92 = .ok (.iload_n 3, 1) := by decide +kernel
theorem dMg_mergeUpToAnchors_93 : decode cMg_mergeUpToAnchors 93 = .ok (.iaload, 1) := by decide +kernel
theorem dMg_mergeUpToAnchors_94 : decode cMg_mergeUpToAnchors 94 = .ok (.aload_n 0, 1) := by decide +kernel
theorem dMg_mergeUpToAnchors_95 : decode cMg_mergeUpToAnchors 95 = .ok (.getfield 32, 3) := by decide +kernel
theorem dMg_mergeUpToAnchors_98 : decode cMg_mergeUpToAnchors 98 = .ok (.getfield 72, 3) := by decide +kernel
theorem dMg_mergeUpToAnchors_101 : decode cMg_mergeUpToAnchors 101 = .ok (.iload_n 2, 1) := by decide +kernel
theorem dMg_mergeUpToAnchors_102 : decode cMg_mergeUpToAnchors 102 = .ok (.iaload, 1) := by decide +kernel
theorem dMg_mergeUpToAnchors_103 : decode cMg_mergeUpToAnchors 103 = .ok (.invokevirtual 64, 3) := by decide +kernel
theorem dMg_mergeUpToAnchors_106 : decode cMg_mergeUpToAnchors 106 = .ok (.aload_n 0, 1) := by decide +kernel
theorem dMg_mergeUpToAnchors_107 : decode cMg_mergeUpToAnchors 107 = .ok (.getfield 14, 3) := by decide +kernel
theorem dMg_mergeUpToAnchors_110 : decode cMg_mergeUpToAnchors 110 = .ok (.aload_n 1, 1) := by decide +kernel
theorem dMg_mergeUpToAnchors_111 : decode cMg_mergeUpToAnchors 111 = .ok (.getfield 75, 3) := by decide +kernel
theorem dMg_mergeUpToAnchors_114 : decode cMg_mergeUpToAnchors 114 = .ok (.iload 4, 2) := by decide +kernel
theorem dMg_mergeUpToAnchors_116 : decode cMg_mergeUpToAnchors 116 = .ok (.iaload, 1) := by decide +kernel
theorem dMg_mergeUpToAnchors_117 : decode cMg_mergeUpToAnchors 117 = .ok (.invokevirtual 78, 3) := by decide +kernel
theorem dMg_mergeUpToAnchors_120 : decode cMg_mergeUpToAnchors 120 = .ok (.aload_n 0, 1) := by decide +kernel
theorem dMg_mergeUpToAnchors_121 : decode cMg_mergeUpToAnchors 121 = .ok (.invokevirtual 81, 3) := by decide +kernel
theorem dMg_mergeUpToAnchors_124 : decode cMg_mergeUpToAnchors 124 = .ok (.iinc 3 1, 3) := by decide +kernel
theorem dMg_mergeUpToAnchors_127 : decode cMg_mergeUpToAnchors 127 = .ok (.goto (-123), 3) := by decide +kernel
theorem dMg_mergeUpToAnchors_130 : decode cMg_mergeUpToAnchors 130 = .ok (.return_, 1) := by decide +kernel
theorem dMg_stepPartsOverAnchor_0 : decode cMg_stepPartsOverAnchor 0 = .ok (.aload_n 0, 1) := by decide +kernel
theorem dMg_stepPartsOverAnchor_1 : decode cMg_stepPartsOverAnchor 1 = .ok (.getfield 38, 3) := by decide +kernel
theorem dMg_stepPartsOverAnchor_4 : decode cMg_stepPartsOverAnchor 4 = .ok (.invokevirtual 84, 3) := by decide +kernel
theorem dMg_stepPartsOverAnchor_7 : decode cMg_stepPartsOverAnchor 7 = .ok (.aload_n 0, 1) := by decide +kernel
theorem dMg_stepPartsOverAnchor_8 : decode cMg_stepPartsOverAnchor 8 = .ok (.getfield 42, 3) := by decide +kernel
theorem dMg_stepPartsOverAnchor_11 : decode cMg_stepPartsOverAnchor 11 = .ok (.invokevirtual 84, 3) := by decide +kernel
theorem dMg_stepPartsOverAnchor_14 : decode cMg_stepPartsOverAnchor 14 = .ok (.aload_n 0, 1) := by decide +kernel
theorem dMg_stepPartsOverAnchor_15 : decode cMg_stepPartsOverAnchor 15 = .ok (.getfield 45, 3) := by decide +kernel
theorem dMg_stepPartsOverAnchor_18 : decode cMg_stepPartsOverAnchor 18 = .ok (.invokevirtual 84, 3) := by decide +kernel
theorem dMg_stepPartsOverAnchor_21 : decode cMg_stepPartsOverAnchor 21 = .ok (.return_, 1) := by decide +kernel
theorem dMg_mergeParts_0 : decode cMg_mergeParts 0 = .ok (.aload_n 0, 1) := by decide +kernel
theorem dMg_mergeParts_1 : decode cMg_mergeParts 1 = .ok (.getfield 38, 3) := by decide +kernel
theorem dMg_mergeParts_4 : decode cMg_mergeParts 4 = .ok (.iload_n 1, 1) := by decide +kernel
theorem dMg_mergeParts_5 : decode cMg_mergeParts 5 = .ok (.putfield 87, 3) := by decide +kernel
theorem dMg_mergeParts_8 : decode cMg_mergeParts 8 = .ok (.aload_n 0, 1) := by decide +kernel
theorem dMg_mergeParts_9 : decode cMg_mergeParts 9 = .ok (.getfield 42, 3) := by decide +kernel
theorem dMg_mergeParts_12 : decode cMg_mergeParts 12 = .ok (.iload_n 2, 1) := by decide +kernel
theorem dMg_mergeParts_13 : decode cMg_mergeParts 13 = .ok (.putfield 87, 3) := by decide +kernel
theorem dMg_mergeParts_16 : decode cMg_mergeParts 16 = .ok (.aload_n 0, 1) := by decide +kernel
theorem dMg_mergeParts_17 : decode cMg_mergeParts 17 = .ok (.getfield 45, 3) := by decide +kernel
theorem dMg_mergeParts_20 : decode cMg_mergeParts 20 = .ok (.iload_n 3, 1) := by decide +kernel
theorem dMg_mergeParts_21 : decode cMg_mergeParts 21 = .ok (.putfield 87, 3) := by decide +kernel
theorem dMg_mergeParts_24 : decode cMg_mergeParts 24 = .ok (.aload_n 0, 1) := by decide +kernel
theorem dMg_mergeParts_25 : decode cMg_mergeParts 25 = .ok (.getfield 42, 3) := by decide +kernel
theorem dMg_mergeParts_28 : decode cMg_mergeParts 28 = .ok (.aload_n 0, 1) := by decide +kernel
theorem dMg_mergeParts_29 : decode cMg_mergeParts 29 = .ok (.getfield 45, 3) := by decide +kernel
theorem dMg_mergeParts_32 : decode cMg_mergeParts 32 = .ok (.invokevirtual 90, 3) := by decide +kernel
theorem dMg_mergeParts_35 : decode cMg_mergeParts 35 = .ok (.ifCond .ne 17, 3) := by decide +kernel
theorem dMg_mergeParts_38 : decode cMg_mergeParts 38 = .ok (.aload_n 0, 1) := by decide +kernel
theorem dMg_mergeParts_39 : decode cMg_mergeParts 39 = .ok (.getfield 45, 3) := by decide +kernel
theorem dMg_mergeParts_42 : decode cMg_mergeParts 42 = .ok (.aload_n 0, 1) := by decide +kernel
theorem dMg_mergeParts_43 : decode cMg_mergeParts 43 = .ok (.getfield 38, 3) := by decide +kernel
theorem dMg_mergeParts_46 : decode cMg_mergeParts 46 = .ok (.invokevirtual 90, 3) := by decide +kernel
theorem dMg_mergeParts_49 : decode cMg_mergeParts 49 = .ok (.ifCond .eq 14, 3) := by decide +kernel
theorem dMg_mergeParts_52 : decode cMg_mergeParts 52 = .ok (.aload_n 0, 1) := by decide +kernel
theorem dMg_mergeParts_53 : decode cMg_mergeParts 53 = .ok (.aload_n 0, 1) := by decide +kernel
theorem dMg_mergeParts_54 : decode cMg_mergeParts 54 = .ok (.getfield 42, 3) := by decide +kernel
theorem dMg_mergeParts_57 : decode cMg_mergeParts 57 = .ok (.invokevirtual 94, 3) := by decide +kernel
theorem dMg_mergeParts_60 : decode cMg_mergeParts 60 = .ok (.goto 48, 3) := by decide +kernel
theorem dMg_mergeParts_63 : decode cMg_mergeParts 63 = .ok (.aload_n 0, 1) := by decide +kernel
theorem dMg_mergeParts_64 : decode cMg_mergeParts 64 = .ok (.getfield 42, 3) := by decide +kernel
theorem dMg_mergeParts_67 : decode cMg_mergeParts 67 = .ok (.aload_n 0, 1) := by decide +kernel
theorem dMg_mergeParts_68 : decode cMg_mergeParts 68 = .ok (.getfield 38, 3) := by decide +kernel
theorem dMg_mergeParts_71 : decode cMg_mergeParts 71 = .ok (.invokevirtual 90, 3) := by decide +kernel
theorem dMg_mergeParts_74 : decode cMg_mergeParts 74 = .ok (.ifCond .eq 14, 3) := by decide +kernel
theorem dMg_mergeParts_77 : decode cMg_mergeParts 77 = .ok (.aload_n 0, 1) := by decide +kernel
theorem dMg_mergeParts_78 : decode cMg_mergeParts 78 = .ok (.aload_n 0, 1) := by decide +kernel
theorem dMg_mergeParts_79 : decode cMg_mergeParts 79 = .ok (.getfield 45, 3) := by decide +kernel
theorem dMg_mergeParts_82 : decode cMg_mergeParts 82 = .ok (.invokevirtual 94, 3) := by decide +kernel
theorem dMg_mergeParts_85 : decode cMg_mergeParts 85 = .ok (.goto 23, 3) := by decide +kernel
theorem dMg_mergeParts_88 : decode cMg_mergeParts 88 = .ok (.aload_n 0, 1) := by decide +kernel
theorem dMg_mergeParts_89 : decode cMg_mergeParts 89 = .ok (.invokevirtual 98, 3) := by decide +kernel
theorem dMg_mergeParts_92 : decode cMg_mergeParts 92 = .ok (.aload_n 0, 1) := by decide +kernel
theorem dMg_mergeParts_93 : decode cMg_mergeParts 93 = .ok (.aload_n 0, 1) := by decide +kernel
theorem dMg_mergeParts_94 : decode cMg_mergeParts 94 = .ok (.getfield 42, 3) := by decide +kernel
theorem dMg_mergeParts_97 : decode cMg_mergeParts 97 = .ok (.invokevirtual 94, 3) := by decide +kernel
theorem dMg_mergeParts_100 : decode cMg_mergeParts 100 = .ok (.aload_n 0, 1) := by decide +kernel
theorem dMg_mergeParts_101 : decode cMg_mergeParts 101 = .ok (.aload_n 0, 1) := by decide +kernel
theorem dMg_mergeParts_102 : decode cMg_mergeParts 102 = .ok (.getfield 45, 3) := by decide +kernel
theorem dMg_mergeParts_105 : decode cMg_mergeParts 105 = .ok (.invokevirtual 94, 3) := by decide +kernel
theorem dMg_mergeParts_108 : decode cMg_mergeParts 108 = .ok (.return_, 1) := by decide +kernel
theorem dMg_take_0 : decode cMg_take 0 = .ok (.aload_n 0, 1) := by decide +kernel
theorem dMg_take_1 : decode cMg_take 1 = .ok (.getfield 14, 3) := by decide +kernel
theorem dMg_take_4 : decode cMg_take 4 = .ok (.aload_n 1, 1) := by decide +kernel
theorem dMg_take_5 : decode cMg_take 5 = .ok (.getfield 101, 3) := by decide +kernel
theorem dMg_take_8 : decode cMg_take 8 = .ok (.aload_n 1, 1) := by decide +kernel
theorem dMg_take_9 : decode cMg_take 9 = .ok (.getfield 104, 3) := by decide +kernel
theorem dMg_take_12 : decode cMg_take 12 = .ok (.aload_n 1, 1) := by decide +kernel
theorem dMg_take_13 : decode cMg_take 13 = .ok (.getfield 87, 3) := by decide +kernel
theorem dMg_take_16 : decode cMg_take 16 = .ok (.invokevirtual 107, 3) := by decide +kernel
theorem dMg_take_19 : decode cMg_take 19 = .ok (.return_, 1) := by decide +kernel
theorem dMg_addConflict_0 : decode cMg_addConflict 0 = .ok (.aload_n 0, 1) := by decide +kernel
theorem dMg_addConflict_1 : decode cMg_addConflict 1 = .ok (.getfield 24, 3) := by decide +kernel
theorem dMg_addConflict_4 : decode cMg_addConflict 4 = .ok (.bipush 61, 2) := by decide +kernel
theorem dMg_addConflict_6 : decode cMg_addConflict 6 = .ok (.if_icmp .ge 65, 3) := by decide +kernel
theorem dMg_addConflict_9 : decode cMg_addConflict 9 = .ok (.aload_n 0, 1) := by decide +kernel
theorem dMg_addConflict_10 : decode cMg_addConflict 10 = .ok (.getfield 24, 3) := by decide +kernel
theorem dMg_addConflict_13 : decode cMg_addConflict 13 = .ok (.iconst 3, 1) := by decide +kernel
theorem dMg_addConflict_14 : decode cMg_addConflict 14 = .ok (.imul, 1) := by decide +kernel
theorem dMg_addConflict_15 : decode cMg_addConflict 15 = .ok (.istore_n 1, 1) := by decide +kernel
theorem dMg_addConflict_16 : decode cMg_addConflict 16 = .ok (.aload_n 0, 1) := by decide +kernel
theorem dMg_addConflict_17 : decode cMg_addConflict 17 = .ok (.getfield 20, 3) := by decide +kernel
theorem dMg_addConflict_20 : decode cMg_addConflict 20 = .ok (.iload_n 1, 1) := by decide +kernel
theorem dMg_addConflict_21 : decode cMg_addConflict 21 = .ok (.iconst 0, 1) := by decide +kernel
theorem dMg_addConflict_22 : decode cMg_addConflict 22 = .ok (.iadd, 1) := by decide +kernel
theorem dMg_addConflict_23 : decode cMg_addConflict 23 = .ok (.aload_n 0, 1) := by decide +kernel
theorem dMg_addConflict_24 : decode cMg_addConflict 24 = .ok (.getfield 14, 3) := by decide +kernel
theorem dMg_addConflict_27 : decode cMg_addConflict 27 = .ok (.getfield 54, 3) := by decide +kernel
theorem dMg_addConflict_30 : decode cMg_addConflict 30 = .ok (.iastore, 1) := by decide +kernel
theorem dMg_addConflict_31 : decode cMg_addConflict 31 = .ok (.aload_n 0, 1) := by decide +kernel
theorem dMg_addConflict_32 : decode cMg_addConflict 32 = .ok (.getfield 20, 3) := by decide +kernel
theorem dMg_addConflict_35 : decode cMg_addConflict 35 = .ok (.iload_n 1, 1) := by decide +kernel
theorem dMg_addConflict_36 : decode cMg_addConflict 36 = .ok (.iconst 1, 1) := by decide +kernel
theorem dMg_addConflict_37 : decode cMg_addConflict 37 = .ok (.iadd, 1) := by decide +kernel
theorem dMg_addConflict_38 : decode cMg_addConflict 38 = .ok (.aload_n 0, 1) := by decide +kernel
theorem dMg_addConflict_39 : decode cMg_addConflict 39 = .ok (.getfield 42, 3) := by decide +kernel
theorem dMg_addConflict_42 : decode cMg_addConflict 42 = .ok (.invokevirtual 111, 3) := by decide +kernel
theorem dMg_addConflict_45 : decode cMg_addConflict 45 = .ok (.iastore, 1) := by decide +kernel
theorem dMg_addConflict_46 : decode cMg_addConflict 46 = .ok (.aload_n 0, 1) := by decide +kernel
theorem dMg_addConflict_47 : decode cMg_addConflict 47 = .ok (.getfield 20, 3) := by decide +kernel
theorem dMg_addConflict_50 : decode cMg_addConflict 50 = .ok (.iload_n 1, 1) := by decide +kernel
theorem dMg_addConflict_51 : decode cMg_addConflict 51 = .ok (.iconst 2, 1) := by decide +kernel
theorem dMg_addConflict_52 : decode cMg_addConflict 52 = .ok (.iadd, 1) := by decide +kernel
theorem dMg_addConflict_53 : decode cMg_addConflict 53 = .ok (.aload_n 0, 1) := by decide +kernel
theorem dMg_addConflict_54 : decode cMg_addConflict 54 = .ok (.getfield 45, 3) := by decide +kernel
theorem dMg_addConflict_57 : decode cMg_addConflict 57 = .ok (.invokevirtual 111, 3) := by decide +kernel
theorem dMg_addConflict_60 : decode cMg_addConflict 60 = .ok (.iastore, 1) := by decide +kernel
theorem dMg_addConflict_61 : decode cMg_addConflict 61 = .ok (.aload_n 0, 1) := by decide +kernel
theorem dMg_addConflict_62 : decode cMg_addConflict 62 = .ok (.dup, 1) := by decide +kernel
theorem dMg_addConflict_63 : decode cMg_addConflict 63 = .ok (.getfield 24, 3) := by decide +kernel
theorem dMg_addConflict_66 : decode cMg_addConflict 66 = .ok (.iconst 1, 1) := by decide +kernel
theorem dMg_addConflict_67 : decode cMg_addConflict 67 = .ok (.iadd, 1) := by decide +kernel
theorem dMg_addConflict_68 : decode cMg_addConflict 68 = .ok (.putfield 24, 3) := by decide +kernel
theorem dMg_addConflict_71 : decode cMg_addConflict 71 = .ok (.return_, 1) := by decide +kernel
theorem dPg_init_0 : decode cPg_init 0 = .ok (.aload_n 0, 1) := by decide +kernel
theorem dPg_init_1 : decode cPg_init 1 = .ok (.invokespecial 3, 3) := by decide +kernel
theorem dPg_init_4 : decode cPg_init 4 = .ok (.aload_n 0, 1) := by decide +kernel
theorem dPg_init_5 : decode cPg_init 5 = .ok (.new 9, 3) := by decide +kernel
theorem dPg_init_8 : decode cPg_init 8 = .ok (.dup, 1) := by decide +kernel
theorem dPg_init_9 : decode cPg_init 9 = .ok (.bipush 120, 2) := by decide +kernel
theorem dPg_init_11 : decode cPg_init 11 = .ok (.invokespecial 11, 3) := by decide +kernel
theorem dPg_init_14 : decode cPg_init 14 = .ok (.putfield 14, 3) := by decide +kernel
theorem dPg_init_17 : decode cPg_init 17 = .ok (.aload_n 0, 1) := by decide +kernel
theorem dPg_init_18 : decode cPg_init 18 = .ok (.iconst 0, 1) := by decide +kernel
theorem dPg_init_19 : decode cPg_init 19 = .ok (.putfield 20, 3) := by decide +kernel
theorem dPg_init_22 : decode cPg_init 22 = .ok (.aload_n 0, 1) := by decide +kernel
theorem dPg_init_23 : decode cPg_init 23 = .ok (.aload_n 1, 1) := by decide +kernel
theorem dPg_init_24 : decode cPg_init 24 = .ok (.putfield 24, 3) := by decide +kernel
theorem dPg_init_27 : decode cPg_init 27 = .ok (.return_, 1) := by decide +kernel
theorem dPg_run_0 : decode cPg_run 0 = .ok (.aload_n 0, 1) := by decide +kernel
theorem dPg_run_1 : decode cPg_run 1 = .ok (.getfield 24, 3) := by decide +kernel
theorem dPg_run_4 : decode cPg_run 4 = .ok (.aload_n 1, 1) := by decide +kernel
theorem dPg_run_5 : decode cPg_run 5 = .ok (.aload_n 2, 1) := by decide +kernel
theorem dPg_run_6 : decode cPg_run 6 = .ok (.invokevirtual 28, 3) := by decide +kernel
theorem dPg_run_9 : decode cPg_run 9 = .ok (.aload_n 0, 1) := by decide +kernel
theorem dPg_run_10 : decode cPg_run 10 = .ok (.getfield 14, 3) := by decide +kernel
theorem dPg_run_13 : decode cPg_run 13 = .ok (.iconst 0, 1) := by decide +kernel
theorem dPg_run_14 : decode cPg_run 14 = .ok (.putfield 34, 3) := by decide +kernel
theorem dPg_run_17 : decode cPg_run 17 = .ok (.aload_n 0, 1) := by decide +kernel
theorem dPg_run_18 : decode cPg_run 18 = .ok (.iconst 0, 1) := by decide +kernel
theorem dPg_run_19 : decode cPg_run 19 = .ok (.putfield 20, 3) := by decide +kernel
theorem dPg_run_22 : decode cPg_run 22 = .ok (.iconst 0, 1) := by decide +kernel
theorem dPg_run_23 : decode cPg_run 23 = .ok (.istore 4, 2) := by decide +kernel
theorem dPg_run_25 : decode cPg_run 25 = .ok (.iconst 0, 1) := by decide +kernel
theorem dPg_run_26 : decode cPg_run 26 = .ok (.istore 5, 2) := by decide +kernel
theorem dPg_run_28 : decode cPg_run 28 = .ok (.iconst 0, 1) := by decide +kernel
theorem dPg_run_29 : decode cPg_run 29 = .ok (.istore 6, 2) := by decide +kernel
theorem dPg_run_31 : decode cPg_run 31 = .ok (.iload 6, 2) := by decide +kernel
theorem dPg_run_33 : decode cPg_run 33 = .ok (.aload_n 0, 1) := by decide +kernel
theorem dPg_run_34 : decode cPg_run 34 = .ok (.getfield 24, 3) := by decide +kernel
theorem dPg_run_37 : decode cPg_run 37 = .ok (.getfield 37, 3) := by decide +kernel
theorem dPg_run_40 : decode cPg_run 40 = .ok (.if_icmp .ge 145, 3) := by decide +kernel
theorem dPg_run_43 : decode cPg_run 43 = .ok (.iload 6, 2) := by decide +kernel
theorem dPg_run_45 : decode cPg_run 45 = .ok (.iconst 4, 1) := by decide +kernel
theorem dPg_run_46 : decode cPg_run 46 = .ok (.imul, 1) := by decide +kernel
theorem dPg_run_47 : decode cPg_run 47 = .ok (.istore 7, 2) := by decide +kernel
theorem dPg_run_49 : decode cPg_run 49 = .ok (.aload_n 0, 1) := by decide +kernel
theorem dPg_run_50 : decode cPg_run 50 = .ok (.getfield 24, 3) := by decide +kernel
theorem dPg_run_53 : decode cPg_run 53 = .ok (.getfield 38, 3) := by decide +kernel
theorem dPg_run_56 : decode cPg_run 56 = .ok (.iload 7, 2) := by decide +kernel
theorem dPg_run_58 : decode cPg_run 58 = .ok (.iconst 0, 1) := by decide +kernel
theorem dPg_run_59 : decode cPg_run 59 = .ok (.iadd, 1) := by decide +kernel
theorem dPg_run_60 : decode cPg_run 60 = .ok (.iaload, 1) := by decide +kernel
theorem dPg_run_61 : decode cPg_run 61 = .ok (.istore 8, 2) := by decide +kernel
theorem dPg_run_63 : decode cPg_run 63 = .ok (.aload_n 0, 1) := by decide +kernel
theorem dPg_run_64 : decode cPg_run 64 = .ok (.getfield 24, 3) := by decide +kernel
theorem dPg_run_67 : decode cPg_run 67 = .ok (.getfield 38, 3) := by decide +kernel
theorem dPg_run_70 : decode cPg_run 70 = .ok (.iload 7, 2) := by decide +kernel
theorem dPg_run_72 : decode cPg_run 72 = .ok (.iconst 1, 1) := by decide +kernel
theorem dPg_run_73 : decode cPg_run 73 = .ok (.iadd, 1) := by decide +kernel
theorem dPg_run_74 : decode cPg_run 74 = .ok (.iaload, 1) := by decide +kernel
theorem dPg_run_75 : decode cPg_run 75 = .ok (.istore 9, 2) := by decide +kernel
theorem dPg_run_77 : decode cPg_run 77 = .ok (.aload_n 0, 1) := by decide +kernel
theorem dPg_run_78 : decode cPg_run 78 = .ok (.getfield 24, 3) := by decide +kernel
theorem dPg_run_81 : decode cPg_run 81 = .ok (.getfield 38, 3) := by decide +kernel
theorem dPg_run_84 : decode cPg_run 84 = .ok (.iload 7, 2) := by decide +kernel
theorem dPg_run_86 : decode cPg_run 86 = .ok (.iconst 2, 1) := by decide +kernel
theorem dPg_run_87 : decode cPg_run 87 = .ok (.iadd, 1) := by decide +kernel
theorem dPg_run_88 : decode cPg_run 88 = .ok (.iaload, 1) := by decide +kernel
theorem dPg_run_89 : decode cPg_run 89 = .ok (.istore 10, 2) := by decide +kernel
theorem dPg_run_91 : decode cPg_run 91 = .ok (.aload_n 1, 1) := by decide +kernel
theorem dPg_run_92 : decode cPg_run 92 = .ok (.iload 8, 2) := by decide +kernel
theorem dPg_run_94 : decode cPg_run 94 = .ok (.iload 9, 2) := by decide +kernel
theorem dPg_run_96 : decode cPg_run 96 = .ok (.aload_n 3, 1) := by decide +kernel
theorem dPg_run_97 : decode cPg_run 97 = .ok (.iload 4, 2) := by decide +kernel
theorem dPg_run_99 : decode cPg_run 99 = .ok (.iload 8, 2) := by decide +kernel
theorem dPg_run_101 : decode cPg_run 101 = .ok (.iload 5, 2) := by decide +kernel
theorem dPg_run_103 : decode cPg_run 103 = .ok (.iadd, 1) := by decide +kernel
theorem dPg_run_104 : decode cPg_run 104 = .ok (.invokestatic 42, 3) := by decide +kernel
theorem dPg_run_107 : decode cPg_run 107 = .ok (.istore 11, 2) := by decide +kernel
theorem dPg_run_109 : decode cPg_run 109 = .ok (.iload 11, 2) := by decide +kernel
theorem dPg_run_111 : decode cPg_run 111 = .ok (.iconst (-1), 1) := by decide +kernel
theorem dPg_run_112 : decode cPg_run 112 = .ok (.if_icmp .ne 16, 3) := by decide +kernel
theorem dPg_run_115 : decode cPg_run 115 = .ok (.aload_n 0, 1) := by decide +kernel
theorem dPg_run_116 : decode cPg_run 116 = .ok (.dup, 1) := by decide +kernel
theorem dPg_run_117 : decode cPg_run 117 = .ok (.getfield 20, 3) := by decide +kernel
theorem dPg_run_120 : decode cPg_run 120 = .ok (.iconst 1, 1) := by decide +kernel
theorem dPg_run_121 : decode cPg_run 121 = .ok (.iadd, 1) := by decide +kernel
theorem dPg_run_122 : decode cPg_run 122 = .ok (.putfield 20, 3) := by decide +kernel
theorem dPg_run_125 : decode cPg_run 125 = .ok (.goto 54, 3) := by decide +kernel
theorem dPg_run_128 : decode cPg_run 128 = .ok (.aload_n 0, 1) := by decide +kernel
theorem dPg_run_129 : decode cPg_run 129 = .ok (.getfield 14, 3) := by decide +kernel
theorem dPg_run_132 : decode cPg_run 132 = .ok (.aload_n 3, 1) := by decide +kernel
theorem dPg_run_133 : decode cPg_run 133 = .ok (.iload 4, 2) := by decide +kernel
theorem dPg_run_135 : decode cPg_run 135 = .ok (.iload 11, 2) := by decide +kernel
theorem dPg_run_137 : decode cPg_run 137 = .ok (.invokevirtual 46, 3) := by decide +kernel
theorem dPg_run_140 : decode cPg_run 140 = .ok (.aload_n 0, 1) := by decide +kernel
theorem dPg_run_141 : decode cPg_run 141 = .ok (.getfield 14, 3) := by decide +kernel
theorem dPg_run_144 : decode cPg_run 144 = .ok (.aload_n 2, 1) := by decide +kernel
theorem dPg_run_145 : decode cPg_run 145 = .ok (.iload 10, 2) := by decide +kernel
theorem dPg_run_147 : decode cPg_run 147 = .ok (.iload 10, 2) := by decide +kernel
theorem dPg_run_149 : decode cPg_run 149 = .ok (.aload_n 0, 1) := by decide +kernel
theorem dPg_run_150 : decode cPg_run 150 = .ok (.getfield 24, 3) := by decide +kernel
theorem dPg_run_153 : decode cPg_run 153 = .ok (.getfield 38, 3) := by decide +kernel
theorem dPg_run_156 : decode cPg_run 156 = .ok (.iload 7, 2) := by decide +kernel
theorem dPg_run_158 : decode cPg_run 158 = .ok (.iconst 3, 1) := by decide +kernel
theorem dPg_run_159 : decode cPg_run 159 = .ok (.iadd, 1) := by decide +kernel
theorem dPg_run_160 : decode cPg_run 160 = .ok (.iaload, 1) := by decide +kernel
theorem dPg_run_161 : decode cPg_run 161 = .ok (.iadd, 1) := by decide +kernel
theorem dPg_run_162 : decode cPg_run 162 = .ok (.invokevirtual 46, 3) := by decide +kernel
theorem dPg_run_165 : decode cPg_run 165 = .ok (.iload 11, 2) := by decide +kernel
theorem dPg_run_167 : decode cPg_run 167 = .ok (.iload 9, 2) := by decide +kernel
theorem dPg_run_169 : decode cPg_run 169 = .ok (.iadd, 1) := by decide +kernel
theorem dPg_run_170 : decode cPg_run 170 = .ok (.istore 4, 2) := by decide +kernel
theorem dPg_run_172 : decode cPg_run 172 = .ok (.iload 11, 2) := by decide +kernel
theorem dPg_run_174 : decode cPg_run 174 = .ok (.iload 8, 2) := by decide +kernel
theorem dPg_run_176 : decode cPg_run 176 = .ok (.isub, 1) := by decide +kernel
theorem dPg_run_177 : decode cPg_run 177 = .ok (.istore 5, 2) := by decide +kernel
theorem dPg_run_179 : decode cPg_run 179 = .ok (.iinc 6 1, 3) := by decide +kernel
theorem dPg_run_182 : decode cPg_run 182 = .ok (.goto (-151), 3) := by decide +kernel
theorem dPg_run_185 : decode cPg_run 185 = .ok (.aload_n 0, 1) := by decide +kernel
theorem dPg_run_186 : decode cPg_run 186 = .ok (.getfield 14, 3) := by decide +kernel
theorem dPg_run_189 : decode cPg_run 189 = .ok (.aload_n 3, 1) := by decide +kernel
theorem dPg_run_190 : decode cPg_run 190 = .ok (.iload 4, 2) := by decide +kernel
theorem dPg_run_192 : decode cPg_run 192 = .ok (.aload_n 3, 1) := by decide +kernel
theorem dPg_run_193 : decode cPg_run 193 = .ok (.getfield 34, 3) := by decide +kernel
theorem dPg_run_196 : decode cPg_run 196 = .ok (.invokevirtual 46, 3) := by decide +kernel
theorem dPg_run_199 : decode cPg_run 199 = .ok (.return_, 1) := by decide +kernel
theorem dPg_nearestFit_0 : decode cPg_nearestFit 0 = .ok (.iconst (-1), 1) := by decide +kernel
theorem dPg_nearestFit_1 : decode cPg_nearestFit 1 = .ok (.istore 6, 2) := by decide +kernel
theorem dPg_nearestFit_3 : decode cPg_nearestFit 3 = .ok (.iload 4, 2) := by decide +kernel
theorem dPg_nearestFit_5 : decode cPg_nearestFit 5 = .ok (.istore 7, 2) := by decide +kernel
theorem dPg_nearestFit_7 : decode cPg_nearestFit 7 = .ok (.iload 7, 2) := by decide +kernel
theorem dPg_nearestFit_9 : decode cPg_nearestFit 9 = .ok (.aload_n 3, 1) := by decide +kernel
theorem dPg_nearestFit_10 : decode cPg_nearestFit 10 = .ok (.getfield 34, 3) := by decide +kernel
theorem dPg_nearestFit_13 : decode cPg_nearestFit 13 = .ok (.iload_n 2, 1) := by decide +kernel
theorem dPg_nearestFit_14 : decode cPg_nearestFit 14 = .ok (.isub, 1) := by decide +kernel
theorem dPg_nearestFit_15 : decode cPg_nearestFit 15 = .ok (.if_icmp .gt 62, 3) := by decide +kernel
theorem dPg_nearestFit_18 : decode cPg_nearestFit 18 = .ok (.iload 6, 2) := by decide +kernel
theorem dPg_nearestFit_20 : decode cPg_nearestFit 20 = .ok (.iconst (-1), 1) := by decide +kernel
theorem dPg_nearestFit_21 : decode cPg_nearestFit 21 = .ok (.if_icmp .eq 22, 3) := by decide +kernel
theorem dPg_nearestFit_24 : decode cPg_nearestFit 24 = .ok (.iload 7, 2) := by decide +kernel
theorem dPg_nearestFit_26 : decode cPg_nearestFit 26 = .ok (.iload 5, 2) := by decide +kernel
theorem dPg_nearestFit_28 : decode cPg_nearestFit 28 = .ok (.isub, 1) := by decide +kernel
theorem dPg_nearestFit_29 : decode cPg_nearestFit 29 = .ok (.invokestatic 50, 3) := by decide +kernel
theorem dPg_nearestFit_32 : decode cPg_nearestFit 32 = .ok (.iload 6, 2) := by decide +kernel
theorem dPg_nearestFit_34 : decode cPg_nearestFit 34 = .ok (.iload 5, 2) := by decide +kernel
theorem dPg_nearestFit_36 : decode cPg_nearestFit 36 = .ok (.isub, 1) := by decide +kernel
theorem dPg_nearestFit_37 : decode cPg_nearestFit 37 = .ok (.invokestatic 50, 3) := by decide +kernel
theorem dPg_nearestFit_40 : decode cPg_nearestFit 40 = .ok (.if_icmp .ge 7, 3) := by decide +kernel
theorem dPg_nearestFit_43 : decode cPg_nearestFit 43 = .ok (.iconst 1, 1) := by decide +kernel
theorem dPg_nearestFit_44 : decode cPg_nearestFit 44 = .ok (.goto 4, 3) := by decide +kernel
theorem dPg_nearestFit_47 : decode cPg_nearestFit 47 = .ok (.iconst 0, 1) := by decide +kernel
theorem dPg_nearestFit_48 : decode cPg_nearestFit 48 = .ok (.istore 8, 2) := by decide +kernel
theorem dPg_nearestFit_50 : decode cPg_nearestFit 50 = .ok (.iload 8, 2) := by decide +kernel
theorem dPg_nearestFit_52 : decode cPg_nearestFit 52 = .ok (.ifCond .eq 19, 3) := by decide +kernel
theorem dPg_nearestFit_55 : decode cPg_nearestFit 55 = .ok (.aload_n 0, 1) := by decide +kernel
theorem dPg_nearestFit_56 : decode cPg_nearestFit 56 = .ok (.iload_n 1, 1) := by decide +kernel
theorem dPg_nearestFit_57 : decode cPg_nearestFit 57 = .ok (.iload_n 2, 1) := by decide +kernel
theorem dPg_nearestFit_58 : decode cPg_nearestFit 58 = .ok (.aload_n 3, 1) := by decide +kernel
theorem dPg_nearestFit_59 : decode cPg_nearestFit 59 = .ok (.iload 7, 2) := by decide +kernel
theorem dPg_nearestFit_61 : decode cPg_nearestFit 61 = .ok (.invokestatic 56, 3) := by decide +kernel
theorem dPg_nearestFit_64 : decode cPg_nearestFit 64 = .ok (.ifCond .eq 7, 3) := by decide +kernel
theorem dPg_nearestFit_67 : decode cPg_nearestFit 67 = .ok (.iload 7, 2) := by decide +kernel
theorem dPg_nearestFit_69 : decode cPg_nearestFit 69 = .ok (.istore 6, 2) := by decide +kernel
theorem dPg_nearestFit_71 : decode cPg_nearestFit 71 = .ok (.iinc 7 1, 3) := by decide +kernel
theorem dPg_nearestFit_74 : decode cPg_nearestFit 74 = .ok (.goto (-67), 3) := by decide +kernel
theorem dPg_nearestFit_77 : decode cPg_nearestFit 77 = .ok (.iload 6, 2) := by decide +kernel
theorem dPg_nearestFit_79 : decode cPg_nearestFit 79 = .ok (.ireturn, 1) := by decide +kernel
theorem dPg_fits_0 : decode cPg_fits 0 = .ok (.iload_n 1, 1) := by decide +kernel
theorem dPg_fits_1 : decode cPg_fits 1 = .ok (.iconst 1, 1) := by decide +kernel
theorem dPg_fits_2 : decode cPg_fits 2 = .ok (.isub, 1) := by decide +kernel
theorem dPg_fits_3 : decode cPg_fits 3 = .ok (.iconst 0, 1) := by decide +kernel
theorem dPg_fits_4 : decode cPg_fits 4 = .ok (.invokestatic 60, 3) := by decide +kernel
theorem dPg_fits_7 : decode cPg_fits 7 = .ok (.istore 5, 2) := by decide +kernel
theorem dPg_fits_9 : decode cPg_fits 9 = .ok (.iload_n 1, 1) := by decide +kernel
theorem dPg_fits_10 : decode cPg_fits 10 = .ok (.iload_n 2, 1) := by decide +kernel
theorem dPg_fits_11 : decode cPg_fits 11 = .ok (.iadd, 1) := by decide +kernel
theorem dPg_fits_12 : decode cPg_fits 12 = .ok (.iconst 1, 1) := by decide +kernel
theorem dPg_fits_13 : decode cPg_fits 13 = .ok (.iadd, 1) := by decide +kernel
theorem dPg_fits_14 : decode cPg_fits 14 = .ok (.aload_n 0, 1) := by decide +kernel
theorem dPg_fits_15 : decode cPg_fits 15 = .ok (.getfield 34, 3) := by decide +kernel
theorem dPg_fits_18 : decode cPg_fits 18 = .ok (.invokestatic 64, 3) := by decide +kernel
theorem dPg_fits_21 : decode cPg_fits 21 = .ok (.istore 6, 2) := by decide +kernel
theorem dPg_fits_23 : decode cPg_fits 23 = .ok (.iload 5, 2) := by decide +kernel
theorem dPg_fits_25 : decode cPg_fits 25 = .ok (.istore 7, 2) := by decide +kernel
theorem dPg_fits_27 : decode cPg_fits 27 = .ok (.iload 7, 2) := by decide +kernel
theorem dPg_fits_29 : decode cPg_fits 29 = .ok (.iload 6, 2) := by decide +kernel
theorem dPg_fits_31 : decode cPg_fits 31 = .ok (.if_icmp .ge 32, 3) := by decide +kernel
theorem dPg_fits_34 : decode cPg_fits 34 = .ok (.aload_n 3, 1) := by decide +kernel
theorem dPg_fits_35 : decode cPg_fits 35 = .ok (.iload 4, 2) := by decide +kernel
theorem dPg_fits_37 : decode cPg_fits 37 = .ok (.iload 7, 2) := by decide +kernel
theorem dPg_fits_39 : decode cPg_fits 39 = .ok (.iadd, 1) := by decide +kernel
theorem dPg_fits_40 : decode cPg_fits 40 = .ok (.iload_n 1, 1) := by decide +kernel
theorem dPg_fits_41 : decode cPg_fits 41 = .ok (.isub, 1) := by decide +kernel
theorem dPg_fits_42 : decode cPg_fits 42 = .ok (.aload_n 0, 1) := by decide +kernel
theorem dPg_fits_43 : decode cPg_fits 43 = .ok (.getfield 67, 3) := by decide +kernel
theorem dPg_fits_46 : decode cPg_fits 46 = .ok (.iload 7, 2) := by decide +kernel
theorem dPg_fits_48 : decode cPg_fits 48 = .ok (.iaload, 1) := by decide +kernel
theorem dPg_fits_49 : decode cPg_fits 49 = .ok (.invokevirtual 70, 3) := by decide +kernel
theorem dPg_fits_52 : decode cPg_fits 52 = .ok (.ifCond .ne 5, 3) := by decide +kernel
theorem dPg_fits_55 : decode cPg_fits 55 = .ok (.iconst 0, 1) := by decide +kernel
theorem dPg_fits_56 : decode cPg_fits 56 = .ok (.ireturn, 1) := by decide +kernel
theorem dPg_fits_57 : decode cPg_fits 57 = .ok (.iinc 7 1, 3) := by decide +kernel
theorem dPg_fits_60 : decode cPg_fits 60 = .ok (.goto (-33), 3) := by decide +kernel
theorem dPg_fits_63 : decode cPg_fits 63 = .ok (.iconst 1, 1) := by decide +kernel
theorem dPg_fits_64 : decode cPg_fits 64 = .ok (.ireturn, 1) := by decide +kernel
theorem dVe_init_0 : decode cVe_init 0 = .ok (.aload_n 0, 1) := by decide +kernel
theorem dVe_init_1 : decode cVe_init 1 = .ok (.invokespecial 3, 3) := by decide +kernel
theorem dVe_init_4 : decode cVe_init 4 = .ok (.aload_n 0, 1) := by decide +kernel
theorem dVe_init_5 : decode cVe_init 5 = .ok (.bipush 30, 2) := by decide +kernel
theorem dVe_init_7 : decode cVe_init 7 = .ok (.newarray .int, 2) := by decide +kernel
theorem dVe_init_9 : decode cVe_init 9 = .ok (.putfield 9, 3) := by decide +kernel
theorem dVe_init_12 : decode cVe_init 12 = .ok (.aload_n 0, 1) := by decide +kernel
theorem dVe_init_13 : decode cVe_init 13 = .ok (.sipush 1800, 3) := by decide +kernel
theorem dVe_init_16 : decode cVe_init 16 = .ok (.newarray .int, 2) := by decide +kernel
theorem dVe_init_18 : decode cVe_init 18 = .ok (.putfield 15, 3) := by decide +kernel
theorem dVe_init_21 : decode cVe_init 21 = .ok (.aload_n 0, 1) := by decide +kernel
theorem dVe_init_22 : decode cVe_init 22 = .ok (.iconst 0, 1) := by decide +kernel
theorem dVe_init_23 : decode cVe_init 23 = .ok (.putfield 18, 3) := by decide +kernel
theorem dVe_init_26 : decode cVe_init 26 = .ok (.aload_n 0, 1) := by decide +kernel
theorem dVe_init_27 : decode cVe_init 27 = .ok (.new 22, 3) := by decide +kernel
theorem dVe_init_30 : decode cVe_init 30 = .ok (.dup, 1) := by decide +kernel
theorem dVe_init_31 : decode cVe_init 31 = .ok (.bipush 60, 2) := by decide +kernel
theorem dVe_init_33 : decode cVe_init 33 = .ok (.invokespecial 24, 3) := by decide +kernel
theorem dVe_init_36 : decode cVe_init 36 = .ok (.putfield 27, 3) := by decide +kernel
theorem dVe_init_39 : decode cVe_init 39 = .ok (.aload_n 0, 1) := by decide +kernel
theorem dVe_init_40 : decode cVe_init 40 = .ok (.aload_n 1, 1) := by decide +kernel
theorem dVe_init_41 : decode cVe_init 41 = .ok (.putfield 31, 3) := by decide +kernel
theorem dVe_init_44 : decode cVe_init 44 = .ok (.return_, 1) := by decide +kernel
theorem dVe_add_0 : decode cVe_add 0 = .ok (.aload_n 0, 1) := by decide +kernel
theorem dVe_add_1 : decode cVe_add 1 = .ok (.getfield 18, 3) := by decide +kernel
theorem dVe_add_4 : decode cVe_add 4 = .ok (.bipush 30, 2) := by decide +kernel
theorem dVe_add_6 : decode cVe_add 6 = .ok (.if_icmp .ge 39, 3) := by decide +kernel
theorem dVe_add_9 : decode cVe_add 9 = .ok (.aload_n 0, 1) := by decide +kernel
theorem dVe_add_10 : decode cVe_add 10 = .ok (.aload_n 1, 1) := by decide +kernel
theorem dVe_add_11 : decode cVe_add 11 = .ok (.invokevirtual 35, 3) := by decide +kernel
theorem dVe_add_14 : decode cVe_add 14 = .ok (.aload_n 0, 1) := by decide +kernel
theorem dVe_add_15 : decode cVe_add 15 = .ok (.getfield 9, 3) := by decide +kernel
theorem dVe_add_18 : decode cVe_add 18 = .ok (.aload_n 0, 1) := by decide +kernel
theorem dVe_add_19 : decode cVe_add 19 = .ok (.getfield 18, 3) := by decide +kernel
theorem dVe_add_22 : decode cVe_add 22 = .ok (.aload_n 1, 1) := by decide +kernel
theorem dVe_add_23 : decode cVe_add 23 = .ok (.getfield 39, 3) := by decide +kernel
theorem dVe_add_26 : decode cVe_add 26 = .ok (.iastore, 1) := by decide +kernel
theorem dVe_add_27 : decode cVe_add 27 = .ok (.aload_n 0, 1) := by decide +kernel
theorem dVe_add_28 : decode cVe_add 28 = .ok (.getfield 27, 3) := by decide +kernel
theorem dVe_add_31 : decode cVe_add 31 = .ok (.aload_n 1, 1) := by decide +kernel
theorem dVe_add_32 : decode cVe_add 32 = .ok (.invokevirtual 40, 3) := by decide +kernel
theorem dVe_add_35 : decode cVe_add 35 = .ok (.aload_n 0, 1) := by decide +kernel
theorem dVe_add_36 : decode cVe_add 36 = .ok (.dup, 1) := by decide +kernel
theorem dVe_add_37 : decode cVe_add 37 = .ok (.getfield 18, 3) := by decide +kernel
theorem dVe_add_40 : decode cVe_add 40 = .ok (.iconst 1, 1) := by decide +kernel
theorem dVe_add_41 : decode cVe_add 41 = .ok (.iadd, 1) := by decide +kernel
theorem dVe_add_42 : decode cVe_add 42 = .ok (.putfield 18, 3) := by decide +kernel
theorem dVe_add_45 : decode cVe_add 45 = .ok (.return_, 1) := by decide +kernel
theorem dVe_fillOrigins_0 : decode cVe_fillOrigins 0 = .ok (.aload_n 0, 1) := by decide +kernel
theorem dVe_fillOrigins_1 : decode cVe_fillOrigins 1 = .ok (.getfield 18, 3) := by decide +kernel
theorem dVe_fillOrigins_4 : decode cVe_fillOrigins 4 = .ok (.bipush 60, 2) := by decide +kernel
theorem dVe_fillOrigins_6 : decode cVe_fillOrigins 6 = .ok (.imul, 1) := by decide +kernel
theorem dVe_fillOrigins_7 : decode cVe_fillOrigins 7 = .ok (.istore_n 2, 1) := by decide +kernel
theorem dVe_fillOrigins_8 : decode cVe_fillOrigins 8 = .ok (.iconst 0, 1) := by decide +kernel
theorem dVe_fillOrigins_9 : decode cVe_fillOrigins 9 = .ok (.istore_n 3, 1) := by decide +kernel
theorem dVe_fillOrigins_10 : decode cVe_fillOrigins 10 = .ok (.iload_n 3, 1) := by decide +kernel
theorem dVe_fillOrigins_11 : decode cVe_fillOrigins 11 = .ok (.aload_n 1, 1) := by decide +kernel
theorem dVe_fillOrigins_12 : decode cVe_fillOrigins 12 = .ok (.getfield 39, 3) := by decide +kernel
theorem dVe_fillOrigins_15 : decode cVe_fillOrigins 15 = .ok (.if_icmp .ge 21, 3) := by decide +kernel
theorem dVe_fillOrigins_18 : decode cVe_fillOrigins 18 = .ok (.aload_n 0, 1) := by decide +kernel
theorem dVe_fillOrigins_19 : decode cVe_fillOrigins 19 = .ok (.getfield 15, 3) := by decide +kernel
theorem dVe_fillOrigins_22 : decode cVe_fillOrigins 22 = .ok (.iload_n 2, 1) := by decide +kernel
theorem dVe_fillOrigins_23 : decode cVe_fillOrigins 23 = .ok (.iload_n 3, 1) := by decide +kernel
theorem dVe_fillOrigins_24 : decode cVe_fillOrigins 24 = .ok (.iadd, 1) := by decide +kernel
theorem dVe_fillOrigins_25 : decode cVe_fillOrigins 25 = .ok (.aload_n 0, 1) := by decide +kernel
theorem dVe_fillOrigins_26 : decode cVe_fillOrigins 26 = .ok (.getfield 18, 3) := by decide +kernel
theorem dVe_fillOrigins_29 : decode cVe_fillOrigins 29 = .ok (.iastore, 1) := by decide +kernel
theorem dVe_fillOrigins_30 : decode cVe_fillOrigins 30 = .ok (.iinc 3 1, 3) := by decide +kernel
theorem dVe_fillOrigins_33 : decode cVe_fillOrigins 33 = .ok (.goto (-23), 3) := by decide +kernel
theorem dVe_fillOrigins_36 : decode cVe_fillOrigins 36 = .ok (.aload_n 0, 1) := by decide +kernel
theorem dVe_fillOrigins_37 : decode cVe_fillOrigins 37 = .ok (.getfield 18, 3) := by decide +kernel
theorem dVe_fillOrigins_40 : decode cVe_fillOrigins 40 = .ok (.ifCond .le 69, 3) := by decide +kernel
theorem dVe_fillOrigins_43 : decode cVe_fillOrigins 43 = .ok (.aload_n 0, 1) := by decide +kernel
theorem dVe_fillOrigins_44 : decode cVe_fillOrigins 44 = .ok (.getfield 31, 3) := by decide +kernel
theorem dVe_fillOrigins_47 : decode cVe_fillOrigins 47 = .ok (.aload_n 0, 1) := by decide +kernel
theorem dVe_fillOrigins_48 : decode cVe_fillOrigins 48 = .ok (.getfield 27, 3) := by decide +kernel
theorem dVe_fillOrigins_51 : decode cVe_fillOrigins 51 = .ok (.aload_n 1, 1) := by decide +kernel
theorem dVe_fillOrigins_52 : decode cVe_fillOrigins 52 = .ok (.invokevirtual 43, 3) := by decide +kernel
theorem dVe_fillOrigins_55 : decode cVe_fillOrigins 55 = .ok (.iconst 0, 1) := by decide +kernel
theorem dVe_fillOrigins_56 : decode cVe_fillOrigins 56 = .ok (.istore_n 3, 1) := by decide +kernel
theorem dVe_fillOrigins_57 : decode cVe_fillOrigins 57 = .ok (.iload_n 3, 1) := by decide +kernel
theorem dVe_fillOrigins_58 : decode cVe_fillOrigins 58 = .ok (.aload_n 0, 1) := by decide +kernel
theorem dVe_fillOrigins_59 : decode cVe_fillOrigins 59 = .ok (.getfield 31, 3) := by decide +kernel
theorem dVe_fillOrigins_62 : decode cVe_fillOrigins 62 = .ok (.getfield 49, 3) := by decide +kernel
theorem dVe_fillOrigins_65 : decode cVe_fillOrigins 65 = .ok (.if_icmp .ge 44, 3) := by decide +kernel
theorem dVe_fillOrigins_68 : decode cVe_fillOrigins 68 = .ok (.aload_n 0, 1) := by decide +kernel
theorem dVe_fillOrigins_69 : decode cVe_fillOrigins 69 = .ok (.getfield 15, 3) := by decide +kernel
theorem dVe_fillOrigins_72 : decode cVe_fillOrigins 72 = .ok (.iload_n 2, 1) := by decide +kernel
theorem dVe_fillOrigins_73 : decode cVe_fillOrigins 73 = .ok (.aload_n 0, 1) := by decide +kernel
theorem dVe_fillOrigins_74 : decode cVe_fillOrigins 74 = .ok (.getfield 31, 3) := by decide +kernel
theorem dVe_fillOrigins_77 : decode cVe_fillOrigins 77 = .ok (.getfield 50, 3) := by decide +kernel
theorem dVe_fillOrigins_80 : decode cVe_fillOrigins 80 = .ok (.iload_n 3, 1) := by decide +kernel
theorem dVe_fillOrigins_81 : decode cVe_fillOrigins 81 = .ok (.iaload, 1) := by decide +kernel
theorem dVe_fillOrigins_82 : decode cVe_fillOrigins 82 = .ok (.iadd, 1) := by decide +kernel
theorem dVe_fillOrigins_83 : decode cVe_fillOrigins 83 = .ok (.aload_n 0, 1) := by decide +kernel
theorem dVe_fillOrigins_84 : decode cVe_fillOrigins 84 = .ok (.getfield 15, 3) := by decide +kernel
theorem dVe_fillOrigins_87 : decode cVe_fillOrigins 87 = .ok (.iload_n 2, 1) := by decide +kernel
theorem dVe_fillOrigins_88 : decode cVe_fillOrigins 88 = .ok (.bipush 60, 2) := by decide +kernel
theorem dVe_fillOrigins_90 : decode cVe_fillOrigins 90 = .ok (.isub, 1) := by decide +kernel
theorem dVe_fillOrigins_91 : decode cVe_fillOrigins 91 = .ok (.aload_n 0, 1) := by decide +kernel
theorem dVe_fillOrigins_92 : decode cVe_fillOrigins 92 = .ok (.getfield 31, 3) := by decide +kernel
theorem dVe_fillOrigins_95 : decode cVe_fillOrigins 95 = .ok (.getfield 53, 3) := by decide +kernel
theorem dVe_fillOrigins_98 : decode cVe_fillOrigins 98 = .ok (.iload_n 3, 1) := by decide +kernel
theorem dVe_fillOrigins_99 : decode cVe_fillOrigins 99 = .ok (.iaload, 1) := by decide +kernel
theorem dVe_fillOrigins_100 : decode cVe_fillOrigins 100 = .ok (.iadd, 1) := by decide +kernel
theorem dVe_fillOrigins_101 : decode cVe_fillOrigins 101 = .ok (.iaload, 1) := by decide +kernel
theorem dVe_fillOrigins_102 : decode cVe_fillOrigins 102 = .ok (.iastore, 1) := by decide +kernel
theorem dVe_fillOrigins_103 : decode cVe_fillOrigins 103 = .ok (.iinc 3 1, 3) := by decide +kernel
theorem dVe_fillOrigins_106 : decode cVe_fillOrigins 106 = .ok (.goto (-49), 3) := by decide +kernel
theorem dVe_fillOrigins_109 : decode cVe_fillOrigins 109 = .ok (.return_, 1) := by decide +kernel
end
section
/-! PURE ROWS: lists behind arrays, parts of lists -/
/-- the array's first places hold the list -/
def rp (f : Nat → Int32) (xs : List Int32) : Prop := ∀ i, i < xs.length → f i = xs.getD i 0
theorem rp_nil (f : Nat → Int32) : rp f [] := fun i h => absurd h (Nat.not_lt_zero i)
theorem rp_snoc {f : Nat → Int32} {xs : List Int32} (h : rp f xs) (v : Int32) : rp (upd f xs.length v) (xs ++ [v]) := by
  intro i hi
  rw [List.length_append, List.length_singleton] at hi
  by_cases e : i = xs.length
  · subst e
    rw [pk_us]
    simp
  · rw [pk_un e, h i (by omega)]
    simp only [List.getD_eq_getElem?_getD]
    rw [List.getElem?_append_left (by omega)]
theorem rp_congr {f f1 : Nat → Int32} {xs : List Int32} (h : rp f xs) (e : ∀ i, i < xs.length → f1 i = f i) : rp f1 xs := fun i hi => by rw [e i hi]; exact h i hi
/-- the lines from i to ahead of j -/
def pt (xs : List Int32) (i j : Nat) : List Int32 := (xs.drop i).take (j - i)
theorem pt_self (xs : List Int32) (i : Nat) : pt xs i i = [] := by simp [pt]
theorem pt_len {xs : List Int32} {i j : Nat} (hj : j ≤ xs.length) : (pt xs i j).length = j - i := by
  simp only [pt, List.length_take, List.length_drop]
  omega
theorem pt_snoc {xs : List Int32} {i k : Nat} (h : i ≤ k) (hk : k < xs.length) : pt xs i (k + 1) = pt xs i k ++ [xs.getD k 0] := by
  have e : k + 1 - i = (k - i) + 1 := by omega
  have h2 : (xs.drop i)[k - i]? = some (xs.getD k 0) := by
    rw [List.getElem?_drop, show i + (k - i) = k by omega]
    simp [hk]
  rw [pt, pt, e, List.take_add_one, h2]
  rfl
theorem pt_all (xs : List Int32) : pt xs 0 xs.length = xs := by simp [pt]
theorem pt_get {xs : List Int32} {i j k : Nat} (hj : j ≤ xs.length) (hk : k < j - i) : (pt xs i j).getD k 0 = xs.getD (i + k) 0 := by
  simp only [pt, List.getD_eq_getElem?_getD]
  rw [List.getElem?_take_of_lt hk, List.getElem?_drop]
/-- two lists are the same if their places are -/
theorem l_ext0 {xs ys : List Int32} (hl : xs.length = ys.length) (h : ∀ i, i < xs.length → xs.getD i 0 = ys.getD i 0) : xs = ys := by
  refine List.ext_getElem hl (fun i h1 h2 => ?_)
  have := h i h1
  simpa [List.getD_eq_getElem?_getD, h1, h2] using this
end
section
/-! MY WORLD: a map from addresses to cells. A method gets the whole map and hands back a whole map; what it left alone its post says by 'g1 q = g q'. -/
section HWA
variable {D : va_G} {cl : List vw_C} {A B : Nat → Prop} {g g1 : Nat → Option va_E} {H H0 H1 : Heap} {a b sz : Nat} {x y : va_E} {locs : List Loc}
/-- the world as a map: what lies at an address -/
def hw (D : va_G) (cl : List vw_C) (A : Nat → Prop) (g : Nat → Option va_E) (H : Heap) : Prop := ∀ (a : Nat) (x : va_E), g a = some x → va_at D cl (a, x) H ∧ A a
/-- one cell is set -/
def hs (g : Nat → Option va_E) (a : Nat) (x : va_E) : Nat → Option va_E := fun q => if q = a then some x else g q
theorem hs_s (g : Nat → Option va_E) (a : Nat) (x : va_E) : hs g a x a = some x := if_pos rfl
theorem hs_n (g : Nat → Option va_E) {a b : Nat} (x : va_E) (h : b ≠ a) : hs g a x b = g b := if_neg h
/-- which cells a method may change: those of its world, and those that it makes -/
def hA (g : Nat → Option va_E) (sz : Nat) : Nat → Prop := fun q => (∃ x, g q = some x) ∨ sz ≤ q
theorem hw.P (h : hw D cl A g H) (he : g a = some x) : va_P D cl [(a, x)] H := fun k q hk => by
  match k, hk with
  | 0, hk => cases hk; exact (h a x he).1
  | k + 1, hk => simp at hk
theorem hw.weaken (h : hw D cl A g H) (hAB : ∀ q, A q → B q) : hw D cl B g H := fun a x he => ⟨(h a x he).1, hAB _ (h a x he).2⟩
theorem hw.self (h : hw D cl A g H) : hw D cl (hA g sz) g H := fun a x he => ⟨(h a x he).1, Or.inl ⟨x, he⟩⟩
theorem hw.lt (h : hw D cl A g H) (he : g a = some x) : a < H.size := (h a x he).1.lt
theorem hA.sub (h : hw D cl A g H) (hS : va_S A H0 H locs) (hA0 : ∀ q, H0.size ≤ q → A q) : ∀ q, hA g H.size q → A q := fun q hq => by
  rcases hq with ⟨x, hx⟩ | hq
  · exact (h q x hx).2
  · exact hA0 q (Nat.le_trans hS.1 hq)
/-- the same world as a pool, for the kit's rows -/
def hL (g : Nat → Option va_E) (n : Nat) : List Nat := (List.range n).filter (fun q => (g q).isSome)
def hf (g : Nat → Option va_E) : Nat → va_E := fun q => (g q).getD (.inr (0, []))
theorem hL_mem (h : hw D cl A g H) (he : g a = some x) : a ∈ hL g H.size := List.mem_filter.mpr ⟨List.mem_range.mpr (h.lt he), by rw [he]; rfl⟩
theorem hf_at (he : g a = some x) : hf g a = x := by simp [hf, he]
theorem hL_get {n k : Nat} {q : Nat × va_E} (hk : ([] ++ va_pl (hL g n) (hf g))[k]? = some q) : (hL g n)[k]? = some q.1 ∧ g q.1 = some q.2 := by
  simp only [List.nil_append, va_pl, List.getElem?_map] at hk
  cases hq : (hL g n)[k]? with
  | none => rw [hq] at hk; cases hk
  | some u =>
    rw [hq] at hk
    cases hk
    obtain ⟨z, hz⟩ := Option.isSome_iff_exists.mp (List.mem_filter.mp (List.mem_of_getElem? hq)).2
    exact ⟨rfl, by show g u = some (hf g u); rw [hf_at hz]; exact hz⟩
theorem hw.pP (h : hw D cl A g H) : va_P D cl ([] ++ va_pl (hL g H.size) (hf g)) H := fun k q hk => (h q.1 q.2 (hL_get hk).2).1
theorem hw.pD (h : hw D cl A g H) : va_D A ([] ++ va_pl (hL g H.size) (hf g)) := by
  refine ⟨fun i j u v hi hj huv => ?_, fun k q hk => (h q.1 q.2 (hL_get hk).2).2⟩
  have h1 := (hL_get hi).1
  have h2 := (hL_get hj).1
  rw [huv] at h1
  have hnd : (hL g H.size).Nodup := List.Pairwise.filter _ List.nodup_range
  exact (List.getElem?_inj (List.getElem?_eq_some_iff.mp h1).1 hnd).mp (h1.trans h2.symm)
theorem hw.ix (h : hw D cl A g H) (he : g a = some x) : ∃ k : Nat, ([] ++ va_pl (hL g H.size) (hf g))[k]? = some (a, x) := by
  obtain ⟨k, hk⟩ := va_pl_get (X := []) (f := hf g) (hL_mem h he)
  exact ⟨k, by rw [hf_at he] at hk; exact hk⟩
theorem hw.ofSet (h : hw D cl A g H) (he : g a = some x) {k : Nat} (hk : ([] ++ va_pl (hL g H.size) (hf g))[k]? = some (a, x)) (hP : va_P D cl (([] ++ va_pl (hL g H.size) (hf g)).set k (a, y)) H1) : hw D cl A (hs g a y) H1 := by
  rw [va_pl_set h.pD (hL_mem h he) (by rw [hf_at he]; exact hk)] at hP
  intro b z hb
  by_cases e : b = a
  · subst e
    rw [hs_s] at hb
    cases hb
    obtain ⟨j, hj⟩ := va_pl_get (X := []) (f := va_up (hf g) b y) (hL_mem h he)
    rw [va_up_self] at hj
    exact ⟨hP j _ hj, (h b x he).2⟩
  · rw [hs_n g y e] at hb
    obtain ⟨j, hj⟩ := va_pl_get (X := []) (f := va_up (hf g) a y) (hL_mem h hb)
    rw [va_up_ne _ _ e, hf_at hb] at hj
    exact ⟨hP j _ hj, (h b z hb).2⟩
theorem hw.ofPush (h : hw D cl A g H) {q : Nat} (hP : va_P D cl (([] ++ va_pl (hL g H.size) (hf g)) ++ [(q, y)]) H1) (hD : va_D A (([] ++ va_pl (hL g H.size) (hf g)) ++ [(q, y)])) : hw D cl A (hs g q y) H1 ∧ g q = none := by
  have hq : q ∉ hL g H.size := va_pl_fresh2 hD
  have hn : g q = none := by
    cases e : g q with
    | none => rfl
    | some z => exact absurd (hL_mem h e) hq
  have hlast : (([] ++ va_pl (hL g H.size) (hf g)) ++ [(q, y)])[([] ++ va_pl (hL g H.size) (hf g)).length]? = some (q, y) := by
    rw [List.getElem?_append_right (Nat.le_refl _), Nat.sub_self]; rfl
  refine ⟨fun b z hb => ?_, hn⟩
  by_cases e : b = q
  · subst e
    rw [hs_s] at hb
    cases hb
    exact ⟨hP _ _ hlast, hD.2 _ _ hlast⟩
  · rw [hs_n g y e] at hb
    obtain ⟨j, hj⟩ := h.ix hb
    have hj2 : (([] ++ va_pl (hL g H.size) (hf g)) ++ [(q, y)])[j]? = some (b, z) := by
      rw [List.getElem?_append_left (List.getElem?_eq_some_iff.mp hj).1]; exact hj
    exact ⟨hP _ _ hj2, hD.2 _ _ hj2⟩
/-- different cells lie apart -/
theorem h_ne (ha : g a = some x) (hb : g b = some y) (h : x ≠ y) : a ≠ b := fun e => h (by subst e; exact Option.some.inj (ha.symm.trans hb))
/-- only the cells of S have changed -/
def hfr (g g1 : Nat → Option va_E) (S : List Nat) : Prop := ∀ q, q ∉ S → g1 q = g q
theorem hfr.rf {S : List Nat} : hfr g g S := fun _ _ => rfl
theorem hfr.put {g2 : Nat → Option va_E} {S : List Nat} (h : hfr g g1 S) (e : g2 = hs g1 a x) (ha : a ∈ S) : hfr g g2 S := fun q hq => by
  rw [e, hs_n _ _ (fun z => hq (by rw [z]; exact ha))]
  exact h q hq
theorem hfr.call {g2 : Nat → Option va_E} {S S1 : List Nat} (h : hfr g g1 S) (h2 : hfr g1 g2 S1) (hS : ∀ q ∈ S1, q ∈ S) : hfr g g2 S := fun q hq => by
  rw [h2 q (fun z => hq (hS q z))]
  exact h q hq
theorem hfr.at {S : List Nat} (h : hfr g g1 S) (hb : b ∉ S) (he : g b = some x) : g1 b = some x := by rw [h b hb]; exact he
theorem h_nm {S : List Nat} (h : a ≠ b) (h2 : a ∉ S) : a ∉ b :: S := fun z => (List.mem_cons.mp z).elim h h2
theorem h_n0 : a ∉ ([] : List Nat) := List.not_mem_nil
end HWA
section HWR
variable {p : Program} {l : Launch} {e : Env} {R : Room} {s : State} {m : MethodId} {args : Array Value} {below : List Frame} {meth : Method} {c : Code} {H : Heap} {locs : List Loc} {cells slots : Nat} {Q : State → Prop}
variable {cc : ByteArray} {pc nL : Nat} {ls : Array Slot} {rest : List Value} {D : va_G} {A : Nat → Prop} {a : Nat} {tys : List (ClassId × FieldType)} {H0 : Heap} {own : String} {g : Nat → Option va_E}
theorem hw_get (S0 : CallFix p m c cc nL s args hB own) (hK : va_K D hC tys s) (hg : hw D hC A g H) {ref C : String} {T : u_T} {N ci index : Nat} {fs : List Value} (he : g a = some (.inr (ci, fs))) (hc : hC[ci]? = some (C, T, N)) (hin : ∀ w ∈ u_ws C T N, w ∈ hB) (k : Nat) (hk : k < N) (hlink : Cond.fieldLink own index ref (T k).2.1 (T k).2.2.1 ∈ hB) (hsame : (T k).1 = ref) {v : Value} (hv : fs[k]? = some v) (hdg : decode cc pc = .ok (.getfield index, 3))
    (kk : W p l e R s m args below meth c H locs cells slots Q (F0 m (pc + 3) ls (v :: rest))) : W p l e R s m args below meth c H locs cells slots Q (F0 m pc ls (.ref a :: rest)) :=
  va_get S0.1 S0.2.1 S0.2.2.2.2 hin S0.2.2.2.1 hK (hg.P he) 0 rfl hc k hk (S0.2.2.2.2 _ hlink) (fun x h => by rw [← hsame]; exact h) hv hdg kk
theorem hw_put (S0 : CallFix p m c cc nL s args hB own) (hK : va_K D hC tys s) (hg : hw D hC A g H) (hS : va_S A H0 H locs) {ref C : String} {T : u_T} {N ci index : Nat} {fs : List Value} (he : g a = some (.inr (ci, fs))) (hc : hC[ci]? = some (C, T, N)) (hin : ∀ w ∈ u_ws C T N, w ∈ hB) (ty0 : Nat → FieldType) (hty : ∀ k, k < N → parseFieldDescriptor (T k).2.2.1 = some (ty0 k)) (hnm : ∀ a, a < N → ∀ b, b < N → a ≠ b → (T a).2.1 ≠ (T b).2.1)
    (k : Nat) (hk : k < N) (hlink : Cond.fieldLink own index ref (T k).2.1 (T k).2.2.1 ∈ hB) (hsame : (T k).1 = ref) (hfin : (T k).2.2.2 = false) {v : Value} (hn : narrow (ty0 k) v = v) (hfit : fits (ty0 k) v = true) (hl : k < fs.length) (hdg : decode cc pc = .ok (.putfield index, 3))
    (kk : ∀ (H1 : Heap) (locs1 : List Loc), hw D hC A (hs g a (.inr (ci, fs.set k v))) H1 → va_S A H0 H1 locs1 → W p l e R s m args below meth c H1 locs1 cells slots Q (F0 m (pc + 3) ls rest)) : W p l e R s m args below meth c H locs cells slots Q (F0 m pc ls (v :: .ref a :: rest)) := by
  obtain ⟨q0, hq0⟩ := hg.ix he
  exact va_put S0.1 S0.2.1 S0.2.2.2.2 hin ty0 hty hnm S0.2.2.2.1 hK hg.pP hg.pD hS q0 hq0 hc k hk (S0.2.2.2.2 _ hlink) (fun x h => by rw [← hsame]; exact h) hfin (hty k hk) hn hfit hl hdg (fun H1 locs1 hP hD hS1 => kk H1 locs1 (hg.ofSet he hq0 hP) hS1)
theorem hw_putF (S0 : CallFix p m c cc nL s args hB own) (hK : va_K D hC tys s) (hg : hw D hC A g H) (hS : va_S A H0 H locs) {ref C : String} {T : u_T} {N ci index : Nat} {fs : List Value} (he : g a = some (.inr (ci, fs))) (hc : hC[ci]? = some (C, T, N)) (hin : ∀ w ∈ u_ws C T N, w ∈ hB) (ty0 : Nat → FieldType) (hty : ∀ k, k < N → parseFieldDescriptor (T k).2.2.1 = some (ty0 k)) (hnm : ∀ a, a < N → ∀ b, b < N → a ≠ b → (T a).2.1 ≠ (T b).2.1)
    (k : Nat) (hk : k < N) (hlink : Cond.fieldLink own index ref (T k).2.1 (T k).2.2.1 ∈ hB) (hsame : (T k).1 = ref) (hfin : (T k).2.2.2 = true) (hini : meth.name = "<init>") (hdecl : (T k).1 = own) {v : Value} (hn : narrow (ty0 k) v = v) (hfit : fits (ty0 k) v = true) (hl : k < fs.length) (hdg : decode cc pc = .ok (.putfield index, 3))
    (kk : ∀ (H1 : Heap) (locs1 : List Loc), hw D hC A (hs g a (.inr (ci, fs.set k v))) H1 → va_S A H0 H1 locs1 → W p l e R s m args below meth c H1 locs1 cells slots Q (F0 m (pc + 3) ls rest)) : W p l e R s m args below meth c H locs cells slots Q (F0 m pc ls (v :: .ref a :: rest)) := by
  obtain ⟨q0, hq0⟩ := hg.ix he
  exact va_putF S0.1 S0.2.1 S0.2.2.2.2 hin ty0 hty hnm S0.2.2.2.1 hK hg.pP hg.pD hS q0 hq0 hc k hk (S0.2.2.2.2 _ hlink) (fun x h => by rw [← hsame]; exact h) hfin hini hdecl (hty k hk) hn hfit hl hdg (fun H1 locs1 hP hD hS1 => kk H1 locs1 (hg.ofSet he hq0 hP) hS1)
theorem hw_iald (S0 : CallFix p m c cc nL s args hB own) (hK : va_K D hC tys s) (hg : hw D hC A g H) {cA : ClassId} {n : Nat} {f : Nat → Int32} (he : g a = some (.inl (cA, n, .inl f))) (t0 : Nat) (ht : tys[t0]? = some (cA, .int)) {i : Nat} (hi : i < n) (hn : n < 2 ^ 31) (hdg : decode cc pc = .ok (.iaload, 1))
    (kk : W p l e R s m args below meth c H locs cells slots Q (F0 m (pc + 1) ls (.int (f i) :: rest))) : W p l e R s m args below meth c H locs cells slots Q (F0 m pc ls (.int (nI i) :: .ref a :: rest)) :=
  va_iald S0.1 S0.2.1 hK (hg.P he) 0 t0 rfl ht (vp_in_nI hi hn) hdg (by rw [nI_clamp (by omega)]; exact kk)
theorem hw_iast (S0 : CallFix p m c cc nL s args hB own) (hK : va_K D hC tys s) (hg : hw D hC A g H) (hS : va_S A H0 H locs) {cA : ClassId} {n : Nat} {f : Nat → Int32} (he : g a = some (.inl (cA, n, .inl f))) (t0 : Nat) (ht : tys[t0]? = some (cA, .int)) {i : Nat} {v : Int32} (hi : i < n) (hn : n < 2 ^ 31) (hdg : decode cc pc = .ok (.iastore, 1))
    (kk : ∀ (H1 : Heap) (locs1 : List Loc), hw D hC A (hs g a (.inl (cA, n, .inl (upd f i v)))) H1 → va_S A H0 H1 locs1 → W p l e R s m args below meth c H1 locs1 cells slots Q (F0 m (pc + 1) ls rest)) : W p l e R s m args below meth c H locs cells slots Q (F0 m pc ls (.int v :: .int (nI i) :: .ref a :: rest)) := by
  obtain ⟨q0, hq0⟩ := hg.ix he
  refine va_iast S0.1 S0.2.1 hK hg.pP hg.pD hS q0 t0 hq0 ht (vp_in_nI hi hn) hdg (fun H1 locs1 hP hD hS1 => ?_)
  rw [nI_clamp (by omega)] at hP
  exact kk H1 locs1 (hg.ofSet he hq0 hP) hS1
theorem hw_lald (S0 : CallFix p m c cc nL s args hB own) (hK : va_K D hC tys s) (hg : hw D hC A g H) {cA : ClassId} {n : Nat} {f : Nat → Int64} (he : g a = some (.inl (cA, n, .inr (.inl f)))) (t0 : Nat) (ht : tys[t0]? = some (cA, .long)) {i : Nat} (hi : i < n) (hn : n < 2 ^ 31) (hdg : decode cc pc = .ok (.laload, 1))
    (kk : W p l e R s m args below meth c H locs cells slots Q (F0 m (pc + 1) ls (.long (f i) :: rest))) : W p l e R s m args below meth c H locs cells slots Q (F0 m pc ls (.int (nI i) :: .ref a :: rest)) :=
  va_lald S0.1 S0.2.1 hK (hg.P he) 0 t0 rfl ht (vp_in_nI hi hn) hdg (by rw [nI_clamp (by omega)]; exact kk)
theorem hw_last (S0 : CallFix p m c cc nL s args hB own) (hK : va_K D hC tys s) (hg : hw D hC A g H) (hS : va_S A H0 H locs) {cA : ClassId} {n : Nat} {f : Nat → Int64} (he : g a = some (.inl (cA, n, .inr (.inl f)))) (t0 : Nat) (ht : tys[t0]? = some (cA, .long)) {i : Nat} {v : Int64} (hi : i < n) (hn : n < 2 ^ 31) (hdg : decode cc pc = .ok (.lastore, 1))
    (kk : ∀ (H1 : Heap) (locs1 : List Loc), hw D hC A (hs g a (.inl (cA, n, .inr (.inl (vp_updL f i v))))) H1 → va_S A H0 H1 locs1 → W p l e R s m args below meth c H1 locs1 cells slots Q (F0 m (pc + 1) ls rest)) : W p l e R s m args below meth c H locs cells slots Q (F0 m pc ls (.long v :: .int (nI i) :: .ref a :: rest)) := by
  obtain ⟨q0, hq0⟩ := hg.ix he
  refine va_last S0.1 S0.2.1 hK hg.pP hg.pD hS q0 t0 hq0 ht (vp_in_nI hi hn) hdg (fun H1 locs1 hP hD hS1 => ?_)
  rw [nI_clamp (by omega)] at hP
  exact kk H1 locs1 (hg.ofSet he hq0 hP) hS1
theorem hw_alen (S0 : CallFix p m c cc nL s args hB own) (hK : va_K D hC tys s) (hg : hw D hC A g H) {cA : ClassId} {x : vp_A} (he : g a = some (.inl (cA, x))) (t0 : Nat) {ty : FieldType} (ht : tys[t0]? = some (cA, ty)) (hdg : decode cc pc = .ok (.arraylength, 1))
    (kk : W p l e R s m args below meth c H locs cells slots Q (F0 m (pc + 1) ls (.int (nI x.1) :: rest))) : W p l e R s m args below meth c H locs cells slots Q (F0 m pc ls (.ref a :: rest)) :=
  va_alen S0.1 S0.2.1 hK (hg.P he) 0 t0 rfl ht (v := nI x.1) rfl hdg kk
theorem hw_aald (S0 : CallFix p m c cc nL s args hB own) (hK : va_K D hC tys s) (hg : hw D hC A g H) {cA : ClassId} {C : String} {n : Nat} {f : Nat → Option Nat} (he : g a = some (.inl (cA, n, .inr (.inr (.inr (.inr f)))))) (t0 : Nat) (ht : tys[t0]? = some (cA, .object C)) {i b : Nat} (hi : i < n) (hn : n < 2 ^ 31) (hf : f i = some b) (hdg : decode cc pc = .ok (.aaload, 1))
    (kk : W p l e R s m args below meth c H locs cells slots Q (F0 m (pc + 1) ls (.ref b :: rest))) : W p l e R s m args below meth c H locs cells slots Q (F0 m pc ls (.int (nI i) :: .ref a :: rest)) :=
  va_aldq S0.1 S0.2.1 hK (hg.P he) 0 t0 rfl ht (vp_in_nI hi hn) hdg (by rw [nI_clamp (by omega), hf]; exact kk)
theorem hw_aast (S0 : CallFix p m c cc nL s args hB own) (hK : va_K D hC tys s) (hg : hw D hC A g H) (hS : va_S A H0 H locs) {cA : ClassId} {r : vw_C} {n v ci : Nat} {vs : List Value} {f : Nat → Option Nat} (he : g a = some (.inl (cA, n, .inr (.inr (.inr (.inr f)))))) (t0 : Nat) (ht : tys[t0]? = some (cA, .object r.1)) (hv : g v = some (.inr (ci, vs))) (hc : hC[ci]? = some r) {i : Nat} (hi : i < n) (hn : n < 2 ^ 31) (hdg : decode cc pc = .ok (.aastore, 1))
    (kk : ∀ (H1 : Heap) (locs1 : List Loc), hw D hC A (hs g a (.inl (cA, n, .inr (.inr (.inr (.inr (va_up f i (some v)))))))) H1 → va_S A H0 H1 locs1 → W p l e R s m args below meth c H1 locs1 cells slots Q (F0 m (pc + 1) ls rest)) : W p l e R s m args below meth c H locs cells slots Q (F0 m pc ls (.ref v :: .int (nI i) :: .ref a :: rest)) := by
  obtain ⟨q0, hq0⟩ := hg.ix he
  obtain ⟨q1, hq1⟩ := hg.ix hv
  refine va_astq S0.1 S0.2.1 hK hg.pP hg.pD hS q0 t0 q1 ci hq0 ht hq1 hc (vp_in_nI hi hn) hdg (fun H1 locs1 hP hD hS1 => ?_)
  rw [nI_clamp (by omega)] at hP
  exact kk H1 locs1 (hg.ofSet he hq0 hP) hS1
theorem hw_new (S0 : CallFix p m c cc nL s args hB own) (hK : va_K D hC tys s) (hg : hw D hC A g H) (hS : va_S A H0 H locs) (hA0 : ∀ q, H0.size ≤ q → A q) {C : String} {T : u_T} {N ci index : Nat} (hc : hC[ci]? = some (C, T, N)) (hin : ∀ w ∈ u_ws C T N, w ∈ hB) (ty0 : Nat → FieldType) (hty : ∀ k, k < N → parseFieldDescriptor (T k).2.2.1 = some (ty0 k)) (hcl : Cond.classLink own index C ∈ hB) (hinst : Cond.instantiable C N ∈ hB) (hini : Cond.initialized C ∈ hB)
    {fs : List Value} (hfs : ∀ j, j < N → defaultValue (ty0 j) = vp_V fs j) (hcells : cells + 1 ≤ R.cells) (hslots : slots + N ≤ R.slots) (hdg : decode cc pc = .ok (.new index, 3))
    (kk : ∀ (q : Nat) (H1 : Heap), g q = none → hw D hC A (hs g q (.inr (ci, fs))) H1 → va_S A H0 H1 locs → W p l e R s m args below meth c H1 locs (cells + 1) (slots + N) Q (F0 m (pc + 3) ls (.ref q :: rest))) : W p l e R s m args below meth c H locs cells slots Q (F0 m pc ls rest) :=
  va_new S0.1 S0.2.1 S0.2.2.2.2 hin ty0 hty S0.2.2.2.1 (S0.2.2.2.2 _ hcl) (S0.2.2.2.2 _ hinst) (S0.2.2.2.2 _ hini) hK hg.pP hg.pD hS hA0 hc hfs hcells hslots hdg (fun q H1 hP hD hS1 => kk q H1 (hg.ofPush hP hD).2 (hg.ofPush hP hD).1 hS1)
/-- an array of a primitive type: its class is the one that the world knows -/
theorem hw_newa (S0 : CallFix p m c cc nL s args hB own) (hK : va_K D hC tys s) (hg : hw D hC A g H) (hS : va_S A H0 H locs) (hA0 : ∀ q, H0.size ≤ q → A q) {atype : ArrayType} {ty : FieldType} (hty : newarray.typeOf atype = ty) (harr : Cond.arrayClass ty ∈ hB) {cI : ClassId} (t0 : Nat) (ht : tys[t0]? = some (cI, ty)) (hob : ∀ C, ty ≠ .object C)
    {n : Nat} {a0 : vp_A} (ha : ∀ cA : ClassId, vp_cell cA a0 = arrV cA n (fun _ => defaultValue ty)) (hn : n < 2 ^ 31) (hbytes : n * componentBytes ty ≤ 536870912) (hcells : cells + 1 ≤ R.cells) (hslots : slots + n ≤ R.slots) (hdg : decode cc pc = .ok (.newarray atype, 2))
    (kk : ∀ (q : Nat) (H1 : Heap), g q = none → hw D hC A (hs g q (.inl (cI, a0))) H1 → va_S A H0 H1 locs → W p l e R s m args below meth c H1 locs (cells + 1) (slots + n) Q (F0 m (pc + 2) ls (.ref q :: rest))) : W p l e R s m args below meth c H locs cells slots Q (F0 m pc ls (.int (nI n) :: rest)) := by
  refine va_newa S0.1 S0.2.1 (by rw [hty]; exact S0.2.2.2.2 _ harr) hty hK hg.pP hg.pD hS hA0 ha (nI_pos hn) (nI_clamp hn) hbytes hcells hslots hdg (fun q cA H1 hK1 hP hD hS1 => ?_)
  have h1 : va_RA s cA ty := (hK1.2 tys.length (cA, ty) (by rw [List.getElem?_append_right (Nat.le_refl _), Nat.sub_self]; rfl)).2
  have h2 : va_RA s cI ty := (hK.2 t0 _ ht).2
  have h3 : cA = cI := by
    cases ty with
    | object C => exact absurd rfl (hob C)
    | _ => exact Option.some.inj (Eq.trans (Eq.symm h1) h2)
  subst h3
  exact kk q H1 (hg.ofPush hP hD).2 (hg.ofPush hP hD).1 hS1
theorem hw_newq (S0 : CallFix p m c cc nL s args hB own) (hK : va_K D hC tys s) (hg : hw D hC A g H) (hS : va_S A H0 H locs) (hA0 : ∀ q, H0.size ≤ q → A q) {C : String} {index : Nat} (hclink : Cond.classLink own index C ∈ hB) (hover : va_AO C s) {cR : ClassId} (t0 : Nat) (ht : tys[t0]? = some (cR, .object C))
    {n : Nat} (hn : n < 2 ^ 27) (hcells : cells + 1 ≤ R.cells) (hslots : slots + n ≤ R.slots) (hdg : decode cc pc = .ok (.anewarray index, 3))
    (kk : ∀ (q : Nat) (H1 : Heap), g q = none → hw D hC A (hs g q (.inl (cR, n, .inr (.inr (.inr (.inr (fun _ => none))))))) H1 → va_S A H0 H1 locs → W p l e R s m args below meth c H1 locs (cells + 1) (slots + n) Q (F0 m (pc + 3) ls (.ref q :: rest))) : W p l e R s m args below meth c H locs cells slots Q (F0 m pc ls (.int (nI n) :: rest)) := by
  refine va_newq S0.1 S0.2.1 S0.2.2.2.1 (S0.2.2.2.2 _ hclink) hover hK hg.pP hg.pD hS hA0 (nI_pos (by omega)) (nI_clamp (by omega)) (by omega) hcells hslots hdg (fun q cA H1 hK1 hP hD hS1 => ?_)
  obtain ⟨_, _, _, _, _, h1⟩ := (hK1.2 tys.length (cA, .object C) (by rw [List.getElem?_append_right (Nat.le_refl _), Nat.sub_self]; rfl)).2
  obtain ⟨_, _, _, _, _, h2⟩ := (hK.2 t0 _ ht).2
  have h3 : cA = cR := Option.some.inj (h1.symm.trans h2)
  subst h3
  exact kk q H1 (hg.ofPush hP hD).2 (hg.ofPush hP hD).1 hS1
/-- the top of the stack by another name -/
theorem hw_top {x : Int32} (y : Int32) (h : x = y) (k : W p l e R s m args below meth c H locs cells slots Q (F0 m pc ls (.int y :: rest))) : W p l e R s m args below meth c H locs cells slots Q (F0 m pc ls (.int x :: rest)) := by rw [h]; exact k
end HWR
section HWC
variable {p : Program} {l : Launch} {e : Env} {R : Room} {s : State} {m : MethodId} {args : Array Value} {below : List Frame} {meth : Method} {c : Code} {H : Heap} {locs : List Loc} {cells slots : Nat} {Q : State → Prop}
variable {cc bytes : ByteArray} {pc nL maxL index n mc ms sz : Nat} {ls : Array Slot} {rest st0 As av : List Value} {D : va_G} {A : Nat → Prop} {a b : Nat} {tys : List (ClassId × FieldType)} {H0 : Heap} {own : String} {g : Nat → Option va_E} {y : MethodName} {rm rk : Room} {ret : Option FieldType}
/-- a room: frames, words of locals, cells, slots -/
def hRm (f lo c s : Nat) : Room := { frames := f, cells := c, slots := s, locals := lo }
/-- the caller's room holds the callee's -/
def hRle (rm R : Room) : Prop := rm.frames ≤ R.frames ∧ rm.locals ≤ R.locals ∧ rm.cells ≤ R.cells ∧ rm.slots ≤ R.slots
theorem hRle.rf : hRle rm rm := ⟨Nat.le_refl _, Nat.le_refl _, Nat.le_refl _, Nat.le_refl _⟩
theorem hRle.call (h : hRle rm R) (h1 : (Nat.ble (rk.frames + 1) rm.frames && Nat.ble (8 + (maxL + 11) + rk.locals) rm.locals) = true) : rk.frames + 1 ≤ R.frames ∧ 8 + (maxL + 11) + rk.locals ≤ R.locals := by
  rw [Bool.and_eq_true] at h1
  exact ⟨Nat.le_trans (Nat.le_of_ble_eq_true h1.1) h.1, Nat.le_trans (Nat.le_of_ble_eq_true h1.2) h.2.1⟩
theorem hRle.new (h : hRle rm R) (h1 : cells + mc ≤ rm.cells) (h2 : slots + ms ≤ rm.slots) : cells + mc ≤ R.cells ∧ slots + ms ≤ R.slots := ⟨Nat.le_trans h1 h.2.2.1, Nat.le_trans h2 h.2.2.2⟩
theorem h_cwV (S0 : CallFix p m c cc nL s args hB own) (k : hcV y bytes maxL ret n) (hl : Cond.methodLink own index y ∈ hB) (hR : rk.frames + 1 ≤ R.frames ∧ 8 + (maxL + 11) + rk.locals ≤ R.locals) : CallW R s args own y.cls index y bytes maxL ret (Cond.code y bytes maxL ret :: hB) rk rk.cells rk.slots n := by
  obtain ⟨k1, k2, k3, k4, k5⟩ := k
  refine cwV n S0.2.2.2.2 ?_ rfl rfl rfl ⟨rfl, k3⟩ hR
  intro w hw
  rcases List.mem_append.mp (show w ∈ ([Cond.methodLink own index y, .instanceMethod y, .selects y.cls y y, .initialized y.cls] : List Cond) ++ (Cond.code y bytes maxL ret :: hB) from hw) with h | h
  · rcases List.mem_cons.mp h with rfl | h
    · exact hB_good _ hl
    · rcases List.mem_cons.mp h with rfl | h
      · exact hB_good _ k4
      · rcases List.mem_cons.mp h with rfl | h
        · exact hB_good _ k5
        · rcases List.mem_cons.mp h with rfl | h
          · exact hB_good _ k2
          · cases h
  · rcases List.mem_cons.mp h with rfl | h
    · exact hB_good _ k1
    · exact hB_good _ h
theorem h_codeG (h : Cond.code y bytes maxL ret ∈ hB) : GoodIn hB (Cond.code y bytes maxL ret :: hB) := fun w hw => (List.mem_cons.mp hw).elim (fun e => by rw [e]; exact hB_good _ h) (fun h => hB_good _ h)
theorem h_cwS (S0 : CallFix p m c cc nL s args hB own) (k : hcS y bytes maxL ret n) (hl : Cond.methodLink own index y ∈ hB) (hR : rk.frames + 1 ≤ R.frames ∧ 8 + (maxL + 11) + rk.locals ≤ R.locals) : CallB R s args own index y bytes maxL ret (Cond.code y bytes maxL ret :: hB) rk rk.cells rk.slots n ∧ (Cond.static y).before args s = true := by
  obtain ⟨k1, k2, k3, k4⟩ := k
  exact ⟨callB_of n S0.2.2.2.2 (h_codeG k1) rfl rfl rfl (S0.2.2.2.2 _ k2) (S0.2.2.2.2 _ hl) k3 hR, S0.2.2.2.2 _ k4⟩
theorem h_cwI (S0 : CallFix p m c cc nL s args hB own) (k : hcI y bytes maxL n) (hl : Cond.methodLink own index y ∈ hB) (hR : rk.frames + 1 ≤ R.frames ∧ 8 + (maxL + 11) + rk.locals ≤ R.locals) : CallB R s args own index y bytes maxL none (Cond.code y bytes maxL none :: hB) rk rk.cells rk.slots n ∧ y.name = "<init>" ∧ (Cond.instanceMethod y).before args s = true := by
  obtain ⟨k1, k2, k3, k4, k5⟩ := k
  exact ⟨callB_of n S0.2.2.2.2 (h_codeG k1) rfl rfl rfl (S0.2.2.2.2 _ k2) (S0.2.2.2.2 _ hl) k3 hR, k4, S0.2.2.2.2 _ k5⟩
/-- how a method begins -/
def hPre (D : va_G) (tys : List (ClassId × FieldType)) (g : Nat → Option va_E) (sz : Nat) : State → Prop := fun U => U.heap.size = sz ∧ hw D hC (fun _ => True) g U.heap ∧ va_K D hC tys U
/-- how it ends: the new map -/
def hPo (D : va_G) (tys : List (ClassId × FieldType)) (A : Nat → Prop) : (Nat → Option va_E) → State → Prop := fun g1 t => hw D hC A g1 t.heap ∧ va_K D hC tys t
def hPor (D : va_G) (tys : List (ClassId × FieldType)) (A : Nat → Prop) (post : Nat → (Nat → Option va_E) → Prop) : (Nat → Option va_E) → Nat → State → Prop := fun g1 r t => post r g1 ∧ hw D hC A g1 t.heap ∧ va_K D hC tys t
abbrev hMi (l : Launch) (y : MethodName) (cc : ByteArray) (maxL : Nat) (ty : FieldType) (rm : Room) (D : va_G) (tys : List (ClassId × FieldType)) (g : Nat → Option va_E) (sz : Nat) (av : List Value) (post : Int32 → (Nat → Option va_E) → Prop) : Prop := Met l y (Cond.code y cc maxL (some ty) :: hB) rm (va_Pc av (hPre D tys g sz)) (va_Qi post (hPo D tys (hA g sz)) (hA g sz)) rm.cells rm.slots (hA g sz)
abbrev hMv (l : Launch) (y : MethodName) (cc : ByteArray) (maxL : Nat) (rm : Room) (D : va_G) (tys : List (ClassId × FieldType)) (g : Nat → Option va_E) (sz : Nat) (av : List Value) (post : (Nat → Option va_E) → Prop) : Prop := Met l y (Cond.code y cc maxL none :: hB) rm (va_Pc av (hPre D tys g sz)) (va_Qv post (hPo D tys (hA g sz)) (hA g sz)) rm.cells rm.slots (hA g sz)
abbrev hMr (l : Launch) (y : MethodName) (cc : ByteArray) (maxL : Nat) (rt : FieldType) (rm : Room) (D : va_G) (tys : List (ClassId × FieldType)) (g : Nat → Option va_E) (sz : Nat) (av : List Value) (post : Nat → (Nat → Option va_E) → Prop) : Prop := Met l y (Cond.code y cc maxL (some rt) :: hB) rm (va_Pc av (hPre D tys g sz)) (va_Qr (fun _ => True) (hPor D tys (hA g sz) post) (hA g sz)) rm.cells rm.slots (hA g sz)
theorem hPre_blind : FrameBlind (va_Pc av (hPre D tys g sz)) := fun a U g9 mk q => by
  obtain ⟨q0, q1, q2, q3⟩ := q
  exact ⟨q0, q1, q2, va_K.moved (u := U) (U := U.calling g9 mk a) (Vm.Alike.refl U.vm) q3⟩
theorem hPre_at (hK : va_K D hC tys s) (hg : hw D hC A g H) : ∀ U : State, U.heap = H → s.WarmedH U.vm → va_Pc av (hPre D tys g H.size) av.toArray U := fun U hU hW => ⟨rfl, by rw [hU], by rw [hU]; exact hg.weaken (fun _ _ => trivial), va_K.moved hW.alike hK⟩
theorem hw_recv (hK : va_K D hC tys s) (hg : hw D hC A g H) {ci : Nat} {q : vw_C} {fs : List Value} (he : g a = some (.inr (ci, fs))) (hc : hC[ci]? = some q) : ∃ cell : Cell, H[a]? = some cell ∧ cell.vm.isStatics = false ∧ s.vm.findClass q.1 = some cell.cls := va_recv hK (hg.P he) hc (q0 := 0) rfl
/-- what a walk has from its entry on: the machine and the words, the world, and how it may return -/
abbrev hBody (l : Launch) (y : MethodName) (rm : Room) (D : va_G) (tys : List (ClassId × FieldType)) (g : Nat → Option va_E) (sz : Nat) (av : List Value) (cc : ByteArray) (maxL : Nat) (End : (Heap → List Loc → Nat → Nat → JFrame → Prop) → (MethodId → State → (Nat → Prop) → Prop)) : Prop :=
  ∀ (p : Program) (e : Env) (R : Room) (s : State) (m : MethodId) (args : Array Value) (below : List Frame) (meth : Method) (c : Code) (Q : State → Prop) (A : Nat → Prop), hRle rm R → CallFix p m c cc maxL s args hB y.cls → meth.name = y.name → s.heap.size = sz → hw D hC A g s.heap → va_K D hC tys s → va_S A s.heap s.heap [] → (∀ q, s.heap.size ≤ q → A q) →
    End (fun H locs cells slots fr => W p l e R s m args below meth c H locs cells slots Q fr) m s A → ∀ ls : Array Slot, lv_has ls maxL (lv_args 0 av) → W p l e R s m args below meth c s.heap [] 0 0 Q (F0 m 0 ls [])
/-- the ends: int or boolean, void, a reference -/
abbrev hEi (D : va_G) (cc : ByteArray) (ty : FieldType) (post : Int32 → (Nat → Option va_E) → Prop) (mc ms : Nat) : (Heap → List Loc → Nat → Nat → JFrame → Prop) → (MethodId → State → (Nat → Prop) → Prop) := fun Wd m s A =>
  ∀ (v : Int32) (g1 : Nat → Option va_E) (H : Heap) (locs : List Loc) (ls : Array Slot) (pc cells slots : Nat), cells ≤ mc → slots ≤ ms → narrow ty (.int v) = .int v → post v g1 → hw D hC A g1 H → va_S A s.heap H locs → decode cc pc = .ok (.ireturn, 1) → Wd H locs cells slots (F0 m pc ls [.int v])
abbrev hEv (D : va_G) (cc : ByteArray) (post : (Nat → Option va_E) → Prop) (mc ms : Nat) : (Heap → List Loc → Nat → Nat → JFrame → Prop) → (MethodId → State → (Nat → Prop) → Prop) := fun Wd m s A =>
  ∀ (g1 : Nat → Option va_E) (H : Heap) (locs : List Loc) (ls : Array Slot) (pc cells slots : Nat), cells ≤ mc → slots ≤ ms → post g1 → hw D hC A g1 H → va_S A s.heap H locs → decode cc pc = .ok (.return_, 1) → Wd H locs cells slots (F0 m pc ls [])
abbrev hEr (D : va_G) (cc : ByteArray) (post : Nat → (Nat → Option va_E) → Prop) (mc ms : Nat) : (Heap → List Loc → Nat → Nat → JFrame → Prop) → (MethodId → State → (Nat → Prop) → Prop) := fun Wd m s A =>
  ∀ (v : Nat) (g1 : Nat → Option va_E) (H : Heap) (locs : List Loc) (ls : Array Slot) (pc cells slots : Nat), cells ≤ mc → slots ≤ ms → post v g1 → hw D hC A g1 H → va_S A s.heap H locs → decode cc pc = .ok (.areturn, 1) → Wd H locs cells slots (F0 m pc ls [.ref v])
theorem hMi_of {ty : FieldType} {post : Int32 → (Nat → Option va_E) → Prop} (hy : plainName y.cls = true) (hlen : (lg_sl av).length ≤ maxL)
    (body : hBody l y rm D tys g sz av cc maxL (hEi D cc ty post rm.cells rm.slots)) : hMi l y cc maxL ty rm D tys g sz av post := by
  refine Met.ofW (cc := cc) (maxL := maxL) (ret := some ty) hy rfl ?_
  intro p e s m args below meth c s₁ B hml hv
  obtain ⟨rfl, hsz, hg, hK⟩ := hv
  have hts := atoms_spec (ws := Cond.code y cc maxL (some ty) :: hB) B.pre
  rw [lg_entry_eq]
  refine body p e rm s m _ below meth c _ (hA g sz) hRle.rf ⟨B.exec, B.bytes, hml, findClass_of_methodNamed B.named, fun w h => hts w (List.mem_cons_of_mem _ h)⟩ (name_of_methodNamed B.named B.method).1 hsz hg.self hK va_S.rf (fun q h => Or.inr (by rw [← hsz]; exact h)) ?_ _ (lv_entry av hlen)
  intro v g1 H locs ls pc cells slots hc hs hn hp hg1 hS hdg
  refine W.widen hc hs ?_
  exact W.zret B.exec B.bytes B.returns hn (fun t ht hW => ⟨⟨v, g1, rfl, hp, by rw [ht]; exact hg1, va_K.moved hW.alike hK⟩, hS.F ht⟩) hS.2.2 hdg B.notSynchronized
theorem hMv_of {post : (Nat → Option va_E) → Prop} (hy : plainName y.cls = true) (hlen : (lg_sl av).length ≤ maxL)
    (body : hBody l y rm D tys g sz av cc maxL (hEv D cc post rm.cells rm.slots)) : hMv l y cc maxL rm D tys g sz av post := by
  refine Met.ofW (cc := cc) (maxL := maxL) (ret := none) hy rfl ?_
  intro p e s m args below meth c s₁ B hml hv
  obtain ⟨rfl, hsz, hg, hK⟩ := hv
  have hts := atoms_spec (ws := Cond.code y cc maxL none :: hB) B.pre
  rw [lg_entry_eq]
  refine body p e rm s m _ below meth c _ (hA g sz) hRle.rf ⟨B.exec, B.bytes, hml, findClass_of_methodNamed B.named, fun w h => hts w (List.mem_cons_of_mem _ h)⟩ (name_of_methodNamed B.named B.method).1 hsz hg.self hK va_S.rf (fun q h => Or.inr (by rw [← hsz]; exact h)) ?_ _ (lv_entry av hlen)
  intro g1 H locs ls pc cells slots hc hs hp hg1 hS hdg
  refine W.widen hc hs ?_
  exact W.vret B.exec B.bytes B.returns (fun t ht hW => ⟨⟨g1, rfl, hp, by rw [ht]; exact hg1, va_K.moved hW.alike hK⟩, hS.F ht⟩) hS.2.2 hdg B.notSynchronized
theorem hMr_of {ty : FieldType} {post : Nat → (Nat → Option va_E) → Prop} (hy : plainName y.cls = true) (hrt : (∃ n, ty = .object n) ∨ ∃ t, ty = .array t) (hlen : (lg_sl av).length ≤ maxL)
    (body : hBody l y rm D tys g sz av cc maxL (hEr D cc post rm.cells rm.slots)) : hMr l y cc maxL ty rm D tys g sz av post := by
  refine Met.ofW (cc := cc) (maxL := maxL) (ret := some ty) hy rfl ?_
  intro p e s m args below meth c s₁ B hml hv
  obtain ⟨rfl, hsz, hg, hK⟩ := hv
  have hts := atoms_spec (ws := Cond.code y cc maxL (some ty) :: hB) B.pre
  rw [lg_entry_eq]
  refine body p e rm s m _ below meth c _ (hA g sz) hRle.rf ⟨B.exec, B.bytes, hml, findClass_of_methodNamed B.named, fun w h => hts w (List.mem_cons_of_mem _ h)⟩ (name_of_methodNamed B.named B.method).1 hsz hg.self hK va_S.rf (fun q h => Or.inr (by rw [← hsz]; exact h)) ?_ _ (lv_entry av hlen)
  intro v g1 H locs ls pc cells slots hc hs hp hg1 hS hdg
  refine W.widen hc hs ?_
  exact W.aret B.exec B.bytes B.returns hrt (Or.inr ⟨v, rfl⟩) (fun t ht hW => ⟨⟨g1, v, rfl, trivial, hp, by rw [ht]; exact hg1, va_K.moved hW.alike hK⟩, hS.F ht⟩) hS.2.2 hdg B.notSynchronized
/-! calls: an instance's method, a static one, a constructor -/
theorem hw_Vi {ty : FieldType} {post : Int32 → (Nat → Option va_E) → Prop} (S0 : CallFix p m c cc nL s args hB own) (hK : va_K D hC tys s) (hg : hw D hC A g H) (hS : va_S A H0 H locs) (hA0 : ∀ q, H0.size ≤ q → A q) {ci : Nat} {T : u_T} {N : Nat} {fs : List Value} (he : g b = some (.inr (ci, fs))) (hc : hC[ci]? = some (y.cls, T, N)) (hM : hMi l y bytes maxL ty rk D tys g H.size (.ref b :: As) post) (kd : hcV y bytes maxL (some ty) n) (hl : Cond.methodLink own index y ∈ hB) (hR : rk.frames + 1 ≤ R.frames ∧ 8 + (maxL + 11) + rk.locals ≤ R.locals)
    (hn : As.length = n) (hsize : ls.size = nL) (hst : st0 = As.reverse ++ .ref b :: rest) (hW : (rest.map fun v => v.category).sum ≤ 8) (hdg : decode cc pc = .ok (.invokevirtual index, 3)) (hf : cells + rk.cells ≤ R.cells ∧ slots + rk.slots ≤ R.slots)
    (kk : ∀ (r : Int32) (g1 : Nat → Option va_E) (H1 : Heap) (locs1 : List Loc), post r g1 → hw D hC A g1 H1 → va_S A H0 H1 locs1 → W p l e R s m args below meth c H1 locs1 (cells + rk.cells) (slots + rk.slots) Q (F0 m (pc + 3) ls (.int r :: rest))) : W p l e R s m args below meth c H locs cells slots Q (F0 m pc ls st0) :=
  va_calli (va_runV (As := As) (rest := rest) S0 hM (h_cwV S0 kd hl hR) ⟨hPre_blind, hw_recv hK hg he hc, hPre_at hK hg⟩ rfl hn hsize hst (lv_room hW) hdg hf) hS (fun q _ h => hA.sub hg hS hA0 q h) (hA.sub hg hS hA0)
    (fun r u t H1 locs1 ht hvm hp hB1 hz hk hS1 => kk r u H1 locs1 hp (by rw [← ht]; exact hB1.1.weaken (hA.sub hg hS hA0)) hS1)
theorem hw_Vv {post : (Nat → Option va_E) → Prop} (S0 : CallFix p m c cc nL s args hB own) (hK : va_K D hC tys s) (hg : hw D hC A g H) (hS : va_S A H0 H locs) (hA0 : ∀ q, H0.size ≤ q → A q) {ci : Nat} {T : u_T} {N : Nat} {fs : List Value} (he : g b = some (.inr (ci, fs))) (hc : hC[ci]? = some (y.cls, T, N)) (hM : hMv l y bytes maxL rk D tys g H.size (.ref b :: As) post) (kd : hcV y bytes maxL none n) (hl : Cond.methodLink own index y ∈ hB) (hR : rk.frames + 1 ≤ R.frames ∧ 8 + (maxL + 11) + rk.locals ≤ R.locals)
    (hn : As.length = n) (hsize : ls.size = nL) (hst : st0 = As.reverse ++ .ref b :: rest) (hW : (rest.map fun v => v.category).sum ≤ 8) (hdg : decode cc pc = .ok (.invokevirtual index, 3)) (hf : cells + rk.cells ≤ R.cells ∧ slots + rk.slots ≤ R.slots)
    (kk : ∀ (g1 : Nat → Option va_E) (H1 : Heap) (locs1 : List Loc), post g1 → hw D hC A g1 H1 → va_S A H0 H1 locs1 → W p l e R s m args below meth c H1 locs1 (cells + rk.cells) (slots + rk.slots) Q (F0 m (pc + 3) ls rest)) : W p l e R s m args below meth c H locs cells slots Q (F0 m pc ls st0) :=
  va_callv (va_runV (As := As) (rest := rest) S0 hM (h_cwV S0 kd hl hR) ⟨hPre_blind, hw_recv hK hg he hc, hPre_at hK hg⟩ rfl hn hsize hst (lv_room hW) hdg hf) hS (fun q _ h => hA.sub hg hS hA0 q h) (hA.sub hg hS hA0)
    (fun u t H1 locs1 ht hvm hp hB1 hz hk hS1 => kk u H1 locs1 hp (by rw [← ht]; exact hB1.1.weaken (hA.sub hg hS hA0)) hS1)
theorem hw_Vr {ty : FieldType} {post : Nat → (Nat → Option va_E) → Prop} (S0 : CallFix p m c cc nL s args hB own) (hK : va_K D hC tys s) (hg : hw D hC A g H) (hS : va_S A H0 H locs) (hA0 : ∀ q, H0.size ≤ q → A q) {ci : Nat} {T : u_T} {N : Nat} {fs : List Value} (he : g b = some (.inr (ci, fs))) (hc : hC[ci]? = some (y.cls, T, N)) (hM : hMr l y bytes maxL ty rk D tys g H.size (.ref b :: As) post) (kd : hcV y bytes maxL (some ty) n) (hl : Cond.methodLink own index y ∈ hB) (hR : rk.frames + 1 ≤ R.frames ∧ 8 + (maxL + 11) + rk.locals ≤ R.locals)
    (hn : As.length = n) (hsize : ls.size = nL) (hst : st0 = As.reverse ++ .ref b :: rest) (hW : (rest.map fun v => v.category).sum ≤ 8) (hdg : decode cc pc = .ok (.invokevirtual index, 3)) (hf : cells + rk.cells ≤ R.cells ∧ slots + rk.slots ≤ R.slots)
    (kk : ∀ (r : Nat) (g1 : Nat → Option va_E) (H1 : Heap) (locs1 : List Loc), post r g1 → hw D hC A g1 H1 → va_S A H0 H1 locs1 → W p l e R s m args below meth c H1 locs1 (cells + rk.cells) (slots + rk.slots) Q (F0 m (pc + 3) ls (.ref r :: rest))) : W p l e R s m args below meth c H locs cells slots Q (F0 m pc ls st0) :=
  va_callr (va_runV (As := As) (rest := rest) S0 hM (h_cwV S0 kd hl hR) ⟨hPre_blind, hw_recv hK hg he hc, hPre_at hK hg⟩ rfl hn hsize hst (lv_room hW) hdg hf) hS (fun q _ h => hA.sub hg hS hA0 q h) (hA.sub hg hS hA0)
    (fun u r t H1 locs1 ht hvm hp hB1 hz hk hS1 => kk r u H1 locs1 hB1.1 (by rw [← ht]; exact hB1.2.1.weaken (hA.sub hg hS hA0)) hS1)
theorem hw_Si {ty : FieldType} {post : Int32 → (Nat → Option va_E) → Prop} (S0 : CallFix p m c cc nL s args hB own) (hK : va_K D hC tys s) (hg : hw D hC A g H) (hS : va_S A H0 H locs) (hA0 : ∀ q, H0.size ≤ q → A q) (hM : hMi l y bytes maxL ty rk D tys g H.size As post) (kd : hcS y bytes maxL (some ty) n) (hl : Cond.methodLink own index y ∈ hB) (hR : rk.frames + 1 ≤ R.frames ∧ 8 + (maxL + 11) + rk.locals ≤ R.locals)
    (hn : As.length = n) (hsize : ls.size = nL) (hst : st0 = As.reverse ++ rest) (hW : (rest.map fun v => v.category).sum ≤ 8) (hdg : decode cc pc = .ok (.invokestatic index, 3)) (hf : cells + rk.cells ≤ R.cells ∧ slots + rk.slots ≤ R.slots)
    (kk : ∀ (r : Int32) (g1 : Nat → Option va_E) (H1 : Heap) (locs1 : List Loc), post r g1 → hw D hC A g1 H1 → va_S A H0 H1 locs1 → W p l e R s m args below meth c H1 locs1 (cells + rk.cells) (slots + rk.slots) Q (F0 m (pc + 3) ls (.int r :: rest))) : W p l e R s m args below meth c H locs cells slots Q (F0 m pc ls st0) :=
  va_calli (va_runS (As := As) (rest := rest) S0 hM (h_cwS S0 kd hl hR) ⟨hPre_blind, hPre_at hK hg⟩ rfl hn hsize hst (lv_room hW) hdg hf) hS (fun q _ h => hA.sub hg hS hA0 q h) (hA.sub hg hS hA0)
    (fun r u t H1 locs1 ht hvm hp hB1 hz hk hS1 => kk r u H1 locs1 hp (by rw [← ht]; exact hB1.1.weaken (hA.sub hg hS hA0)) hS1)
theorem hw_Sv {post : (Nat → Option va_E) → Prop} (S0 : CallFix p m c cc nL s args hB own) (hK : va_K D hC tys s) (hg : hw D hC A g H) (hS : va_S A H0 H locs) (hA0 : ∀ q, H0.size ≤ q → A q) (hM : hMv l y bytes maxL rk D tys g H.size As post) (kd : hcS y bytes maxL none n) (hl : Cond.methodLink own index y ∈ hB) (hR : rk.frames + 1 ≤ R.frames ∧ 8 + (maxL + 11) + rk.locals ≤ R.locals)
    (hn : As.length = n) (hsize : ls.size = nL) (hst : st0 = As.reverse ++ rest) (hW : (rest.map fun v => v.category).sum ≤ 8) (hdg : decode cc pc = .ok (.invokestatic index, 3)) (hf : cells + rk.cells ≤ R.cells ∧ slots + rk.slots ≤ R.slots)
    (kk : ∀ (g1 : Nat → Option va_E) (H1 : Heap) (locs1 : List Loc), post g1 → hw D hC A g1 H1 → va_S A H0 H1 locs1 → W p l e R s m args below meth c H1 locs1 (cells + rk.cells) (slots + rk.slots) Q (F0 m (pc + 3) ls rest)) : W p l e R s m args below meth c H locs cells slots Q (F0 m pc ls st0) :=
  va_callv (va_runS (As := As) (rest := rest) S0 hM (h_cwS S0 kd hl hR) ⟨hPre_blind, hPre_at hK hg⟩ rfl hn hsize hst (lv_room hW) hdg hf) hS (fun q _ h => hA.sub hg hS hA0 q h) (hA.sub hg hS hA0)
    (fun u t H1 locs1 ht hvm hp hB1 hz hk hS1 => kk u H1 locs1 hp (by rw [← ht]; exact hB1.1.weaken (hA.sub hg hS hA0)) hS1)
theorem hw_I {post : (Nat → Option va_E) → Prop} (S0 : CallFix p m c cc nL s args hB own) (hK : va_K D hC tys s) (hg : hw D hC A g H) (hS : va_S A H0 H locs) (hA0 : ∀ q, H0.size ≤ q → A q) (hM : hMv l y bytes maxL rk D tys g H.size (.ref b :: As) post) (kd : hcI y bytes maxL n) (hl : Cond.methodLink own index y ∈ hB) (hR : rk.frames + 1 ≤ R.frames ∧ 8 + (maxL + 11) + rk.locals ≤ R.locals)
    (hn : As.length = n) (hsize : ls.size = nL) (hst : st0 = As.reverse ++ .ref b :: rest) (hW : (rest.map fun v => v.category).sum ≤ 8) (hdg : decode cc pc = .ok (.invokespecial index, 3)) (hf : cells + rk.cells ≤ R.cells ∧ slots + rk.slots ≤ R.slots)
    (kk : ∀ (g1 : Nat → Option va_E) (H1 : Heap) (locs1 : List Loc), post g1 → hw D hC A g1 H1 → va_S A H0 H1 locs1 → W p l e R s m args below meth c H1 locs1 (cells + rk.cells) (slots + rk.slots) Q (F0 m (pc + 3) ls rest)) : W p l e R s m args below meth c H locs cells slots Q (F0 m pc ls st0) :=
  va_callv (va_runI (As := As) (rest := rest) S0 hM (h_cwI S0 kd hl hR) ⟨hPre_blind, hPre_at hK hg⟩ rfl hn hsize hst (lv_room hW) hdg hf) hS (fun q _ h => hA.sub hg hS hA0 q h) (hA.sub hg hS hA0)
    (fun u t H1 locs1 ht hvm hp hB1 hz hk hS1 => kk u H1 locs1 hp (by rw [← ht]; exact hB1.1.weaken (hA.sub hg hS hA0)) hS1)
end HWC
end
section
/-! THE MATHEMATICS: the common of two rows, by the greedy choice over the lengths of commons of ends -/
def lcs : List Int32 → List Int32 → Nat
  | [], _ => 0
  | _ :: _, [] => 0
  | x :: xs, y :: ys => if x = y then lcs xs ys + 1 else max (lcs xs (y :: ys)) (lcs (x :: xs) ys)
termination_by a b => a.length + b.length
theorem lcs_nil (b : List Int32) : lcs [] b = 0 := by simp [lcs]
theorem lcs_nil2 (a : List Int32) : lcs a [] = 0 := by cases a <;> simp [lcs]
theorem lcs_cons (x y : Int32) (a b : List Int32) : lcs (x :: a) (y :: b) = if x = y then lcs a b + 1 else max (lcs a (y :: b)) (lcs (x :: a) b) := by rw [lcs]
theorem lcs_near (n : Nat) : ∀ (a b : List Int32), a.length + b.length ≤ n → (∀ x, lcs a b ≤ lcs (x :: a) b ∧ lcs (x :: a) b ≤ lcs a b + 1) ∧ ∀ y, lcs a b ≤ lcs a (y :: b) ∧ lcs a (y :: b) ≤ lcs a b + 1 := by
  induction n with
  | zero =>
    intro a b h
    have ha : a = [] := List.length_eq_zero_iff.mp (by omega)
    have hb : b = [] := List.length_eq_zero_iff.mp (by omega)
    subst ha; subst hb
    exact ⟨fun x => by simp [lcs_nil, lcs_nil2], fun y => by simp [lcs_nil, lcs_nil2]⟩
  | succ n ih =>
    intro a b h
    refine ⟨fun x => ?_, fun y => ?_⟩
    · cases b with
      | nil => simp [lcs_nil2]
      | cons y b =>
        rw [List.length_cons] at h
        obtain ⟨i1, i2⟩ := ih a b (by omega)
        rw [lcs_cons]
        split
        · exact ⟨(i2 y).2, Nat.succ_le_succ (i2 y).1⟩
        · have h1 := i1 x
          have h2 := i2 y
          omega
    · cases a with
      | nil => simp [lcs_nil]
      | cons x a =>
        rw [List.length_cons] at h
        obtain ⟨i1, i2⟩ := ih a b (by omega)
        rw [lcs_cons]
        split
        · exact ⟨(i1 x).2, Nat.succ_le_succ (i1 x).1⟩
        · have h1 := i1 x
          have h2 := i2 y
          omega
theorem lcs_le (a : List Int32) : ∀ b : List Int32, lcs a b ≤ a.length := by
  induction a with
  | nil => intro b; simp [lcs_nil]
  | cons x a ih =>
    intro b
    have h := ((lcs_near _ a b (Nat.le_refl _)).1 x).2
    have := ih b
    rw [List.length_cons]
    omega
/-- of the ends from place i of a and j of b on -/
def Lc (a b : List Int32) (i j : Nat) : Nat := lcs (a.drop i) (b.drop j)
theorem drop_at {a : List Int32} {i : Nat} (h : i < a.length) : a.drop i = a.getD i 0 :: a.drop (i + 1) := by
  rw [List.drop_eq_getElem_cons h]
  simp [List.getD_eq_getElem?_getD, h]
theorem Lc_endA (a b : List Int32) (j : Nat) : Lc a b a.length j = 0 := by rw [Lc, List.drop_length, lcs_nil]
theorem Lc_endB (a b : List Int32) (i : Nat) : Lc a b i b.length = 0 := by rw [Lc, List.drop_length, lcs_nil2]
theorem Lc_step {a b : List Int32} {i j : Nat} (hi : i < a.length) (hj : j < b.length) : Lc a b i j = if a.getD i 0 = b.getD j 0 then Lc a b (i + 1) (j + 1) + 1 else max (Lc a b (i + 1) j) (Lc a b i (j + 1)) := by
  rw [Lc, drop_at hi, drop_at hj, lcs_cons, ← drop_at hi, ← drop_at hj]
  rfl
theorem Lc_le (a b : List Int32) (i j : Nat) : Lc a b i j ≤ a.length - i := by
  have := lcs_le (a.drop i) (b.drop j)
  rw [List.length_drop] at this
  exact this
theorem Lc_near {a b : List Int32} {i j : Nat} (hi : i < a.length) (hj : j < b.length) : Lc a b (i + 1) j ≤ Lc a b (i + 1) (j + 1) + 1 ∧ Lc a b i (j + 1) ≤ Lc a b (i + 1) (j + 1) + 1 := by
  have h := lcs_near _ (a.drop (i + 1)) (b.drop (j + 1)) (Nat.le_refl _)
  refine ⟨?_, ?_⟩
  · rw [Lc, drop_at hj]; exact (h.2 _).2
  · rw [Lc, drop_at hi]; exact (h.1 _).2
/-- the first place of a line from i on -/
def fp (b : List Int32) (v : Int32) (i : Nat) : Option Nat := (List.range b.length).find? (fun k => decide (i ≤ k) && decide (b.getD k 0 = v))
theorem fp_of {b : List Int32} {v : Int32} {i k : Nat} (h1 : i ≤ k) (h2 : k < b.length) (h3 : b.getD k 0 = v) (h4 : ∀ q, i ≤ q → q < k → b.getD q 0 ≠ v) : fp b v i = some k := by
  rw [fp, List.find?_range_eq_some]
  refine ⟨by rw [Bool.and_eq_true]; exact ⟨decide_eq_true h1, decide_eq_true h3⟩, List.mem_range.mpr h2, fun j hj => ?_⟩
  by_cases h : i ≤ j
  · rw [decide_eq_false (h4 j h hj), Bool.and_false]; rfl
  · rw [decide_eq_false h, Bool.false_and]; rfl
theorem fp_none {b : List Int32} {v : Int32} {i : Nat} (h : ∀ q, i ≤ q → q < b.length → b.getD q 0 ≠ v) : fp b v i = none := by
  rw [fp, List.find?_eq_none]
  intro k hk
  have hk := List.mem_range.mp hk
  by_cases h9 : i ≤ k
  · rw [decide_eq_false (h k h9 hk), Bool.and_false]; exact Bool.false_ne_true
  · rw [decide_eq_false h9, Bool.false_and]; exact Bool.false_ne_true
theorem fp_spec {b : List Int32} {v : Int32} {i k : Nat} (h : fp b v i = some k) : i ≤ k ∧ k < b.length ∧ b.getD k 0 = v := by
  rw [fp, List.find?_range_eq_some] at h
  obtain ⟨h1, h2, -⟩ := h
  simp only [Bool.and_eq_true, decide_eq_true_eq] at h1
  exact ⟨h1.1, List.mem_range.mp h2, h1.2⟩
/-- the place of b that is taken with place i of a, from fr on -/
def stp (a b : List Int32) (fr i : Nat) : Option Nat := match fp b (a.getD i 0) fr with
  | some j => if Lc a b (i + 1) (j + 1) + 1 = Lc a b i fr then some j else none
  | none => none
def fro (a b : List Int32) : Nat → Nat
  | 0 => 0
  | i + 1 => match stp a b (fro a b i) i with
    | some j => j + 1
    | none => fro a b i
/-- the partner of place i of a -/
def pn (a b : List Int32) (i : Nat) : Option Nat := stp a b (fro a b i) i
/-- the pairs of the places of a ahead of i -/
def prs (a b : List Int32) : Nat → List (Nat × Nat)
  | 0 => []
  | i + 1 => prs a b i ++ (match pn a b i with
    | some j => [(i, j)]
    | none => [])
theorem stp_none {a b : List Int32} {fr i : Nat} (h : fp b (a.getD i 0) fr = none) : stp a b fr i = none := by unfold stp; rw [h]
theorem stp_some {a b : List Int32} {fr i j : Nat} (h : fp b (a.getD i 0) fr = some j) (h2 : Lc a b (i + 1) (j + 1) + 1 = Lc a b i fr) : stp a b fr i = some j := by unfold stp; rw [h]; exact if_pos h2
theorem stp_not {a b : List Int32} {fr i j : Nat} (h : fp b (a.getD i 0) fr = some j) (h2 : ¬ Lc a b (i + 1) (j + 1) + 1 = Lc a b i fr) : stp a b fr i = none := by unfold stp; rw [h]; exact if_neg h2
theorem stp_spec {a b : List Int32} {fr i j : Nat} (h : stp a b fr i = some j) : fr ≤ j ∧ j < b.length := by
  unfold stp at h
  cases e : fp b (a.getD i 0) fr with
  | none => rw [e] at h; cases h
  | some k =>
    rw [e] at h
    have hs := fp_spec e
    simp only at h
    split at h
    · cases h; exact ⟨hs.1, hs.2.1⟩
    · cases h
theorem fro_none {a b : List Int32} {i : Nat} (h : pn a b i = none) : fro a b (i + 1) = fro a b i := by
  have h : stp a b (fro a b i) i = none := h
  simp [fro, h]
theorem fro_some {a b : List Int32} {i j : Nat} (h : pn a b i = some j) : fro a b (i + 1) = j + 1 := by
  have h : stp a b (fro a b i) i = some j := h
  simp [fro, h]
theorem prs_none {a b : List Int32} {i : Nat} (h : pn a b i = none) : prs a b (i + 1) = prs a b i := by simp [prs, h]
theorem prs_some {a b : List Int32} {i j : Nat} (h : pn a b i = some j) : prs a b (i + 1) = prs a b i ++ [(i, j)] := by simp [prs, h]
theorem fro_le (a b : List Int32) (i : Nat) : fro a b i ≤ b.length := by
  induction i with
  | zero => exact Nat.zero_le _
  | succ i ih =>
    cases h : pn a b i with
    | none => rw [fro_none h]; exact ih
    | some j => rw [fro_some h]; exact (stp_spec h).2
theorem prs_len (a b : List Int32) (i : Nat) : (prs a b i).length ≤ i ∧ (prs a b i).length ≤ fro a b i := by
  induction i with
  | zero => exact ⟨Nat.le_refl _, Nat.le_refl _⟩
  | succ i ih =>
    cases h : pn a b i with
    | none => rw [fro_none h, prs_none h]; omega
    | some j =>
      rw [fro_some h, prs_some h, List.length_append, List.length_singleton]
      have := (stp_spec (show stp a b (fro a b i) i = some j from h)).1
      omega
theorem prs_mem {a b : List Int32} {i : Nat} : ∀ q ∈ prs a b i, q.1 < i ∧ q.2 < fro a b i ∧ pn a b q.1 = some q.2 := by
  induction i with
  | zero => intro q hq; cases hq
  | succ i ih =>
    intro q hq
    cases h : pn a b i with
    | none =>
      rw [prs_none h] at hq
      rw [fro_none h]
      have := ih q hq
      exact ⟨by omega, this.2⟩
    | some j =>
      rw [prs_some h] at hq
      rw [fro_some h]
      have hf := (stp_spec (show stp a b (fro a b i) i = some j from h)).1
      rcases List.mem_append.mp hq with hq | hq
      · have := ih q hq
        exact ⟨by omega, by omega, this.2.2⟩
      · cases List.mem_singleton.mp hq
        exact ⟨Nat.lt_succ_self _, Nat.lt_succ_self _, h⟩
/-- an array holds numbers -/
def rpN (f : Nat → Int32) (xs : List Nat) : Prop := ∀ k, k < xs.length → f k = nI (xs.getD k 0)
theorem rpN_nil (f : Nat → Int32) : rpN f [] := fun k h => absurd h (Nat.not_lt_zero k)
theorem rpN_snoc {f : Nat → Int32} {xs : List Nat} (h : rpN f xs) (v : Nat) : rpN (upd f xs.length (nI v)) (xs ++ [v]) := by
  intro k hk
  rw [List.length_append, List.length_singleton] at hk
  by_cases e : k = xs.length
  · subst e; rw [pk_us]; simp
  · rw [pk_un e, h k (by omega)]
    simp only [List.getD_eq_getElem?_getD]
    rw [List.getElem?_append_left (by omega)]
theorem rpN_congr {f f1 : Nat → Int32} {xs : List Nat} (h : rpN f xs) (e : ∀ k, k < xs.length → f1 k = f k) : rpN f1 xs := fun k hk => by rw [e k hk]; exact h k hk
end
section
/-! MORE ROWS of the machine over my words: Object's constructor, Math's three, numbers less one -/
set_option maxRecDepth 20000 in
theorem wO_inst : Cond.instanceMethod objectInit ∈ hB := hB_in 49 rfl (by decide +kernel)
set_option maxRecDepth 20000 in
theorem wO_code : Cond.code objectInit ⟨#[0xb1]⟩ 1 none ∈ hB := hB_in 50 rfl (by decide +kernel)
set_option maxRecDepth 20000 in
theorem wI_arr : Cond.arrayClass .int ∈ hB := hB_in 76 rfl (by decide +kernel)
set_option maxRecDepth 20000 in
theorem wJ_arr : Cond.arrayClass .long ∈ hB := hB_in 795 rfl (by decide +kernel)
set_option maxRecDepth 20000 in
theorem wM_ini : Cond.initialized "java/lang/Math" ∈ hB := hB_in 42 rfl (by decide +kernel)
set_option maxRecDepth 20000 in
theorem wM_smax : Cond.static Lib.Math.max.name ∈ hB := hB_in 413 rfl (by decide +kernel)
set_option maxRecDepth 20000 in
theorem wM_cmax : Cond.code Lib.Math.max.name Lib.Math.max.code 2 (some .int) ∈ hB := hB_in 414 rfl (by decide +kernel)
set_option maxRecDepth 20000 in
theorem wM_sabs : Cond.static Lib.Math.abs.name ∈ hB := hB_in 547 rfl (by decide +kernel)
set_option maxRecDepth 20000 in
theorem wM_cabs : Cond.code Lib.Math.abs.name Lib.Math.abs.code 1 (some .int) ∈ hB := hB_in 548 rfl (by decide +kernel)
set_option maxRecDepth 20000 in
theorem wM_smin : Cond.static Lib.Math.min.name ∈ hB := hB_in 554 rfl (by decide +kernel)
set_option maxRecDepth 20000 in
theorem wM_cmin : Cond.code Lib.Math.min.name Lib.Math.min.code 2 (some .int) ∈ hB := hB_in 555 rfl (by decide +kernel)
section HMO
variable {p : Program} {l : Launch} {e : Env} {R rm : Room} {s : State} {m : MethodId} {args : Array Value} {below : List Frame} {meth : Method} {c : Code} {H : Heap} {locs : List Loc} {cells slots : Nat} {Q : State → Prop}
variable {cc : ByteArray} {pc nL index a : Nat} {ls : Array Slot} {rest : List Value} {own : String}
theorem hw_objInit (S0 : CallFix p m c cc nL s args hB own) (hR : hRle rm R) (hl : ls.size = nL) (hk : Cond.methodLink own index objectInit ∈ hB) (hf : (Nat.ble 1 rm.frames && Nat.ble 12 rm.locals) = true) (hdg : decode cc pc = .ok (.invokespecial index, 3))
    (kk : W p l e R s m args below meth c H locs cells slots Q (F0 m (pc + 3) ls [])) : W p l e R s m args below meth c H locs cells slots Q (F0 m pc ls [.ref a]) := by
  rw [Bool.and_eq_true] at hf
  refine W.objInit S0.1 S0.2.1 S0.2.2.2.1 (S0.2.2.2.2 _ hk) (S0.2.2.2.2 _ wO_inst) (S0.2.2.2.2 _ wO_code) rfl (by rw [S0.2.2.1]; exact hl) rfl hdg (Nat.le_trans (Nat.le_of_ble_eq_true hf.1) hR.1) ?_ kk
  exact Nat.le_trans (Nat.le_of_ble_eq_true hf.2) hR.2.1
theorem hw_max (S0 : CallFix p m c cc nL s args hB own) (hR : hRle rm R) (hl : ls.size = nL) (hk : Cond.methodLink own index Lib.Math.max.name ∈ hB) (hf : (Nat.ble 1 rm.frames && Nat.ble ((rest.map fun v => v.category).sum + 13) rm.locals) = true) (hc : cells ≤ rm.cells ∧ slots ≤ rm.slots) {x y : Int32} (hdg : decode cc pc = .ok (.invokestatic index, 3))
    (kk : W p l e R s m args below meth c H locs cells slots Q (F0 m (pc + 3) ls (.int (if x < y then y else x) :: rest))) : W p l e R s m args below meth c H locs cells slots Q (F0 m pc ls (.int y :: .int x :: rest)) := by
  rw [Bool.and_eq_true] at hf
  exact va_mmax S0.1 S0.2.1 (by rw [S0.2.2.1]; exact hl.symm) S0.2.2.2.1 (S0.2.2.2.2 _ hk) (S0.2.2.2.2 _ wM_smax) (S0.2.2.2.2 _ wM_ini) (S0.2.2.2.2 _ wM_cmax) (Nat.le_trans (Nat.le_of_ble_eq_true hf.1) hR.1) (Nat.le_trans (Nat.le_of_ble_eq_true hf.2) hR.2.1) (Nat.le_trans hc.1 hR.2.2.1) (Nat.le_trans hc.2 hR.2.2.2) hdg kk
theorem hw_min (S0 : CallFix p m c cc nL s args hB own) (hR : hRle rm R) (hl : ls.size = nL) (hk : Cond.methodLink own index Lib.Math.min.name ∈ hB) (hf : (Nat.ble 1 rm.frames && Nat.ble ((rest.map fun v => v.category).sum + 13) rm.locals) = true) (hc : cells ≤ rm.cells ∧ slots ≤ rm.slots) {x y : Int32} (hdg : decode cc pc = .ok (.invokestatic index, 3))
    (kk : W p l e R s m args below meth c H locs cells slots Q (F0 m (pc + 3) ls (.int (if y < x then y else x) :: rest))) : W p l e R s m args below meth c H locs cells slots Q (F0 m pc ls (.int y :: .int x :: rest)) := by
  rw [Bool.and_eq_true] at hf
  exact va_mmin S0.1 S0.2.1 (by rw [S0.2.2.1]; exact hl.symm) S0.2.2.2.1 (S0.2.2.2.2 _ hk) (S0.2.2.2.2 _ wM_smin) (S0.2.2.2.2 _ wM_ini) (S0.2.2.2.2 _ wM_cmin) (Nat.le_trans (Nat.le_of_ble_eq_true hf.1) hR.1) (Nat.le_trans (Nat.le_of_ble_eq_true hf.2) hR.2.1) (Nat.le_trans hc.1 hR.2.2.1) (Nat.le_trans hc.2 hR.2.2.2) hdg kk
theorem hw_abs (S0 : CallFix p m c cc nL s args hB own) (hR : hRle rm R) (hl : ls.size = nL) (hk : Cond.methodLink own index Lib.Math.abs.name ∈ hB) (hf : (Nat.ble 1 rm.frames && Nat.ble ((rest.map fun v => v.category).sum + 13) rm.locals) = true) (hc : cells ≤ rm.cells ∧ slots ≤ rm.slots) {x : Int32} (hdg : decode cc pc = .ok (.invokestatic index, 3))
    (kk : W p l e R s m args below meth c H locs cells slots Q (F0 m (pc + 3) ls (.int (if 0 ≤ x then x else 0 - x) :: rest))) : W p l e R s m args below meth c H locs cells slots Q (F0 m pc ls (.int x :: rest)) := by
  rw [Bool.and_eq_true] at hf
  exact va_mabs S0.1 S0.2.1 (by rw [S0.2.2.1]; exact hl.symm) S0.2.2.2.1 (S0.2.2.2.2 _ hk) (S0.2.2.2.2 _ wM_sabs) (S0.2.2.2.2 _ wM_ini) (S0.2.2.2.2 _ wM_cabs) (Nat.le_trans (Nat.le_of_ble_eq_true hf.1) hR.1) (Nat.le_trans (Nat.le_of_ble_eq_true hf.2) hR.2.1) (Nat.le_trans hc.1 hR.2.2.1) (Nat.le_trans hc.2 hR.2.2.2) hdg kk
/-- a number on the stack by another name, deeper rows stay -/
theorem hw_eqv {x y : Value} (h : x = y) (k : W p l e R s m args below meth c H locs cells slots Q (F0 m pc ls (y :: rest))) : W p l e R s m args below meth c H locs cells slots Q (F0 m pc ls (x :: rest)) := by rw [h]; exact k
end HMO
/-- a count less one, as loops that fall hold it -/
def nJ (t : Nat) : Int32 := nI t - nI 1
theorem nJ_succ (i : Nat) : nJ (i + 1) = nI i := nI_pred i
theorem nJ_dec (i : Nat) : nI i + Int32.ofInt (-1) = nJ i := (Int32.sub_eq_add_neg (nI i) (nI 1)).symm
theorem nJ_neg {t : Nat} (h : t < 2 ^ 31) : nJ t < 0 ↔ t = 0 := by
  cases t with
  | zero => exact ⟨fun _ => rfl, fun _ => by decide +kernel⟩
  | succ i => rw [nJ_succ]; exact ⟨fun h9 => absurd h9 (nI_pos (by omega)), fun h9 => by omega⟩
theorem nI_max {x y : Nat} (hx : x < 2 ^ 31) (hy : y < 2 ^ 31) : (if nI x < nI y then nI y else nI x) = nI (max x y) := by
  by_cases h : x < y
  · rw [if_pos (nI_lt h hy), Nat.max_eq_right (by omega)]
  · rw [if_neg (nI_nlt (by omega) hx), Nat.max_eq_left (by omega)]
theorem nI_min {x y : Nat} (hx : x < 2 ^ 31) (hy : y < 2 ^ 31) : (if nI y < nI x then nI y else nI x) = nI (min x y) := by
  by_cases h : y < x
  · rw [if_pos (nI_lt h hx), Nat.min_eq_right (by omega)]
  · rw [if_neg (nI_nlt (by omega) hy), Nat.min_eq_left (by omega)]
end
section
/-! THE MATHEMATICS, on: pairs by their places, hunks -/
theorem prs_take {a b : List Int32} : ∀ {n k : Nat}, k < (prs a b n).length → ∃ i j, (prs a b n)[k]? = some (i, j) ∧ (prs a b n).take k = prs a b i ∧ pn a b i = some j ∧ i < n := by
  intro n
  induction n with
  | zero => intro k h; exact absurd h (Nat.not_lt_zero k)
  | succ n ih =>
    intro k hk
    cases h : pn a b n with
    | none =>
      rw [prs_none h] at hk ⊢
      obtain ⟨i, j, h1, h2, h3, h4⟩ := ih hk
      exact ⟨i, j, h1, h2, h3, by omega⟩
    | some j0 =>
      rw [prs_some h] at hk ⊢
      rw [List.length_append, List.length_singleton] at hk
      rcases Nat.lt_or_ge k (prs a b n).length with h9 | h9
      · obtain ⟨i, j, h1, h2, h3, h4⟩ := ih h9
        exact ⟨i, j, by rw [List.getElem?_append_left h9]; exact h1, by rw [List.take_append_of_le_length (by omega)]; exact h2, h3, by omega⟩
      · have e : k = (prs a b n).length := by omega
        subst e
        exact ⟨n, j0, by rw [List.getElem?_append_right (Nat.le_refl _), Nat.sub_self]; rfl, by rw [List.take_append_of_le_length (Nat.le_refl _), List.take_length], h, Nat.lt_succ_self n⟩
theorem prs_has {a b : List Int32} {n i j : Nat} (hi : i < n) (h : pn a b i = some j) : (i, j) ∈ prs a b n := by
  induction n with
  | zero => omega
  | succ n ih =>
    rcases Nat.lt_or_ge i n with h9 | h9
    · have := ih h9
      cases hp : pn a b n with
      | none => rw [prs_none hp]; exact this
      | some q => rw [prs_some hp]; exact List.mem_append_left _ this
    · have e : i = n := by omega
      subst e
      rw [prs_some h]
      exact List.mem_append_right _ (List.mem_singleton.mpr rfl)
theorem prs_lt {a b : List Int32} {n k k2 : Nat} {p q : Nat × Nat} (h : k < k2) (hp : (prs a b n)[k]? = some p) (hq : (prs a b n)[k2]? = some q) : p.1 < q.1 := by
  obtain ⟨i, j, h1, h2, -, -⟩ := prs_take (a := a) (b := b) (n := n) (k := k2) (List.getElem?_eq_some_iff.mp hq).1
  cases Option.some.inj (h1.symm.trans hq)
  have hm : p ∈ prs a b i := by
    rw [← h2]
    exact List.mem_of_getElem? (i := k) (by rw [List.getElem?_take_of_lt h]; exact hp)
  exact (prs_mem p hm).1
theorem rpN_at {f : Nat → Int32} {α : Type} {ps : List α} {pr : α → Nat} {k : Nat} {p : α} (h : rpN f (ps.map pr)) (hk : ps[k]? = some p) : f k = nI (pr p) := by
  have hl : k < (ps.map pr).length := by rw [List.length_map]; exact (List.getElem?_eq_some_iff.mp hk).1
  rw [h k hl]
  simp only [List.getD_eq_getElem?_getD, List.getElem?_map, hk]
  rfl
/-- a hunk: where it begins and how many lines, in a and in b; none if both are empty -/
abbrev N4 : Type := Nat × Nat × Nat × Nat
def hk1 (a i b j : Nat) : List N4 := if a < i ∨ b < j then [(a, i - a, b, j - b)] else []
def cstep (s : Nat × Nat × List N4) (p : Nat × Nat) : Nat × Nat × List N4 := (p.1 + 1, p.2 + 1, s.2.2 ++ hk1 s.1 p.1 s.2.1 p.2)
def cutp (ps : List (Nat × Nat)) : Nat × Nat × List N4 := ps.foldl cstep (0, 0, [])
theorem cutp_nil : cutp [] = (0, 0, []) := rfl
theorem cutp_snoc (ps : List (Nat × Nat)) (p : Nat × Nat) : cutp (ps ++ [p]) = cstep (cutp ps) p := by rw [cutp, cutp, List.foldl_append]; rfl
/-- the hunks of a, b -/
def hunksOf (a b : List Int32) : List N4 := (cutp (prs a b a.length)).2.2 ++ hk1 (cutp (prs a b a.length)).1 a.length (cutp (prs a b a.length)).2.1 b.length
theorem hk1_len (a i b j : Nat) : (hk1 a i b j).length ≤ 1 := by unfold hk1; split <;> simp
theorem cutp_prs (a b : List Int32) (i : Nat) : (cutp (prs a b i)).1 ≤ i ∧ (cutp (prs a b i)).2.1 = fro a b i ∧ (cutp (prs a b i)).2.2.length ≤ (prs a b i).length := by
  induction i with
  | zero => exact ⟨Nat.le_refl _, rfl, Nat.le_refl _⟩
  | succ i ih =>
    cases h : pn a b i with
    | none => rw [prs_none h, fro_none h]; omega
    | some j =>
      rw [prs_some h, fro_some h, cutp_snoc]
      refine ⟨Nat.le_refl _, rfl, ?_⟩
      have := hk1_len (cutp (prs a b i)).1 i (cutp (prs a b i)).2.1 j
      simp only [cstep, List.length_append, List.length_singleton]
      omega
theorem take_snoc {α : Type} {l : List α} {k : Nat} {p : α} (h : l[k]? = some p) : l.take (k + 1) = l.take k ++ [p] := by rw [List.take_add_one, h]; rfl
/-- numbers four by four -/
def fl4 (hs : List N4) : List Nat := hs.flatMap (fun h => [h.1, h.2.1, h.2.2.1, h.2.2.2])
theorem fl4_snoc (hs : List N4) (h : N4) : fl4 (hs ++ [h]) = (((fl4 hs ++ [h.1]) ++ [h.2.1]) ++ [h.2.2.1]) ++ [h.2.2.2] := by simp [fl4, List.flatMap_append]
theorem fl4_len (hs : List N4) : (fl4 hs).length = 4 * hs.length := by
  induction hs with
  | nil => rfl
  | cons h t ih =>
    have : fl4 (h :: t) = [h.1, h.2.1, h.2.2.1, h.2.2.2] ++ fl4 t := rfl
    rw [this, List.length_append, ih, List.length_cons]
    simp only [List.length_cons, List.length_nil]
    omega
theorem rp4_snoc {f : Nat → Int32} {hs : List N4} {n : Nat} (h : rpN f (fl4 hs)) (hn : n = hs.length) (x y z w : Nat) : rpN (upd (upd (upd (upd f (n * 4) (nI x)) (n * 4 + 1) (nI y)) (n * 4 + 2) (nI z)) (n * 4 + 3) (nI w)) (fl4 (hs ++ [(x, y, z, w)])) := by
  have hl := fl4_len hs
  rw [fl4_snoc]
  have h1 := rpN_snoc h x
  rw [hl, show 4 * hs.length = n * 4 by omega] at h1
  have h2 := rpN_snoc h1 y
  rw [List.length_append, hl, List.length_singleton, show 4 * hs.length + 1 = n * 4 + 1 by omega] at h2
  have h3 := rpN_snoc h2 z
  rw [List.length_append, List.length_append, hl, List.length_singleton, List.length_singleton, show 4 * hs.length + 1 + 1 = n * 4 + 2 by omega] at h3
  have h4 := rpN_snoc h3 w
  rw [List.length_append, List.length_append, List.length_append, hl, List.length_singleton, List.length_singleton, List.length_singleton, show 4 * hs.length + 1 + 1 + 1 = n * 4 + 3 by omega] at h4
  exact h4
theorem rp4_at {f : Nat → Int32} {hs : List N4} {k : Nat} {h : N4} (hr : rpN f (fl4 hs)) (hk : hs[k]? = some h) : f (k * 4) = nI h.1 ∧ f (k * 4 + 1) = nI h.2.1 ∧ f (k * 4 + 2) = nI h.2.2.1 ∧ f (k * 4 + 3) = nI h.2.2.2 := by
  have hl : k < hs.length := (List.getElem?_eq_some_iff.mp hk).1
  have key : ∀ (l : List N4) (k : Nat), l[k]? = some h → (fl4 l)[k * 4]? = some h.1 ∧ (fl4 l)[k * 4 + 1]? = some h.2.1 ∧ (fl4 l)[k * 4 + 2]? = some h.2.2.1 ∧ (fl4 l)[k * 4 + 3]? = some h.2.2.2 := by
    intro l
    induction l with
    | nil => intro k hk; simp at hk
    | cons z t ih =>
      intro k hk
      have e : fl4 (z :: t) = z.1 :: z.2.1 :: z.2.2.1 :: z.2.2.2 :: fl4 t := rfl
      cases k with
      | zero => simp at hk; subst hk; rw [e]; exact ⟨rfl, rfl, rfl, rfl⟩
      | succ k =>
        simp only [List.getElem?_cons_succ] at hk
        have := ih k hk
        rw [e, show (k + 1) * 4 = k * 4 + 4 by omega]
        exact this
  obtain ⟨k1, k2, k3, k4⟩ := key hs k hk
  have hl4 := fl4_len hs
  refine ⟨?_, ?_, ?_, ?_⟩
  · rw [hr _ (by omega), List.getD_eq_getElem?_getD, k1]; rfl
  · rw [hr _ (by omega), List.getD_eq_getElem?_getD, k2]; rfl
  · rw [hr _ (by omega), List.getD_eq_getElem?_getD, k3]; rfl
  · rw [hr _ (by omega), List.getD_eq_getElem?_getD, k4]; rfl
end
section
/-! THE MATHEMATICS, on: merging -/
abbrev N3 : Type := Nat × Nat × Nat
def fl3 (hs : List N3) : List Nat := hs.flatMap (fun h => [h.1, h.2.1, h.2.2])
theorem fl3_snoc (hs : List N3) (h : N3) : fl3 (hs ++ [h]) = ((fl3 hs ++ [h.1]) ++ [h.2.1]) ++ [h.2.2] := by simp [fl3, List.flatMap_append]
theorem fl3_len (hs : List N3) : (fl3 hs).length = 3 * hs.length := by
  induction hs with
  | nil => rfl
  | cons h t ih =>
    have : fl3 (h :: t) = [h.1, h.2.1, h.2.2] ++ fl3 t := rfl
    rw [this, List.length_append, ih, List.length_cons]
    simp only [List.length_cons, List.length_nil]
    omega
theorem rp3_snoc {f : Nat → Int32} {hs : List N3} {n : Nat} (h : rpN f (fl3 hs)) (hn : n = hs.length) (x y z : Nat) : rpN (upd (upd (upd f (n * 3) (nI x)) (n * 3 + 1) (nI y)) (n * 3 + 2) (nI z)) (fl3 (hs ++ [(x, y, z)])) := by
  have hl := fl3_len hs
  rw [fl3_snoc]
  have h1 := rpN_snoc h x
  rw [hl, show 3 * hs.length = n * 3 by omega] at h1
  have h2 := rpN_snoc h1 y
  rw [List.length_append, hl, List.length_singleton, show 3 * hs.length + 1 = n * 3 + 1 by omega] at h2
  have h3 := rpN_snoc h2 z
  rw [List.length_append, List.length_append, hl, List.length_singleton, List.length_singleton, show 3 * hs.length + 1 + 1 = n * 3 + 2 by omega] at h3
  exact h3
theorem rp3_at {f : Nat → Int32} {hs : List N3} {k : Nat} {h : N3} (hr : rpN f (fl3 hs)) (hk : hs[k]? = some h) : f (k * 3) = nI h.1 ∧ f (k * 3 + 1) = nI h.2.1 ∧ f (k * 3 + 2) = nI h.2.2 := by
  have hl : k < hs.length := (List.getElem?_eq_some_iff.mp hk).1
  have key : ∀ (l : List N3) (k : Nat), l[k]? = some h → (fl3 l)[k * 3]? = some h.1 ∧ (fl3 l)[k * 3 + 1]? = some h.2.1 ∧ (fl3 l)[k * 3 + 2]? = some h.2.2 := by
    intro l
    induction l with
    | nil => intro k hk; simp at hk
    | cons z t ih =>
      intro k hk
      have e : fl3 (z :: t) = z.1 :: z.2.1 :: z.2.2 :: fl3 t := rfl
      cases k with
      | zero => simp at hk; subst hk; rw [e]; exact ⟨rfl, rfl, rfl⟩
      | succ k =>
        simp only [List.getElem?_cons_succ] at hk
        have := ih k hk
        rw [e, show (k + 1) * 3 = k * 3 + 3 by omega]
        exact this
  obtain ⟨k1, k2, k3⟩ := key hs k hk
  have hl4 := fl3_len hs
  refine ⟨?_, ?_, ?_⟩
  · rw [hr _ (by omega), List.getD_eq_getElem?_getD, k1]; rfl
  · rw [hr _ (by omega), List.getD_eq_getElem?_getD, k2]; rfl
  · rw [hr _ (by omega), List.getD_eq_getElem?_getD, k3]; rfl
/-- a part is put behind -/
theorem rp_app {f f1 fo : Nat → Int32} {xs ys : List Int32} {i j : Nat} (h : rp f xs) (hy : rp fo ys) (hj : j ≤ ys.length) (h1 : ∀ q, q < xs.length → f1 q = f q) (h2 : ∀ q, q < j - i → f1 (xs.length + q) = fo (i + q)) : rp f1 (xs ++ pt ys i j) := by
  intro q hq
  rw [List.length_append, pt_len hj] at hq
  rcases Nat.lt_or_ge q xs.length with h9 | h9
  · rw [h1 q h9, h q h9]
    simp only [List.getD_eq_getElem?_getD]
    rw [List.getElem?_append_left h9]
  · have e : q = xs.length + (q - xs.length) := by omega
    have hk : q - xs.length < j - i := by omega
    have hl : i + (q - xs.length) < ys.length := by omega
    rw [e, h2 _ hk, hy _ hl, ← pt_get hj hk]
    simp only [List.getD_eq_getElem?_getD]
    rw [List.getElem?_append_right (by omega), show xs.length + (q - xs.length) - xs.length = q - xs.length by omega]
/-- what comes of the parts of three rows, and its conflicts -/
def joinP (bs lf rt : List Int32) (a i la lj ra rj : Nat) (s : List Int32 × List N3) : List Int32 × List N3 :=
  if pt lf la lj = pt rt ra rj ∨ pt rt ra rj = pt bs a i then (s.1 ++ pt lf la lj, s.2)
  else if pt lf la lj = pt bs a i then (s.1 ++ pt rt ra rj, s.2)
  else (s.1 ++ pt lf la lj ++ pt rt ra rj, s.2 ++ [(s.1.length, lj - la, rj - ra)])
theorem joinP_len {bs lf rt : List Int32} {a i la lj ra rj : Nat} (s : List Int32 × List N3) (hl : lj ≤ lf.length) (hr : rj ≤ rt.length) : (joinP bs lf rt a i la lj ra rj s).1.length ≤ s.1.length + (lj - la) + (rj - ra) ∧ s.1.length ≤ (joinP bs lf rt a i la lj ra rj s).1.length ∧ (joinP bs lf rt a i la lj ra rj s).2.length ≤ s.2.length + 1 := by
  unfold joinP
  have h1 := pt_len (i := la) hl
  have h2 := pt_len (i := ra) hr
  split
  · simp only [List.length_append]; omega
  · split
    · simp only [List.length_append]; omega
    · simp only [List.length_append, List.length_singleton]; omega
abbrev MS : Type := Nat × Nat × Nat × List Int32 × List N3
def mg (bs lf rt : List Int32) : Nat → MS
  | 0 => (0, 0, 0, [], [])
  | i + 1 => match pn bs lf i, pn bs rt i with
    | some lj, some rj => (i + 1, lj + 1, rj + 1, (joinP bs lf rt (mg bs lf rt i).1 i (mg bs lf rt i).2.1 lj (mg bs lf rt i).2.2.1 rj (mg bs lf rt i).2.2.2).1 ++ [bs.getD i 0], (joinP bs lf rt (mg bs lf rt i).1 i (mg bs lf rt i).2.1 lj (mg bs lf rt i).2.2.1 rj (mg bs lf rt i).2.2.2).2)
    | some _, none => mg bs lf rt i
    | none, _ => mg bs lf rt i
theorem mg_anchor {bs lf rt : List Int32} {i lj rj : Nat} (h1 : pn bs lf i = some lj) (h2 : pn bs rt i = some rj) : mg bs lf rt (i + 1) = (i + 1, lj + 1, rj + 1, (joinP bs lf rt (mg bs lf rt i).1 i (mg bs lf rt i).2.1 lj (mg bs lf rt i).2.2.1 rj (mg bs lf rt i).2.2.2).1 ++ [bs.getD i 0], (joinP bs lf rt (mg bs lf rt i).1 i (mg bs lf rt i).2.1 lj (mg bs lf rt i).2.2.1 rj (mg bs lf rt i).2.2.2).2) := by
  rw [mg, h1, h2]
theorem mg_skipL {bs lf rt : List Int32} {i : Nat} (h1 : pn bs lf i = none) : mg bs lf rt (i + 1) = mg bs lf rt i := by rw [mg, h1]
theorem mg_skipR {bs lf rt : List Int32} {i : Nat} (h2 : pn bs rt i = none) : mg bs lf rt (i + 1) = mg bs lf rt i := by
  rw [mg]
  cases h1 : pn bs lf i with
  | none => rfl
  | some j => rw [h2]
theorem fro_up (a b : List Int32) (i : Nat) : fro a b i ≤ fro a b (i + 1) := by
  cases h : pn a b i with
  | none => rw [fro_none h]; exact Nat.le_refl _
  | some j => rw [fro_some h]; have := (stp_spec (show stp a b (fro a b i) i = some j from h)).1; omega
theorem mg_in (bs lf rt : List Int32) (i : Nat) : (mg bs lf rt i).1 ≤ i ∧ (mg bs lf rt i).2.1 ≤ fro bs lf i ∧ (mg bs lf rt i).2.2.1 ≤ fro bs rt i ∧ (mg bs lf rt i).2.2.2.1.length ≤ (mg bs lf rt i).2.1 + (mg bs lf rt i).2.2.1 ∧ (mg bs lf rt i).2.2.2.2.length ≤ (mg bs lf rt i).1 := by
  induction i with
  | zero => exact ⟨Nat.le_refl _, Nat.le_refl _, Nat.le_refl _, Nat.le_refl _, Nat.le_refl _⟩
  | succ i ih =>
    cases h1 : pn bs lf i with
    | none =>
      rw [mg_skipL h1]
      have u1 := fro_up bs lf i
      have u2 := fro_up bs rt i
      omega
    | some lj =>
      cases h2 : pn bs rt i with
      | none =>
        rw [mg_skipR h2]
        have u1 := fro_up bs lf i
        have u2 := fro_up bs rt i
        omega
      | some rj =>
        rw [mg_anchor h1 h2, fro_some h1, fro_some h2]
        have s1 := stp_spec (show stp bs lf (fro bs lf i) i = some lj from h1)
        have s2 := stp_spec (show stp bs rt (fro bs rt i) i = some rj from h2)
        have hj := joinP_len (bs := bs) (lf := lf) (rt := rt) (a := (mg bs lf rt i).1) (i := i) (la := (mg bs lf rt i).2.1) (lj := lj) (ra := (mg bs lf rt i).2.2.1) (rj := rj) (mg bs lf rt i).2.2.2 (by omega) (by omega)
        dsimp only
        rw [List.length_append, List.length_singleton]
        omega
theorem prs_up (a b : List Int32) {i p : Nat} (h : i ≤ p) : (prs a b i).length ≤ (prs a b p).length := by
  induction p with
  | zero => rw [show i = 0 by omega]; exact Nat.le_refl _
  | succ p ih =>
    rcases Nat.lt_or_ge i (p + 1) with h9 | h9
    · have := ih (by omega)
      cases hp : pn a b p with
      | none => rw [prs_none hp]; exact this
      | some j => rw [prs_some hp, List.length_append]; omega
    · rw [show i = p + 1 by omega]; exact Nat.le_refl _
theorem mg_same {bs lf rt : List Int32} {i p : Nat} (h : i ≤ p) (e : prs bs lf i = prs bs lf p) : mg bs lf rt i = mg bs lf rt p := by
  induction p with
  | zero => rw [show i = 0 by omega]
  | succ p ih =>
    rcases Nat.lt_or_ge i (p + 1) with h9 | h9
    · cases hp : pn bs lf p with
      | none => rw [mg_skipL hp]; exact ih (by omega) (by rw [e, prs_none hp])
      | some j =>
        have h1 := prs_up bs lf (show i ≤ p by omega)
        rw [e, prs_some hp, List.length_append, List.length_singleton] at h1
        omega
    · rw [show i = p + 1 by omega]
/-- what comes of merging, and its conflicts -/
def mgF (bs lf rt : List Int32) : List Int32 × List N3 := joinP bs lf rt (mg bs lf rt bs.length).1 bs.length (mg bs lf rt bs.length).2.1 lf.length (mg bs lf rt bs.length).2.2.1 rt.length (mg bs lf rt bs.length).2.2.2
end
section
/-! THE MATHEMATICS, on: whole numbers, where a hunk fits, patching -/
def iZ (z : Int) : Int32 := Int32.ofInt z
theorem iZ_nat (n : Nat) : nI n = iZ (n : Int) := Int32.ofInt_eq_ofNat.symm
theorem iZ_add (x y : Int) : iZ x + iZ y = iZ (x + y) := (Int32.ofInt_add x y).symm
theorem iZ_sub (x y : Int) : iZ x - iZ y = iZ (x - y) := (Int32.ofInt_sub x y).symm
theorem iZ_toInt {z : Int} (h1 : -4000 < z) (h2 : z < 4000) : (iZ z).toInt = z := Int32.toInt_ofInt_of_le (by omega) (by omega)
theorem iZ_abs {z : Int} (h1 : -4000 < z) (h2 : z < 4000) : (if 0 ≤ iZ z then iZ z else 0 - iZ z) = nI z.natAbs := by
  have e := iZ_toInt h1 h2
  by_cases h : 0 ≤ z
  · have h9 : (0 : Int32) ≤ iZ z := by rw [Int32.le_iff_toInt_le, e]; simpa using h
    rw [if_pos h9, iZ_nat, Int.natAbs_of_nonneg h]
  · have h9 : ¬ (0 : Int32) ≤ iZ z := by
      rw [Int32.le_iff_toInt_le, e]
      intro h8
      exact h (by simpa using h8)
    rw [if_neg h9, show (0 : Int32) = iZ 0 from rfl, iZ_sub, iZ_nat]
    congr 1
    omega
theorem nI_subI (x y : Nat) : nI x - nI y = iZ ((x : Int) - (y : Int)) := by rw [iZ_nat, iZ_nat, iZ_sub]
theorem nI_sublt {a b x : Nat} (ha : a < 1000) (hb : b < 1000) (hx : x < 1000) : nI a - nI b < nI x ↔ a < x + b := by
  rw [nI_subI, iZ_nat, Int32.lt_iff_toInt_lt, iZ_toInt (by omega) (by omega), iZ_toInt (by omega) (by omega)]
  omega
theorem nI_subeq {a b q : Nat} (ha : a < 1000) (hb : b < 1000) (hq : q < 1000) : nI a - nI b = nI q ↔ a = q + b := by
  constructor
  · intro h
    have h1 := congrArg Int32.toInt h
    rw [nI_subI, iZ_nat, iZ_toInt (by omega) (by omega), iZ_toInt (by omega) (by omega)] at h1
    omega
  · intro h
    rw [nI_subI, iZ_nat]
    congr 1
    omega
theorem nJ_max {b : Nat} (h : b < 2 ^ 31) : (if nJ b < nI 0 then nI 0 else nJ b) = nI (b - 1) := by
  rw [nI_0]
  cases b with
  | zero => rw [if_pos ((nJ_neg (by omega)).mpr rfl)]; rfl
  | succ i => rw [if_neg (fun h9 => by have := (nJ_neg h).mp h9; omega), nJ_succ]; rfl
/-- the hunk's part of a fits in c at p, with the lines round it -/
def fitB (a : List Int32) (bg ln : Nat) (c : List Int32) (p : Nat) : Bool := decide (p + ln ≤ c.length) && ((List.range ln).all (fun k => decide (c.getD (p + k) 0 = a.getD (bg + k) 0)) && ((decide (bg = 0) || (decide (0 < p) && decide (c.getD (p - 1) 0 = a.getD (bg - 1) 0))) && (decide (bg + ln = a.length) || (decide (p + ln < c.length) && decide (c.getD (p + ln) 0 = a.getD (bg + ln) 0)))))
theorem fitB_iff {a : List Int32} {bg ln : Nat} {c : List Int32} {p : Nat} : fitB a bg ln c p = true ↔ p + ln ≤ c.length ∧ (∀ k, k < ln → c.getD (p + k) 0 = a.getD (bg + k) 0) ∧ (bg = 0 ∨ (0 < p ∧ c.getD (p - 1) 0 = a.getD (bg - 1) 0)) ∧ (bg + ln = a.length ∨ (p + ln < c.length ∧ c.getD (p + ln) 0 = a.getD (bg + ln) 0)) := by
  simp only [fitB, Bool.and_eq_true, Bool.or_eq_true, decide_eq_true_eq, List.all_eq_true, List.mem_range]
/-- line by line -/
def lnB (a : List Int32) (bg : Nat) (c : List Int32) (p k : Nat) : Prop := bg ≤ p + k ∧ p + k - bg < c.length ∧ c.getD (p + k - bg) 0 = a.getD k 0
theorem fit_lines {a : List Int32} {bg ln : Nat} {c : List Int32} {p : Nat} (h1 : p + ln ≤ c.length) (h2 : bg + ln ≤ a.length) : fitB a bg ln c p = true ↔ ∀ k, bg - 1 ≤ k → k < min (bg + ln + 1) a.length → lnB a bg c p k := by
  rw [fitB_iff]
  constructor
  · rintro ⟨-, f1, f2, f3⟩ k k1 k2
    unfold lnB
    rcases Nat.lt_or_ge k bg with h | h
    · rcases f2 with f2 | ⟨f2, f4⟩
      · omega
      · rw [show k = bg - 1 by omega, show p + (bg - 1) - bg = p - 1 by omega]
        exact ⟨by omega, by omega, f4⟩
    · rcases Nat.lt_or_ge k (bg + ln) with h9 | h9
      · have := f1 (k - bg) (by omega)
        rw [show p + (k - bg) = p + k - bg by omega, show bg + (k - bg) = k by omega] at this
        exact ⟨by omega, by omega, this⟩
      · rcases f3 with f3 | ⟨f3, f4⟩
        · omega
        · rw [show k = bg + ln by omega, show p + (bg + ln) - bg = p + ln by omega]
          exact ⟨by omega, by omega, f4⟩
  · intro f
    refine ⟨h1, fun k hk => ?_, ?_, ?_⟩
    · have := (f (bg + k) (by omega) (by omega)).2.2
      rw [show p + (bg + k) - bg = p + k by omega] at this
      exact this
    · rcases Nat.eq_zero_or_pos bg with h | h
      · exact Or.inl h
      · have := f (bg - 1) (Nat.le_refl _) (by omega)
        have h9 := this.2.2
        have h8 := this.1
        rw [show p + (bg - 1) - bg = p - 1 by omega] at h9
        exact Or.inr ⟨by omega, h9⟩
    · rcases Nat.lt_or_ge (bg + ln) a.length with h | h
      · have := f (bg + ln) (by omega) (by omega)
        have h9 := this.2.2
        have h8 := this.2.1
        rw [show p + (bg + ln) - bg = p + ln by omega] at h9 h8
        exact Or.inr ⟨h8, h9⟩
      · exact Or.inl (by omega)
/-- of the places from lo on the one nearest to w, of two the first one -/
def nrst (P : Nat → Bool) (w : Int) (lo : Nat) : Nat → Option Nat
  | 0 => none
  | n + 1 => match nrst P w lo n with
    | none => if P (lo + n) = true then some (lo + n) else none
    | some q => if (((lo + n : Nat) : Int) - w).natAbs < ((q : Int) - w).natAbs ∧ P (lo + n) = true then some (lo + n) else some q
theorem nrst_no {P : Nat → Bool} {w : Int} {lo n : Nat} (h : ¬ P (lo + n) = true) : nrst P w lo (n + 1) = nrst P w lo n := by
  rw [nrst]
  cases e : nrst P w lo n with
  | none => simp only; rw [if_neg h]
  | some q => simp only; rw [if_neg (fun h9 => h h9.2)]
theorem nrst_far {P : Nat → Bool} {w : Int} {lo n q : Nat} (e : nrst P w lo n = some q) (h : ¬ (((lo + n : Nat) : Int) - w).natAbs < ((q : Int) - w).natAbs) : nrst P w lo (n + 1) = nrst P w lo n := by
  rw [nrst, e]; simp only; rw [if_neg (fun h9 => h h9.1)]
theorem nrst_new {P : Nat → Bool} {w : Int} {lo n : Nat} (h : P (lo + n) = true) (e : nrst P w lo n = none ∨ ∃ q, nrst P w lo n = some q ∧ (((lo + n : Nat) : Int) - w).natAbs < ((q : Int) - w).natAbs) : nrst P w lo (n + 1) = some (lo + n) := by
  rw [nrst]
  rcases e with e | ⟨q, e, h2⟩
  · rw [e]; simp only; rw [if_pos h]
  · rw [e]; simp only; rw [if_pos ⟨h2, h⟩]
theorem nrst_in {P : Nat → Bool} {w : Int} {lo q : Nat} : ∀ {n : Nat}, nrst P w lo n = some q → lo ≤ q ∧ q < lo + n ∧ P q = true := by
  intro n
  induction n with
  | zero => intro h; cases h
  | succ n ih =>
    intro h
    by_cases h9 : P (lo + n) = true
    · cases e : nrst P w lo n with
      | none =>
        rw [nrst_new h9 (Or.inl e)] at h
        cases h
        exact ⟨by omega, by omega, h9⟩
      | some q2 =>
        by_cases h8 : (((lo + n : Nat) : Int) - w).natAbs < ((q2 : Int) - w).natAbs
        · rw [nrst_new h9 (Or.inr ⟨q2, e, h8⟩)] at h
          cases h
          exact ⟨by omega, by omega, h9⟩
        · rw [nrst_far e h8] at h
          have := ih h
          exact ⟨this.1, by omega, this.2.2⟩
    · rw [nrst_no h9] at h
      have := ih h
      exact ⟨this.1, by omega, this.2.2⟩
theorem nrst_ext {P : Nat → Bool} {w : Int} {lo t : Nat} (h : ∀ p, lo + t ≤ p → ¬ P p = true) : ∀ {m : Nat}, t ≤ m → nrst P w lo m = nrst P w lo t := by
  intro m
  induction m with
  | zero => intro h9; rw [show t = 0 by omega]
  | succ m ih =>
    intro h9
    rcases Nat.lt_or_ge t (m + 1) with h8 | h8
    · rw [nrst_no (h _ (by omega))]; exact ih (by omega)
    · rw [show t = m + 1 by omega]
/-- the end of where the last hunk was done, by how much it was off, what came so far, how many were rejected -/
abbrev PS : Type := Nat × Int × List Int32 × Nat
def pwh (a c : List Int32) (s : PS) (h : N4) : Option Nat := nrst (fitB a h.1 h.2.1 c) ((h.1 : Int) + s.2.1) s.1 (c.length + 1 - s.1)
def pstep (a b c : List Int32) (s : PS) (h : N4) : PS := match pwh a c s h with
  | none => (s.1, s.2.1, s.2.2.1, s.2.2.2 + 1)
  | some p => (p + h.2.1, (p : Int) - (h.1 : Int), (s.2.2.1 ++ pt c s.1 p) ++ pt b h.2.2.1 (h.2.2.1 + h.2.2.2), s.2.2.2)
def pfold (a b c : List Int32) (hs : List N4) : PS := hs.foldl (pstep a b c) (0, 0, [], 0)
theorem pfold_snoc (a b c : List Int32) (hs : List N4) (h : N4) : pfold a b c (hs ++ [h]) = pstep a b c (pfold a b c hs) h := by rw [pfold, pfold, List.foldl_append]; rfl
theorem pstep_none {a b c : List Int32} {s : PS} {h : N4} (e : pwh a c s h = none) : pstep a b c s h = (s.1, s.2.1, s.2.2.1, s.2.2.2 + 1) := by rw [pstep, e]
theorem pstep_some {a b c : List Int32} {s : PS} {h : N4} {p : Nat} (e : pwh a c s h = some p) : pstep a b c s h = (p + h.2.1, (p : Int) - (h.1 : Int), (s.2.2.1 ++ pt c s.1 p) ++ pt b h.2.2.1 (h.2.2.1 + h.2.2.2), s.2.2.2) := by rw [pstep, e]
/-- what comes of c, and how many hunks are rejected -/
def patF (a b c : List Int32) : List Int32 × Nat := ((pfold a b c (hunksOf a b)).2.2.1 ++ pt c (pfold a b c (hunksOf a b)).1 c.length, (pfold a b c (hunksOf a b)).2.2.2)
/-- how many lines of b the hunks have -/
def bsum (hs : List N4) : Nat := (hs.map (fun h => h.2.2.2)).sum
theorem bsum_app (x y : List N4) : bsum (x ++ y) = bsum x + bsum y := by simp [bsum]
def hkok (a b : List Int32) (hs : List N4) : Prop := ∀ h ∈ hs, h.1 + h.2.1 ≤ a.length ∧ h.2.2.1 + h.2.2.2 ≤ b.length
theorem hk1_ok {a b : List Int32} {x i y j : Nat} (hx : x ≤ i) (hi : i ≤ a.length) (hy : y ≤ j) (hj : j ≤ b.length) : hkok a b (hk1 x i y j) ∧ bsum (hk1 x i y j) ≤ j - y := by
  unfold hk1
  split
  · refine ⟨fun h hh => ?_, ?_⟩
    · cases List.mem_singleton.mp hh
      exact ⟨by show x + (i - x) ≤ _; omega, by show y + (j - y) ≤ _; omega⟩
    · simp [bsum]
  · exact ⟨fun h hh => (by cases hh), by simp [bsum]⟩
theorem cutp_ok (a b : List Int32) (i : Nat) (hi : i ≤ a.length) : hkok a b (cutp (prs a b i)).2.2 ∧ bsum (cutp (prs a b i)).2.2 ≤ (cutp (prs a b i)).2.1 := by
  induction i with
  | zero => exact ⟨fun h hh => (by cases hh), Nat.le_refl _⟩
  | succ i ih =>
    have ih := ih (by omega)
    have hc := cutp_prs a b i
    cases h : pn a b i with
    | none => rw [prs_none h]; exact ih
    | some j =>
      have hs := stp_spec (show stp a b (fro a b i) i = some j from h)
      have h1 := hk1_ok (a := a) (b := b) hc.1 (by omega) (show (cutp (prs a b i)).2.1 ≤ j by omega) (by omega)
      rw [prs_some h, cutp_snoc]
      refine ⟨fun h hh => (List.mem_append.mp hh).elim (ih.1 h) (h1.1 h), ?_⟩
      simp only [cstep]
      rw [bsum_app]
      omega
theorem hunks_ok (a b : List Int32) : hkok a b (hunksOf a b) ∧ bsum (hunksOf a b) ≤ b.length ∧ (hunksOf a b).length ≤ a.length + 1 := by
  have hc := cutp_prs a b a.length
  have ho := cutp_ok a b a.length (Nat.le_refl _)
  have hf := fro_le a b a.length
  have h1 := hk1_ok (a := a) (b := b) hc.1 (Nat.le_refl _) (show (cutp (prs a b a.length)).2.1 ≤ b.length by omega) (Nat.le_refl _)
  have hl := hk1_len (cutp (prs a b a.length)).1 a.length (cutp (prs a b a.length)).2.1 b.length
  have hp := (prs_len a b a.length).1
  refine ⟨fun h hh => (List.mem_append.mp hh).elim (ho.1 h) (h1.1 h), ?_, ?_⟩
  · rw [hunksOf, bsum_app]; omega
  · rw [hunksOf, List.length_append]; omega
theorem bsum_take (hs : List N4) (k : Nat) : bsum (hs.take k) ≤ bsum hs := by
  have := bsum_app (hs.take k) (hs.drop k)
  rw [List.take_append_drop] at this
  omega
theorem pfold_ok {a b c : List Int32} {hs : List N4} (hk : hkok a b hs) (ha : a.length ≤ 60) (hc : c.length ≤ 60) : (pfold a b c hs).1 ≤ c.length ∧ -60 ≤ (pfold a b c hs).2.1 ∧ (pfold a b c hs).2.1 ≤ 60 ∧ (pfold a b c hs).2.2.1.length ≤ (pfold a b c hs).1 + bsum hs ∧ (pfold a b c hs).2.2.2 ≤ hs.length := by
  have key : ∀ (n : Nat) (hs : List N4), hs.length = n → hkok a b hs → (pfold a b c hs).1 ≤ c.length ∧ -60 ≤ (pfold a b c hs).2.1 ∧ (pfold a b c hs).2.1 ≤ 60 ∧ (pfold a b c hs).2.2.1.length ≤ (pfold a b c hs).1 + bsum hs ∧ (pfold a b c hs).2.2.2 ≤ hs.length := by
    intro n
    induction n with
    | zero =>
      intro hs hl _
      cases List.length_eq_zero_iff.mp hl
      exact ⟨Nat.zero_le _, show (-60 : Int) ≤ 0 by decide, show (0 : Int) ≤ 60 by decide, Nat.zero_le _, Nat.zero_le _⟩
    | succ n ih =>
      intro hs hl hk
      have hne : hs ≠ [] := fun e => by rw [e] at hl; cases hl
      have e : hs = hs.dropLast ++ [hs.getLast hne] := (List.dropLast_concat_getLast hne).symm
      have hkl := hk (hs.getLast hne) (List.getLast_mem hne)
      have ih := ih hs.dropLast (by rw [List.length_dropLast, hl]; rfl) (fun h hh => hk h (List.dropLast_subset _ hh))
      generalize hs.dropLast = t at e ih
      generalize hs.getLast hne = h at e hkl
      subst e
      rw [pfold_snoc, bsum_app, List.length_append, List.length_singleton]
      cases e9 : pwh a c (pfold a b c t) h with
      | none =>
        rw [pstep_none e9]
        dsimp only
        omega
      | some p =>
        rw [pstep_some e9]
        have hin := nrst_in e9
        have hf := (fitB_iff.mp hin.2.2).1
        dsimp only
        rw [List.length_append, List.length_append, pt_len (by omega), pt_len (by omega), show h.2.2.1 + h.2.2.2 - h.2.2.1 = h.2.2.2 by omega, show bsum [h] = h.2.2.2 by simp [bsum]]
        omega
  exact key _ hs rfl hk
end
