section
-- ===== PART A: goes FIRST, ahead of the names: the tables' words, and 'selects' of the private methods out of them =====
/-- a private method of a class that the tables say can be made, by its rows of tables_1 -/
def lw_okq (q : MethodName × Nat) : Prop := (q.1.cls ≠ "java/lang/invoke/MethodHandle" ∧ q.1.cls ≠ "java/lang/invoke/VarHandle") ∧ Cond.instantiable q.1.cls q.2 ∈ tables_1 ∧ Cond.privateMethod q.1 ∈ tables_1 ∧ Cond.instanceMethod q.1 ∈ tables_1
theorem lw_p0 : lw_okq (⟨"java/lang/Throwable", "fillInStackTrace", "(I)Ljava/lang/Throwable;"⟩, 6) := ⟨⟨by decide +kernel, by decide +kernel⟩, List.mem_of_getElem? (i := 153) (by decide +kernel), List.mem_of_getElem? (i := 151) (by decide +kernel), List.mem_of_getElem? (i := 152) (by decide +kernel)⟩
theorem lw_p1 : lw_okq (⟨"DialectAtlas", "takeDraft", "()I"⟩, 10) := ⟨⟨by decide +kernel, by decide +kernel⟩, List.mem_of_getElem? (i := 23) (by decide +kernel), List.mem_of_getElem? (i := 231) (by decide +kernel), List.mem_of_getElem? (i := 232) (by decide +kernel)⟩
theorem lw_p2 : lw_okq (⟨"java/util/ArrayList", "add", "(Ljava/lang/Object;[Ljava/lang/Object;I)V"⟩, 3) := ⟨⟨by decide +kernel, by decide +kernel⟩, List.mem_of_getElem? (i := 31) (by decide +kernel), List.mem_of_getElem? (i := 269) (by decide +kernel), List.mem_of_getElem? (i := 270) (by decide +kernel)⟩
theorem lw_p3 : lw_okq (⟨"java/util/ArrayList", "grow", "()[Ljava/lang/Object;"⟩, 3) := ⟨⟨by decide +kernel, by decide +kernel⟩, List.mem_of_getElem? (i := 31) (by decide +kernel), List.mem_of_getElem? (i := 273) (by decide +kernel), List.mem_of_getElem? (i := 274) (by decide +kernel)⟩
theorem lw_p4 : lw_okq (⟨"java/util/ArrayList", "grow", "(I)[Ljava/lang/Object;"⟩, 3) := ⟨⟨by decide +kernel, by decide +kernel⟩, List.mem_of_getElem? (i := 31) (by decide +kernel), List.mem_of_getElem? (i := 277) (by decide +kernel), List.mem_of_getElem? (i := 278) (by decide +kernel)⟩
theorem lw_p5 : lw_okq (⟨"DialectAtlas", "drawLines", "(I)I"⟩, 10) := ⟨⟨by decide +kernel, by decide +kernel⟩, List.mem_of_getElem? (i := 23) (by decide +kernel), List.mem_of_getElem? (i := 321) (by decide +kernel), List.mem_of_getElem? (i := 322) (by decide +kernel)⟩
theorem lw_p6 : lw_okq (⟨"DialectAtlas", "mostToldForm", "(II)I"⟩, 10) := ⟨⟨by decide +kernel, by decide +kernel⟩, List.mem_of_getElem? (i := 23) (by decide +kernel), List.mem_of_getElem? (i := 325) (by decide +kernel), List.mem_of_getElem? (i := 326) (by decide +kernel)⟩
theorem lw_p7 : lw_okq (⟨"DialectAtlas", "isThere", "(LDialectAtlas$Interview;)Z"⟩, 10) := ⟨⟨by decide +kernel, by decide +kernel⟩, List.mem_of_getElem? (i := 23) (by decide +kernel), List.mem_of_getElem? (i := 343) (by decide +kernel), List.mem_of_getElem? (i := 344) (by decide +kernel)⟩
theorem lw_p8 : lw_okq (⟨"DialectAtlas$Interview", "isFor", "(II)Z"⟩, 6) := ⟨⟨by decide +kernel, by decide +kernel⟩, List.mem_of_getElem? (i := 229) (by decide +kernel), List.mem_of_getElem? (i := 347) (by decide +kernel), List.mem_of_getElem? (i := 348) (by decide +kernel)⟩
theorem lw_p9 : lw_okq (⟨"DialectAtlas", "countLike", "(LDialectAtlas$Interview;)I"⟩, 10) := ⟨⟨by decide +kernel, by decide +kernel⟩, List.mem_of_getElem? (i := 23) (by decide +kernel), List.mem_of_getElem? (i := 351) (by decide +kernel), List.mem_of_getElem? (i := 352) (by decide +kernel)⟩
theorem lw_p10 : lw_okq (⟨"DialectAtlas", "formIfThere", "(LDialectAtlas$Interview;)I"⟩, 10) := ⟨⟨by decide +kernel, by decide +kernel⟩, List.mem_of_getElem? (i := 23) (by decide +kernel), List.mem_of_getElem? (i := 372) (by decide +kernel), List.mem_of_getElem? (i := 373) (by decide +kernel)⟩
theorem lw_p11 : lw_okq (⟨"DialectAtlas$Rule", "restsOn", "(LDialectAtlas$Interview;)Z"⟩, 8) := ⟨⟨by decide +kernel, by decide +kernel⟩, List.mem_of_getElem? (i := 390) (by decide +kernel), List.mem_of_getElem? (i := 431) (by decide +kernel), List.mem_of_getElem? (i := 432) (by decide +kernel)⟩
theorem lw_p12 : lw_okq (⟨"DialectAtlas", "applyRules", "(III)I"⟩, 10) := ⟨⟨by decide +kernel, by decide +kernel⟩, List.mem_of_getElem? (i := 23) (by decide +kernel), List.mem_of_getElem? (i := 458) (by decide +kernel), List.mem_of_getElem? (i := 459) (by decide +kernel)⟩
theorem lw_p13 : lw_okq (⟨"DialectAtlas$Rule", "goesAt", "(II)Z"⟩, 8) := ⟨⟨by decide +kernel, by decide +kernel⟩, List.mem_of_getElem? (i := 390) (by decide +kernel), List.mem_of_getElem? (i := 462) (by decide +kernel), List.mem_of_getElem? (i := 463) (by decide +kernel)⟩
theorem lw_p14 : lw_okq (⟨"DialectAtlas$Rule", "applyTo", "(I)I"⟩, 8) := ⟨⟨by decide +kernel, by decide +kernel⟩, List.mem_of_getElem? (i := 390) (by decide +kernel), List.mem_of_getElem? (i := 466) (by decide +kernel), List.mem_of_getElem? (i := 467) (by decide +kernel)⟩
theorem lw_p15 : lw_okq (⟨"DialectAtlas$Rule", "changes", "(II)Z"⟩, 8) := ⟨⟨by decide +kernel, by decide +kernel⟩, List.mem_of_getElem? (i := 390) (by decide +kernel), List.mem_of_getElem? (i := 470) (by decide +kernel), List.mem_of_getElem? (i := 471) (by decide +kernel)⟩
def lw_privs_1 : List (MethodName × Nat) := [(⟨"java/lang/Throwable", "fillInStackTrace", "(I)Ljava/lang/Throwable;"⟩, 6), (⟨"DialectAtlas", "takeDraft", "()I"⟩, 10), (⟨"java/util/ArrayList", "add", "(Ljava/lang/Object;[Ljava/lang/Object;I)V"⟩, 3), (⟨"java/util/ArrayList", "grow", "()[Ljava/lang/Object;"⟩, 3), (⟨"java/util/ArrayList", "grow", "(I)[Ljava/lang/Object;"⟩, 3), (⟨"DialectAtlas", "drawLines", "(I)I"⟩, 10), (⟨"DialectAtlas", "mostToldForm", "(II)I"⟩, 10), (⟨"DialectAtlas", "isThere", "(LDialectAtlas$Interview;)Z"⟩, 10), (⟨"DialectAtlas$Interview", "isFor", "(II)Z"⟩, 6), (⟨"DialectAtlas", "countLike", "(LDialectAtlas$Interview;)I"⟩, 10), (⟨"DialectAtlas", "formIfThere", "(LDialectAtlas$Interview;)I"⟩, 10), (⟨"DialectAtlas$Rule", "restsOn", "(LDialectAtlas$Interview;)Z"⟩, 8), (⟨"DialectAtlas", "applyRules", "(III)I"⟩, 10), (⟨"DialectAtlas$Rule", "goesAt", "(II)Z"⟩, 8), (⟨"DialectAtlas$Rule", "applyTo", "(I)I"⟩, 8), (⟨"DialectAtlas$Rule", "changes", "(II)Z"⟩, 8)]
theorem lw_r1 : ∀ q ∈ lw_privs_1, lw_okq q := List.forall_mem_cons.mpr ⟨lw_p0, List.forall_mem_cons.mpr ⟨lw_p1, List.forall_mem_cons.mpr ⟨lw_p2, List.forall_mem_cons.mpr ⟨lw_p3, List.forall_mem_cons.mpr ⟨lw_p4, List.forall_mem_cons.mpr ⟨lw_p5, List.forall_mem_cons.mpr ⟨lw_p6, List.forall_mem_cons.mpr ⟨lw_p7, List.forall_mem_cons.mpr ⟨lw_p8, List.forall_mem_cons.mpr ⟨lw_p9, List.forall_mem_cons.mpr ⟨lw_p10, List.forall_mem_cons.mpr ⟨lw_p11, List.forall_mem_cons.mpr ⟨lw_p12, List.forall_mem_cons.mpr ⟨lw_p13, List.forall_mem_cons.mpr ⟨lw_p14, List.forall_mem_cons.mpr ⟨lw_p15, fun _ h => absurd h List.not_mem_nil⟩⟩⟩⟩⟩⟩⟩⟩⟩⟩⟩⟩⟩⟩⟩⟩
theorem lw_p16 : lw_okq (⟨"DialectAtlas$StepCounter", "countSteps", "(II)I"⟩, 1) := ⟨⟨by decide +kernel, by decide +kernel⟩, List.mem_of_getElem? (i := 57) (by decide +kernel), List.mem_of_getElem? (i := 481) (by decide +kernel), List.mem_of_getElem? (i := 482) (by decide +kernel)⟩
theorem lw_p17 : lw_okq (⟨"DialectAtlas$StepCounter", "goThrough", "(II)I"⟩, 1) := ⟨⟨by decide +kernel, by decide +kernel⟩, List.mem_of_getElem? (i := 57) (by decide +kernel), List.mem_of_getElem? (i := 485) (by decide +kernel), List.mem_of_getElem? (i := 486) (by decide +kernel)⟩
theorem lw_p18 : lw_okq (⟨"DialectAtlas", "interviewsOf", "(I)J"⟩, 10) := ⟨⟨by decide +kernel, by decide +kernel⟩, List.mem_of_getElem? (i := 23) (by decide +kernel), List.mem_of_getElem? (i := 519) (by decide +kernel), List.mem_of_getElem? (i := 520) (by decide +kernel)⟩
theorem lw_p19 : lw_okq (⟨"DialectAtlas$Rule", "restNoMoreOn", "(J)V"⟩, 8) := ⟨⟨by decide +kernel, by decide +kernel⟩, List.mem_of_getElem? (i := 390) (by decide +kernel), List.mem_of_getElem? (i := 524) (by decide +kernel), List.mem_of_getElem? (i := 525) (by decide +kernel)⟩
theorem lw_p20 : lw_okq (⟨"DialectAtlasModel", "fails", "(I)I"⟩, 27) := ⟨⟨by decide +kernel, by decide +kernel⟩, List.mem_of_getElem? (i := 567) (by decide +kernel), List.mem_of_getElem? (i := 670) (by decide +kernel), List.mem_of_getElem? (i := 671) (by decide +kernel)⟩
theorem lw_p21 : lw_okq (⟨"DialectAtlasModel", "drafted", "()I"⟩, 27) := ⟨⟨by decide +kernel, by decide +kernel⟩, List.mem_of_getElem? (i := 567) (by decide +kernel), List.mem_of_getElem? (i := 684) (by decide +kernel), List.mem_of_getElem? (i := 685) (by decide +kernel)⟩
theorem lw_p22 : lw_okq (⟨"DialectAtlasModel", "isInterview", "(I)Z"⟩, 27) := ⟨⟨by decide +kernel, by decide +kernel⟩, List.mem_of_getElem? (i := 567) (by decide +kernel), List.mem_of_getElem? (i := 699) (by decide +kernel), List.mem_of_getElem? (i := 700) (by decide +kernel)⟩
theorem lw_p23 : lw_okq (⟨"DialectAtlasModel", "isRule", "(I)Z"⟩, 27) := ⟨⟨by decide +kernel, by decide +kernel⟩, List.mem_of_getElem? (i := 567) (by decide +kernel), List.mem_of_getElem? (i := 711) (by decide +kernel), List.mem_of_getElem? (i := 712) (by decide +kernel)⟩
theorem lw_p24 : lw_okq (⟨"DialectAtlasModel", "expects", "(III)I"⟩, 27) := ⟨⟨by decide +kernel, by decide +kernel⟩, List.mem_of_getElem? (i := 567) (by decide +kernel), List.mem_of_getElem? (i := 726) (by decide +kernel), List.mem_of_getElem? (i := 727) (by decide +kernel)⟩
theorem lw_p25 : lw_okq (⟨"DialectAtlasModel", "applies", "(II)I"⟩, 27) := ⟨⟨by decide +kernel, by decide +kernel⟩, List.mem_of_getElem? (i := 567) (by decide +kernel), List.mem_of_getElem? (i := 733) (by decide +kernel), List.mem_of_getElem? (i := 734) (by decide +kernel)⟩
theorem lw_p26 : lw_okq (⟨"DialectAtlasModel", "distance", "(II)I"⟩, 27) := ⟨⟨by decide +kernel, by decide +kernel⟩, List.mem_of_getElem? (i := 567) (by decide +kernel), List.mem_of_getElem? (i := 741) (by decide +kernel), List.mem_of_getElem? (i := 742) (by decide +kernel)⟩
theorem lw_p27 : lw_okq (⟨"DialectAtlasModel", "most", "(II)I"⟩, 27) := ⟨⟨by decide +kernel, by decide +kernel⟩, List.mem_of_getElem? (i := 567) (by decide +kernel), List.mem_of_getElem? (i := 749) (by decide +kernel), List.mem_of_getElem? (i := 750) (by decide +kernel)⟩
theorem lw_p28 : lw_okq (⟨"DialectAtlasModel", "drawn", "(I)I"⟩, 27) := ⟨⟨by decide +kernel, by decide +kernel⟩, List.mem_of_getElem? (i := 567) (by decide +kernel), List.mem_of_getElem? (i := 757) (by decide +kernel), List.mem_of_getElem? (i := 758) (by decide +kernel)⟩
theorem lw_p29 : lw_okq (⟨"DialectAtlasModel", "there", "()J"⟩, 27) := ⟨⟨by decide +kernel, by decide +kernel⟩, List.mem_of_getElem? (i := 567) (by decide +kernel), List.mem_of_getElem? (i := 777) (by decide +kernel), List.mem_of_getElem? (i := 778) (by decide +kernel)⟩
def lw_privs_2 : List (MethodName × Nat) := [(⟨"DialectAtlas$StepCounter", "countSteps", "(II)I"⟩, 1), (⟨"DialectAtlas$StepCounter", "goThrough", "(II)I"⟩, 1), (⟨"DialectAtlas", "interviewsOf", "(I)J"⟩, 10), (⟨"DialectAtlas$Rule", "restNoMoreOn", "(J)V"⟩, 8), (⟨"DialectAtlasModel", "fails", "(I)I"⟩, 27), (⟨"DialectAtlasModel", "drafted", "()I"⟩, 27), (⟨"DialectAtlasModel", "isInterview", "(I)Z"⟩, 27), (⟨"DialectAtlasModel", "isRule", "(I)Z"⟩, 27), (⟨"DialectAtlasModel", "expects", "(III)I"⟩, 27), (⟨"DialectAtlasModel", "applies", "(II)I"⟩, 27), (⟨"DialectAtlasModel", "distance", "(II)I"⟩, 27), (⟨"DialectAtlasModel", "most", "(II)I"⟩, 27), (⟨"DialectAtlasModel", "drawn", "(I)I"⟩, 27), (⟨"DialectAtlasModel", "there", "()J"⟩, 27)]
theorem lw_r2 : ∀ q ∈ lw_privs_2, lw_okq q := List.forall_mem_cons.mpr ⟨lw_p16, List.forall_mem_cons.mpr ⟨lw_p17, List.forall_mem_cons.mpr ⟨lw_p18, List.forall_mem_cons.mpr ⟨lw_p19, List.forall_mem_cons.mpr ⟨lw_p20, List.forall_mem_cons.mpr ⟨lw_p21, List.forall_mem_cons.mpr ⟨lw_p22, List.forall_mem_cons.mpr ⟨lw_p23, List.forall_mem_cons.mpr ⟨lw_p24, List.forall_mem_cons.mpr ⟨lw_p25, List.forall_mem_cons.mpr ⟨lw_p26, List.forall_mem_cons.mpr ⟨lw_p27, List.forall_mem_cons.mpr ⟨lw_p28, List.forall_mem_cons.mpr ⟨lw_p29, fun _ h => absurd h List.not_mem_nil⟩⟩⟩⟩⟩⟩⟩⟩⟩⟩⟩⟩⟩⟩
def lw_privs : List (MethodName × Nat) := lw_privs_1 ++ (lw_privs_2)
def lw_tbl : List Cond := k2_sels lw_privs ++ tables_1
theorem lw_privs_ok : ∀ q ∈ lw_privs, lw_okq q := by
  show ∀ q ∈ lw_privs_1 ++ (lw_privs_2), lw_okq q
  exact List.forall_mem_append.mpr ⟨lw_r1, lw_r2⟩
end
section
/-! ===== BEGIN words of one list among another's, by their places ===== -/
theorem goodIn_r {big : List Cond} (ws : List Cond) (ps : List Nat) (hp : ws = ps.filterMap (fun i => big[i]?)) (h : ws.all goodWord = true) : GoodIn big ws := by
  intro w hw
  have h1 := List.all_eq_true.mp h w hw
  rw [hp] at hw
  obtain ⟨i, -, hi⟩ := List.mem_filterMap.mp hw
  have hm : w ∈ big := by first | exact List.mem_of_getElem? hi | exact List.getElem?_mem hi
  exact ⟨hm, good_of_word h1⟩
theorem goodIn_app {big a b : List Cond} (ha : GoodIn big a) (hb : GoodIn big b) : GoodIn big (a ++ b) := fun w h => (List.mem_append.mp h).elim (ha w) (hb w)
theorem goodIn_ca {big a b : List Cond} {c : Cond} (ha : GoodIn big (c :: a)) (hb : GoodIn big b) : GoodIn big (c :: (a ++ b)) := fun w h => (List.mem_cons.mp h).elim (fun e => ha w (List.mem_cons.mpr (Or.inl e))) (fun h => (List.mem_append.mp h).elim (fun h => ha w (List.mem_cons.mpr (Or.inr h))) (hb w))
theorem goodIn_sub {big ws : List Cond} (hm : ∀ w ∈ ws, w ∈ big) (h : ws.all goodWord = true) : GoodIn big ws := fun w hw => ⟨hm w hw, good_of_word (List.all_eq_true.mp h w hw)⟩
/-! ===== END ===== -/

/-! ===== BEGIN exceptions that leave a method, and their catching by the caller (launches without stack traces) ===== -/
section VXA
/-! The laws vx_back, vx_callV, vx_callS, vx_callSW, vx_throw0, vx_throwS follow proofs of the library, with one case more: JvmDerived/Free/Laws.lean (Back.of_free), Shelf42/LK1.lean (callV, callS), Shelf/KitTraced.lean (throwNew0V, throwNewS). -/
/-- where a method has thrown q: the class by its name, the cell, what was written, the world -/
def vx_T (XC : String → State → State → Prop) (st : State) (q : Addr) (t : State) (mc ms : Nat) (free : Addr → Prop) : Prop :=
  ∃ (E : String) (ce : Cell) (L : List Loc), XC E st t ∧ t.heap[q]? = some ce ∧ ce.vm = .none ∧ st.vm.findClass E = some ce.cls ∧ st.WarmedH t.vm ∧ st.sameButNew ({ t with vm := st.vm } : State) L mc ms ∧ ∀ z ∈ L, free z.base
def vx_Q (Qc : Array Value → State → Outcome → State → Prop) (XC : String → State → State → Prop) (mc ms : Nat) (free : Addr → Prop) : Array Value → State → Outcome → State → Prop := fun a st o t =>
  (Qc a st o t ∧ ∃ L, FrameEnd st o t L mc ms ∧ ∀ q ∈ L, free q.base) ∨ ∃ q, o = .threw q ∧ vx_T XC st q t mc ms free
/-- a callee that returns or throws -/
def vx_Met (l : Launch) (y : MethodName) (ws : List Cond) (rm : Room) (Pc : Array Value → State → Prop) (Qc : Array Value → State → Outcome → State → Prop) (XC : String → State → State → Prop) (mc ms : Nat) (free : Addr → Prop) : Prop :=
  MetFree l y (headSpec ws rm) Pc (fun _ _ _ _ _ => True) (vx_Q Qc XC mc ms free)
def vx_Post (XC : String → State → State → Prop) (mc ms : Nat) (free : Addr → Prop) : Pt → Array Value → Addr → Pt → Prop := fun A a q B =>
  ∃ (g : JFrame) (mk : MethodId) (t : State) (L : List Loc) (E : String) (ce : Cell), B.U.heap = t.heap ∧ B.U.vm = t.vm ∧ XC E (A.U.calling g mk a) t ∧ t.heap[q]? = some ce ∧ ce.vm = .none ∧ A.U.vm.findClass E = some ce.cls ∧ B.locs = A.locs ++ L ∧ (∀ z ∈ L, free z.base) ∧ B.cells = A.cells + mc ∧ B.slots = A.slots + ms
def vx_Back (l : Launch) (R : Room) (p : Program) (e : Env) (below : List Frame) (s : State) (sargs : Array Value) (y : MethodName) (len W9 : Nat)
    (Pre : Pt → Array Value → Prop) (Post : Pt → Array Value → Option Value → Pt → Prop) (PostX : Pt → Array Value → Addr → Pt → Prop) : Prop :=
  ∀ (m : MethodId) (meth : Method) (c : Code) (A : Pt) (g : JFrame) (ig : Instr) (mk : MethodId) (a : Array Value),
    Stand p l e R s m sargs below meth c A.U A.locs A.cells A.slots → g.method = m → g.locals.size = c.maxLocals → decode c.code g.pc = .ok (ig, len) →
    2 * g.monitorRoom + (g.stack.map fun v => v.category).sum ≤ W9 → A.U.methodNamed? y = some mk → Pre A a →
    (∃ (v : Option Value) (B : Pt), Stand p l e R s m sargs below meth c B.U B.locs B.cells B.slots ∧ Post A a v B ∧
      Steps p.tables e below (doInvoke e (A.U.setTop g) [] mk a).1 (B.U.setTop { g with pc := g.pc + len, stack := v.toList ++ g.stack })) ∨
    (∃ (q : Addr) (B : Pt), Stand p l e R s m sargs below meth c B.U B.locs B.cells B.slots ∧ PostX A a q B ∧
      Steps p.tables e below (doInvoke e (A.U.setTop g) [] mk a).1 ((B.U.setTop g).pushFrame (.throwing q)))
section Payer
variable {l : Launch} {R : Room} {p : Program} {e : Env} {below : List Frame} {s : State} {sargs : Array Value} {y : MethodName} {len W9 : Nat}
theorem vx_back {ws : List Cond} {rm : Room} {Pc : Array Value → State → Prop} {Qc : Array Value → State → Outcome → State → Prop} {XC : String → State → State → Prop} {mc ms : Nat} {free : Addr → Prop} {bytes : ByteArray} {maxL : Nat} {ret : Option FieldType}
    (hM : vx_Met l y ws rm Pc Qc XC mc ms free) (hblind : FrameBlind Pc) (hrc : rm.cells = mc) (hrs : rm.slots = ms)
    (hframes : rm.frames + 1 ≤ R.frames) (hlocals : W9 + (maxL + 11) + rm.locals ≤ R.locals)
    (hws : ∀ w ∈ ws, ∀ a' U, s.WarmedH U.vm → w.before a' U = true) (hcode : Cond.code y bytes maxL ret ∈ ws) (hinit : ∀ a' U, s.WarmedH U.vm → (Cond.initialized y.cls).before a' U = true) :
    vx_Back l R p e below s sargs y len W9 (PreOf R mc ms Pc) (PostOf Qc mc ms free) (vx_Post XC mc ms free) := by
  intro m meth c A g ig mk a X hg hsize hdg hW hn hp
  have h1 : (headSpec ws rm).pre.before a A.U = true := atoms_intro fun w hw => hws w hw _ _ X.warmed
  have h2 : (Cond.code y bytes maxL ret).before a A.U = true := hws _ hcode _ _ X.warmed
  have h3 : (Cond.initialized y.cls).before a A.U = true := hinit _ _ X.warmed
  have h4 : A.cells + (headSpec ws rm).room.cells ≤ R.cells := by rw [show (headSpec ws rm).room.cells = mc from hrc]; exact hp.1
  have h5 : A.slots + (headSpec ws rm).room.slots ≤ R.slots := by rw [show (headSpec ws rm).room.slots = ms from hrs]; exact hp.2.1
  have hPc : Pc a (A.U.calling g mk a) := hblind _ _ _ _ hp.2.2
  obtain ⟨U, Ls, c0, s0⟩ := A
  dsimp only [Pt.U, Pt.locs, Pt.cells, Pt.slots] at h1 h2 h3 h4 h5 X hn hPc ⊢
  obtain ⟨methY, cY, hmY, hcY, -, hlY, -, -, -, -⟩ := Cond.code_spec hn h2
  obtain ⟨kY, hkY, -⟩ := className_of_methodNamed hn
  have hinitY : kY.init = .initialized := Cond.initialized_spec (findClass_of_methodNamed hn) hkY h3
  have h : At U g.method c below := by rw [hg]; exact X.here
  have hlocals9 : W9 + (maxL + 11) + (headSpec ws rm).room.locals ≤ R.locals := hlocals
  have happ : (headSpec ws rm).appliesLoose y e.platform (U.calling g mk a) = true :=
    Spec.appliesLoose_calling (g := g) h hdg hn hkY hinitY
      (X.room_calling (g := g) (R' := (headSpec ws rm).room) hsize hmY hcY hframes (by rw [hlY]; omega) h4 h5) h1
  obtain ⟨mid, hmid⟩ := h.above
  have hfr : (U.setTop g).frames = (.java g :: mid) ++ below := by rw [State.frames_setTop' g h.top, hmid]; rfl
  obtain ⟨o, s₂, hsteps, -, hend, hq⟩ := Steps.callFree hM p X.admits X.cas X.clock (acts := []) hfr happ hPc trivial
  have hq' : vx_Q Qc XC mc ms free a (U.calling g mk a) o s₂ := hq
  rw [State.frames_setTop' g h.top] at hend
  obtain ⟨g₀, hg0⟩ := Option.isSome_iff_exists.mp h.top
  obtain ⟨r, hr⟩ := State.topJava?_eq_some.mp hg0
  have hr' : (({ U with heap := s₂.heap, slotsUsed := s₂.slotsUsed } : State).setVm s₂.vm).frames = .java g₀ :: r := hr
  rcases hq' with ⟨hqc, L, hfe, hL⟩ | ⟨q, rfl, E, ce, L, hx, hce, hcv, hcl, hW₂, hsm, hL⟩
  · obtain ⟨⟨v, rfl⟩, hW₂, e2, q2, q3, q4, q5, q6⟩ := id hfe
    have e3 : s₂ = ({ (U.calling g mk a).setFrames s₂.frames with heap := s₂.heap, slotsUsed := s₂.slotsUsed } : State).setVm s₂.vm := by
      have : s₂ = ({ s₂ with vm := (U.calling g mk a).vm } : State).setVm s₂.vm := rfl
      rw [e2] at this
      exact this
    obtain ⟨c₂, i₂, len₂, hc₂, hd₂, hf₂⟩ := hend
    have hW' : U.WarmedH s₂.vm := hW₂
    have hcc : c₂ = c := by
      have h1 : s₂.code? g.method = U.code? g.method := by
        rw [State.code?_eq, State.code?_eq, hW'.alike.method?]
      exact Option.some.inj (hc₂.symm.trans (h1.trans h.code))
    subst hcc
    have hlen : len₂ = len := by rw [hdg] at hd₂; cases hd₂; rfl
    subst hlen
    have hs₂ : s₂ = (({ U with heap := s₂.heap, slotsUsed := s₂.slotsUsed } : State).setVm s₂.vm).setTop { g with pc := g.pc + len₂, stack := v.toList ++ g.stack } := by
      refine e3.trans ?_
      rw [hf₂, State.calling_eq h.top, State.setFrames_setFrames, State.setTop_of_frames _ hr', hr]
      rfl
    have hsame : U.sameButNew ({ U with heap := s₂.heap, slotsUsed := s₂.slotsUsed } : State) L mc ms := by
      refine ⟨?_, q2, q3, q4, q5, q6⟩
      obtain ⟨t, ht, -⟩ := State.frames_cons hr
      show ({ U with heap := s₂.heap, slotsUsed := s₂.slotsUsed } : State) = { U.setFrames U.frames with heap := s₂.heap, slotsUsed := s₂.slotsUsed }
      rw [State.setFrames_self ht]
    subst hg
    refine Or.inl ⟨v, ⟨(({ U with heap := s₂.heap, slotsUsed := s₂.slotsUsed } : State).setVm s₂.vm), Ls ++ L, c0 + mc, s0 + ms⟩,
      ⟨X.admits, X.cas, X.clock, X.frames, X.room, X.hears, X.method, X.code, (X.here.setHeapUsed s₂.heap s₂.slotsUsed).setVm hW'.alike, X.tail, State.WarmedH.trans X.warmed hW', X.limits, X.bytes, X.same.trans (hsame.setVm s.vm)⟩,
      ⟨g, mk, s₂, L, rfl, rfl, hqc, rfl, hL, rfl, rfl⟩, ?_⟩
    show Steps p.tables e below _ ((({ U with heap := s₂.heap, slotsUsed := s₂.slotsUsed } : State).setVm s₂.vm).setTop { g with pc := g.pc + len₂, stack := v.toList ++ g.stack })
    rw [← hs₂]
    exact hsteps
  · obtain ⟨e2, q2, q3, q4, q5, q6⟩ := id hsm
    have e3 : s₂ = ({ (U.calling g mk a).setFrames s₂.frames with heap := s₂.heap, slotsUsed := s₂.slotsUsed } : State).setVm s₂.vm := by
      have : s₂ = ({ s₂ with vm := (U.calling g mk a).vm } : State).setVm s₂.vm := rfl
      rw [e2] at this
      exact this
    have hf₂ : s₂.frames = .throwing q :: .java g :: U.frames.tail := hend
    have hW' : U.WarmedH s₂.vm := hW₂
    have hs₂ : s₂ = ((({ U with heap := s₂.heap, slotsUsed := s₂.slotsUsed } : State).setVm s₂.vm).setTop g).pushFrame (.throwing q) := by
      refine e3.trans ?_
      rw [hf₂, State.calling_eq h.top, State.setFrames_setFrames, State.pushFrame, State.frames_setTop _ hr', State.setTop_of_frames _ hr', State.setFrames_setFrames, hr]
      rfl
    have hsame : U.sameButNew ({ U with heap := s₂.heap, slotsUsed := s₂.slotsUsed } : State) L mc ms := by
      refine ⟨?_, q2, q3, q4, q5, q6⟩
      obtain ⟨t, ht, -⟩ := State.frames_cons hr
      show ({ U with heap := s₂.heap, slotsUsed := s₂.slotsUsed } : State) = { U.setFrames U.frames with heap := s₂.heap, slotsUsed := s₂.slotsUsed }
      rw [State.setFrames_self ht]
    subst hg
    refine Or.inr ⟨q, ⟨(({ U with heap := s₂.heap, slotsUsed := s₂.slotsUsed } : State).setVm s₂.vm), Ls ++ L, c0 + mc, s0 + ms⟩,
      ⟨X.admits, X.cas, X.clock, X.frames, X.room, X.hears, X.method, X.code, (X.here.setHeapUsed s₂.heap s₂.slotsUsed).setVm hW'.alike, X.tail, State.WarmedH.trans X.warmed hW', X.limits, X.bytes, X.same.trans (hsame.setVm s.vm)⟩,
      ⟨g, mk, s₂, L, E, ce, rfl, rfl, hx, hce, hcv, hcl, rfl, hL, rfl, rfl⟩, ?_⟩
    show Steps p.tables e below _ (((({ U with heap := s₂.heap, slotsUsed := s₂.slotsUsed } : State).setVm s₂.vm).setTop g).pushFrame (.throwing q))
    rw [← hs₂]
    exact hsteps
end Payer
section Calls
variable {p : Program} {l : Launch} {e : Env} {R : Room} {s : State} {m : MethodId} {args : Array Value} {below : List Frame} {meth : Method} {c : Code} {T : State} {locs : List Loc} {cells slots : Nat}
theorem vx_callV (X : Stand p l e R s m args below meth c T locs cells slots) (hexec : p.tables.exec = Jvm.exec) {own C : String} {index : Nat} {y : MethodName} {bytes : ByteArray} {maxL : Nat} {ret : Option FieldType}
    (hown : s.vm.findClass own = some m.cls) (hlink : (Cond.methodLink own index y).before args s = true) (hinst : (Cond.instanceMethod y).before args s = true) (hsel : (Cond.selects C y y).before args s = true)
    (hcode : (Cond.code y bytes maxL ret).before args s = true) (hy : y.cls ≠ "java/lang/invoke/MethodHandle" ∧ y.cls ≠ "java/lang/invoke/VarHandle")
    {W9 : Nat} {Pre : Pt → Array Value → Prop} {Post : Pt → Array Value → Option Value → Pt → Prop} {PostX : Pt → Array Value → Addr → Pt → Prop} (hK : vx_Back l R p e below s args y 3 W9 Pre Post PostX)
    {b : Addr} {cellB : Cell} (hcell : T.heap[b]? = some cellB) (hobj : cellB.vm.isStatics = false) (hcls : s.vm.findClass C = some cellB.cls)
    {g : JFrame} (hg : g.method = m) (hsize : g.locals.size = c.maxLocals) {argsL rest : List Value} (hlen : ∀ sig, parseMethodDescriptor y.desc = some sig → argsL.length = sig.parameters.length)
    (hstack : g.stack = argsL.reverse ++ .ref b :: rest) (hW : 2 * g.monitorRoom + (rest.map fun v => v.category).sum ≤ W9) (hdg : decode c.code g.pc = .ok (.invokevirtual index, 3))
    (hpre : ∀ vm₁, s.WarmedH vm₁ → Pre ⟨T.setVm vm₁, locs, cells, slots⟩ (Value.ref b :: argsL).toArray) :
    (∃ (v : Option Value) (vm₁ : Vm) (B : Pt), s.WarmedH vm₁ ∧ Stand p l e R s m args below meth c B.U B.locs B.cells B.slots ∧ Post ⟨T.setVm vm₁, locs, cells, slots⟩ (Value.ref b :: argsL).toArray v B ∧
      ∀ target, Steps p.tables e below (B.U.setTop { g with pc := g.pc + 3, stack := v.toList ++ rest }) target → Steps p.tables e below (T.setTop g) target) ∨
    (∃ (q : Addr) (vm₁ : Vm) (B : Pt), s.WarmedH vm₁ ∧ Stand p l e R s m args below meth c B.U B.locs B.cells B.slots ∧ PostX ⟨T.setVm vm₁, locs, cells, slots⟩ (Value.ref b :: argsL).toArray q B ∧
      Steps p.tables e below (T.setTop g) ((B.U.setTop { g with stack := rest }).pushFrame (.throwing q))) := by
  obtain ⟨mk, methM, hnamed, hmethM, hstM, habM⟩ := Cond.instanceMethod_spec hinst
  obtain ⟨methM', cM, hmethM', -, -, -, -, -, -, hsigM⟩ := Cond.code_spec hnamed hcode
  cases hmethM.symm.trans hmethM'
  obtain ⟨c2, r2, m2, q1, q2, q3, q4, kP, hkP, hkPi⟩ := Cond.selects_spec hsel
  cases hcls.symm.trans q1
  cases (State.methodFound?_of_named hnamed hy).symm.trans q2
  cases hnamed.symm.trans q3
  have hselP : selectMethod e.platform s.vm cellB.cls mk = .method mk := by rw [Launch.admits_selectMethod X.admits]; exact q4
  obtain ⟨vm₁, X₁, hstep₁⟩ := X.invokevirtual hexec hown hlink hnamed hmethM hstM hkP hkPi hy (a := b) (cell := cellB) hcell
    (fun z h => by rw [h] at hobj; cases hobj) hselP hmethM habM hkP hkPi (g := g) hg (argsL := argsL) (rest := rest) (hlen _ hsigM) hstack hdg
  rcases hK m meth c ⟨T.setVm vm₁, locs, cells, slots⟩ { g with stack := rest } (.invokevirtual index) mk (Value.ref b :: argsL).toArray X₁ hg hsize hdg hW (X₁.named hnamed) (hpre vm₁ X₁.warmed) with ⟨v, B, X', hpost, hsteps⟩ | ⟨q, B, X', hpost, hsteps⟩
  · exact Or.inl ⟨v, vm₁, B, X₁.warmed, X', hpost, fun target h => hstep₁ _ fun acts => by rw [doInvoke_state]; exact hsteps.trans h⟩
  · exact Or.inr ⟨q, vm₁, B, X₁.warmed, X', hpost, hstep₁ _ fun acts => by rw [doInvoke_state]; exact hsteps⟩
theorem vx_callS (X : Stand p l e R s m args below meth c T locs cells slots) (hexec : p.tables.exec = Jvm.exec) {own : String} {index : Nat} {y : MethodName} {bytes : ByteArray} {maxL : Nat} {ret : Option FieldType}
    (hown : s.vm.findClass own = some m.cls) (hlink : (Cond.methodLink own index y).before args s = true) (hstat : (Cond.static y).before args s = true) (hinit : (Cond.initialized y.cls).before args s = true)
    (hcode : (Cond.code y bytes maxL ret).before args s = true) (hy : y.cls ≠ "java/lang/invoke/MethodHandle" ∧ y.cls ≠ "java/lang/invoke/VarHandle")
    {W9 : Nat} {Pre : Pt → Array Value → Prop} {Post : Pt → Array Value → Option Value → Pt → Prop} {PostX : Pt → Array Value → Addr → Pt → Prop} (hK : vx_Back l R p e below s args y 3 W9 Pre Post PostX)
    {g : JFrame} (hg : g.method = m) (hsize : g.locals.size = c.maxLocals) {argsL rest : List Value} (hlen : ∀ sig, parseMethodDescriptor y.desc = some sig → argsL.length = sig.parameters.length)
    (hstack : g.stack = argsL.reverse ++ rest) (hW : 2 * g.monitorRoom + (rest.map fun v => v.category).sum ≤ W9) (hdg : decode c.code g.pc = .ok (.invokestatic index, 3))
    (hpre : ∀ vm₁, s.WarmedH vm₁ → Pre ⟨T.setVm vm₁, locs, cells, slots⟩ argsL.toArray) :
    (∃ (v : Option Value) (vm₁ : Vm) (B : Pt), s.WarmedH vm₁ ∧ Stand p l e R s m args below meth c B.U B.locs B.cells B.slots ∧ Post ⟨T.setVm vm₁, locs, cells, slots⟩ argsL.toArray v B ∧
      ∀ target, Steps p.tables e below (B.U.setTop { g with pc := g.pc + 3, stack := v.toList ++ rest }) target → Steps p.tables e below (T.setTop g) target) ∨
    (∃ (q : Addr) (vm₁ : Vm) (B : Pt), s.WarmedH vm₁ ∧ Stand p l e R s m args below meth c B.U B.locs B.cells B.slots ∧ PostX ⟨T.setVm vm₁, locs, cells, slots⟩ argsL.toArray q B ∧
      Steps p.tables e below (T.setTop g) ((B.U.setTop { g with stack := rest }).pushFrame (.throwing q))) := by
  obtain ⟨mk, hnamed⟩ := Cond.code_named hcode
  obtain ⟨methM, cM, hmethM, -, -, -, -, -, -, hsigM⟩ := Cond.code_spec hnamed hcode
  have hstatic : methM.isStatic = true := Cond.static_spec hnamed hmethM hstat
  obtain ⟨kP, hkP, -⟩ := className_of_methodNamed hnamed
  have hinitP : kP.init = .initialized := Cond.initialized_spec (findClass_of_methodNamed hnamed) hkP hinit
  obtain ⟨vm₁, X₁, hstep₁⟩ := X.invokestatic hexec hown hlink hnamed hmethM hstatic hkP hinitP hy (g := g) hg (argsL := argsL) (rest := rest) (hlen _ hsigM) hstack hdg
  rcases hK m meth c ⟨T.setVm vm₁, locs, cells, slots⟩ { g with stack := rest } (.invokestatic index) mk argsL.toArray X₁ hg hsize hdg hW (X₁.named hnamed) (hpre vm₁ X₁.warmed) with ⟨v, B, X', hpost, hsteps⟩ | ⟨q, B, X', hpost, hsteps⟩
  · exact Or.inl ⟨v, vm₁, B, X₁.warmed, X', hpost, fun target h => hstep₁ _ fun acts => by rw [doInvoke_state]; exact hsteps.trans h⟩
  · exact Or.inr ⟨q, vm₁, B, X₁.warmed, X', hpost, hstep₁ _ fun acts => by rw [doInvoke_state]; exact hsteps⟩
end Calls
theorem vx_cls {s : State} {T : State} {vm₁ : Vm} {E : String} {k : ClassId} (hW : s.WarmedH vm₁) (h : (T.setVm vm₁).vm.findClass E = some k) : s.vm.findClass E = some k := by
  have h1 : vm₁.findClass E = some k := h
  rw [hW.alike.findClass] at h1
  exact h1
/-- the method's frame g, with q thrown over it -/
def vx_W (p : Program) (l : Launch) (e : Env) (R : Room) (s : State) (m : MethodId) (args : Array Value) (below : List Frame) (meth : Method) (c : Code) (H : Heap) (locs : List Loc) (cells slots : Nat) (Q : State → Prop) (g : JFrame) (q : Addr) : Prop :=
  ∀ T : State, T.heap = H → Stand p l e R s m args below meth c T locs cells slots → ∃ t, Steps p.tables e below ((T.setTop g).pushFrame (.throwing q)) t ∧ Q t
def vx_Run (p : Program) (l : Launch) (e : Env) (R : Room) (s : State) (m : MethodId) (args : Array Value) (below : List Frame) (meth : Method) (c : Code) (H : Heap) (locs : List Loc) (cells slots mc ms : Nat) (g : JFrame) (rest : List Value) (Qa : State → Outcome → State → Prop) (XC : String → State → State → Prop) (free : Addr → Prop) : Prop :=
  ∀ T : State, T.heap = H → Stand p l e R s m args below meth c T locs cells slots →
    (∃ (v : Option Value) (st₀ t T' : State) (L : List Loc), st₀.heap = H ∧ Stand p l e R s m args below meth c T' (locs ++ L) (cells + mc) (slots + ms) ∧ (∀ q ∈ L, free q.base) ∧ T'.heap = t.heap ∧ T'.vm = t.vm ∧ Qa st₀ (.returned v) t ∧
      Goes p e below T g T' { g with pc := g.pc + 3, stack := v.toList ++ rest }) ∨
    (∃ (q : Addr) (st₀ t T' : State) (L : List Loc) (E : String) (ce : Cell), st₀.heap = H ∧ Stand p l e R s m args below meth c T' (locs ++ L) (cells + mc) (slots + ms) ∧ (∀ z ∈ L, free z.base) ∧ T'.heap = t.heap ∧ T'.vm = t.vm ∧ XC E st₀ t ∧ t.heap[q]? = some ce ∧ ce.vm = .none ∧ s.vm.findClass E = some ce.cls ∧
      Steps p.tables e below (T.setTop g) ((T'.setTop { g with stack := rest }).pushFrame (.throwing q)))
def vx_X {S : Type} (px : S → Prop) (B : String → S → State → Prop) (A : Nat → Prop) : String → State → State → Prop := fun E st t => ∃ u : S, px u ∧ B E u t ∧ va_F A st t
section Runs
variable {p : Program} {l : Launch} {e : Env} {R : Room} {s : State} {m : MethodId} {args : Array Value} {below : List Frame} {meth : Method} {c : Code} {H : Heap} {locs : List Loc} {cells slots : Nat}
variable {y : MethodName} {bytes cc : ByteArray} {maxL nL mc ms n index : Nat} {ret : Option FieldType} {ws : List Cond} {rm : Room} {Pc : Array Value → State → Prop} {Qc : Array Value → State → Outcome → State → Prop} {XC : String → State → State → Prop} {free : Addr → Prop} {Ts : List Cond} {own C : String} {b : Addr} {As rest : List Value} {g : JFrame}
theorem vx_callBack (cb : CallB R s args own index y bytes maxL ret ws rm mc ms n) (hM : vx_Met l y ws rm Pc Qc XC mc ms free) (hbl : FrameBlind Pc) : vx_Back l R p e below s args y 3 8 (PreOf R mc ms Pc) (PostOf Qc mc ms free) (vx_Post XC mc ms free) := by
  obtain ⟨hrc, hrs, hfr, hlo, hws, hcw, -, hini, -⟩ := cb
  exact vx_back (bytes := bytes) (maxL := maxL) (ret := ret) hM hbl hrc hrs hfr hlo hws hcw (fun a' U hW => word_at hW (Or.inl (by first | rfl | simp [Cond.onTables, Cond.keeps, Cond.steady])) hini)
theorem vx_runV (S : CallFix p m c cc nL s args Ts own) (hM : vx_Met l y ws rm Pc Qc XC mc ms free) (cw : CallW R s args own C index y bytes maxL ret ws rm mc ms n) (hp : PreV s H C b Pc As)
    (hg : g.method = m) (hn : As.length = n) (hsize : g.locals.size = nL) (hstack : g.stack = As.reverse ++ .ref b :: rest) (hW : 2 * g.monitorRoom + (rest.map fun v => v.category).sum ≤ 8) (hdg : decode cc g.pc = .ok (.invokevirtual index, 3)) (hf : cells + mc ≤ R.cells ∧ slots + ms ≤ R.slots) :
    vx_Run p l e R s m args below meth c H locs cells slots mc ms g rest (Qc (Value.ref b :: As).toArray) XC free := by
  have hK : vx_Back l R p e below s args y 3 8 (PreOf R mc ms Pc) (PostOf Qc mc ms free) (vx_Post XC mc ms free) := vx_callBack cw.1 hM hp.1
  obtain ⟨⟨-, -, -, -, -, -, hcode, -, hy, hlen, hl⟩, hin, hse⟩ := cw
  obtain ⟨hx, hb, hml, ho, -⟩ := S
  obtain ⟨-, ⟨cellB, hcB, hoB, hclB⟩, hPc⟩ := hp
  intro T hT X
  rcases vx_callV X hx (C := C) (bytes := bytes) (maxL := maxL) (ret := ret) ho hl hin hse hcode hy hK (by rw [hT]; exact hcB) hoB hclB hg (hsize.trans hml.symm) (argsL := As) (rest := rest) (fun sig h => hn.trans (hlen sig h)) hstack hW (by rw [hb]; exact hdg)
    (fun vm₁ hW₁ => ⟨hf.1, hf.2, hPc (T.setVm vm₁) hT hW₁⟩) with ⟨v, vm₁, ⟨U', l2, c2, s2⟩, hW₁, X', ⟨g', mk, t, L, e1, e2, hq, h1, hL, h2, h3⟩, st⟩ | ⟨q, vm₁, ⟨U', l2, c2, s2⟩, hW₁, X', ⟨g', mk, t, L, E, ce, e1, e2, hq, hce, hcv, hcl, h1, hL, h2, h3⟩, st⟩
  · dsimp only [Pt.U, Pt.locs, Pt.cells, Pt.slots] at X' e1 e2 h1 h2 h3 st
    subst h1; subst h2; subst h3
    exact Or.inl ⟨v, (T.setVm vm₁).calling g' mk (Value.ref b :: As).toArray, t, U', L, hT, X', hL, e1, e2, hq, st⟩
  · dsimp only [Pt.U, Pt.locs, Pt.cells, Pt.slots] at X' e1 e2 h1 h2 h3 st hcl
    subst h1; subst h2; subst h3
    exact Or.inr ⟨q, (T.setVm vm₁).calling g' mk (Value.ref b :: As).toArray, t, U', L, E, ce, hT, X', hL, e1, e2, hq, hce, hcv, vx_cls hW₁ hcl, st⟩
theorem vx_runS (S : CallFix p m c cc nL s args Ts own) (hM : vx_Met l y ws rm Pc Qc XC mc ms free) (cw : CallB R s args own index y bytes maxL ret ws rm mc ms n ∧ (Cond.static y).before args s = true) (hp : PreS s H Pc As)
    (hg : g.method = m) (hn : As.length = n) (hsize : g.locals.size = nL) (hstack : g.stack = As.reverse ++ rest) (hW : 2 * g.monitorRoom + (rest.map fun v => v.category).sum ≤ 8) (hdg : decode cc g.pc = .ok (.invokestatic index, 3)) (hf : cells + mc ≤ R.cells ∧ slots + ms ≤ R.slots) :
    vx_Run p l e R s m args below meth c H locs cells slots mc ms g rest (Qc As.toArray) XC free := by
  have hK : vx_Back l R p e below s args y 3 8 (PreOf R mc ms Pc) (PostOf Qc mc ms free) (vx_Post XC mc ms free) := vx_callBack cw.1 hM hp.1
  obtain ⟨⟨-, -, -, -, -, -, hcode, hini, hy, hlen, hl⟩, hstt⟩ := cw
  obtain ⟨hx, hb, hml, ho, -⟩ := S
  intro T hT X
  rcases vx_callS X hx (bytes := bytes) (maxL := maxL) (ret := ret) ho hl hstt hini hcode hy hK hg (hsize.trans hml.symm) (argsL := As) (rest := rest) (fun sig h => hn.trans (hlen sig h)) hstack hW (by rw [hb]; exact hdg)
    (fun vm₁ hW₁ => ⟨hf.1, hf.2, hp.2 (T.setVm vm₁) hT hW₁⟩) with ⟨v, vm₁, ⟨U', l2, c2, s2⟩, hW₁, X', ⟨g', mk, t, L, e1, e2, hq, h1, hL, h2, h3⟩, st⟩ | ⟨q, vm₁, ⟨U', l2, c2, s2⟩, hW₁, X', ⟨g', mk, t, L, E, ce, e1, e2, hq, hce, hcv, hcl, h1, hL, h2, h3⟩, st⟩
  · dsimp only [Pt.U, Pt.locs, Pt.cells, Pt.slots] at X' e1 e2 h1 h2 h3 st
    subst h1; subst h2; subst h3
    exact Or.inl ⟨v, (T.setVm vm₁).calling g' mk As.toArray, t, U', L, hT, X', hL, e1, e2, hq, st⟩
  · dsimp only [Pt.U, Pt.locs, Pt.cells, Pt.slots] at X' e1 e2 h1 h2 h3 st hcl
    subst h1; subst h2; subst h3
    exact Or.inr ⟨q, (T.setVm vm₁).calling g' mk As.toArray, t, U', L, E, ce, hT, X', hL, e1, e2, hq, hce, hcv, vx_cls hW₁ hcl, st⟩
end Runs
section Rows
variable {p : Program} {l : Launch} {e : Env} {R : Room} {s : State} {m : MethodId} {args : Array Value} {below : List Frame} {meth : Method} {c : Code} {H : Heap} {locs : List Loc} {cells slots : Nat} {Q : State → Prop}
variable {mc ms : Nat} {free : Addr → Prop} {A0 A1 : Nat → Prop} {H0 : Heap} {a : Array Value} {pc : Nat} {ls : Array Slot} {st0 rest : List Value}
theorem vx_keep {st₀ t T' : State} {L : List Loc} (h0 : st₀.heap = H) (e1 : T'.heap = t.heap) (hS : va_S A0 H0 H locs) (hA : ∀ q, q < H.size → A1 q → A0 q) (hf : ∀ q, free q → A0 q) (hL : ∀ q ∈ L, free q.base) (hF : va_F A1 st₀ t) :
    H.size ≤ T'.heap.size ∧ (∀ q : Nat, q < H.size → ¬ A1 q → T'.heap[q]? = H[q]?) ∧ va_S A0 H0 T'.heap (locs ++ L) := by
  obtain ⟨hz, hk⟩ := hF
  rw [h0] at hz hk
  exact ⟨by rw [e1]; exact hz, fun q h1 h2 => by rw [e1]; exact hk q h1 h2,
    ⟨Nat.le_trans hS.1 (by rw [e1]; exact hz), fun q h1 h2 => by rw [e1, hk q (Nat.lt_of_lt_of_le h1 hS.1) (fun z => h2 (hA q (Nat.lt_of_lt_of_le h1 hS.1) z))]; exact hS.2.1 q h1 h2, fun q hq => by
      rcases List.mem_append.mp hq with h | h
      · exact hS.2.2 q h
      · exact hf _ (hL q h)⟩⟩
theorem vx_calli {S SX : Type} {post : Int32 → S → Prop} {px : SX → Prop} {B : S → State → Prop} {BX : String → SX → State → Prop} {AX : Nat → Prop} (hr : vx_Run p l e R s m args below meth c H locs cells slots mc ms (F0 m pc ls st0) rest (va_Qi post B A1 a) (vx_X px BX AX) free) (hS : va_S A0 H0 H locs) (hA : ∀ q, q < H.size → A1 q → A0 q) (hf : ∀ q, free q → A0 q) (hAX : ∀ q, q < H.size → AX q → A0 q)
    (kx : ∀ (E : String) (ce : Cell) (q9 : Addr) (u : SX) (t : State) (H1 : Heap) (locs1 : List Loc), t.heap = H1 → s.vm.Alike t.vm → px u → BX E u t → H.size ≤ H1.size → (∀ q : Nat, q < H.size → ¬ AX q → H1[q]? = H[q]?) → va_S A0 H0 H1 locs1 → H1[q9]? = some ce → ce.vm = .none → s.vm.findClass E = some ce.cls → vx_W p l e R s m args below meth c H1 locs1 (cells + mc) (slots + ms) Q (F0 m pc ls rest) q9)
    (kk : ∀ (r : Int32) (u : S) (t : State) (H1 : Heap) (locs1 : List Loc), t.heap = H1 → s.vm.Alike t.vm → post r u → B u t → H.size ≤ H1.size → (∀ q : Nat, q < H.size → ¬ A1 q → H1[q]? = H[q]?) → va_S A0 H0 H1 locs1 → W p l e R s m args below meth c H1 locs1 (cells + mc) (slots + ms) Q (F0 m (pc + 3) ls (.int r :: rest))) : W p l e R s m args below meth c H locs cells slots Q (F0 m pc ls st0) := by
  intro T hT X
  rcases hr T hT X with ⟨v, st₀, t, T', L, h0, X', hL, e1, e2, ⟨⟨r, u, hv, hp, hb⟩, hF⟩, st⟩ | ⟨q, st₀, t, T', L, E, ce, h0, X', hL, e1, e2, ⟨u, hp, hb, hF⟩, hce, hcv, hcl, st⟩
  · cases hv
    obtain ⟨k1, k2, k3⟩ := vx_keep h0 e1 hS hA hf hL hF
    obtain ⟨t2, a1, b1⟩ := kk r u t T'.heap (locs ++ L) e1.symm (by rw [← e2]; exact X'.warmed.alike) hp hb k1 k2 k3 T' rfl X'
    exact ⟨t2, st t2 a1, b1⟩
  · obtain ⟨k1, k2, k3⟩ := vx_keep h0 e1 hS hAX hf hL hF
    obtain ⟨t2, a1, b1⟩ := kx E ce q u t T'.heap (locs ++ L) e1.symm (by rw [← e2]; exact X'.warmed.alike) hp hb k1 k2 k3 (by rw [e1]; exact hce) hcv hcl T' rfl X'
    exact ⟨t2, st.trans a1, b1⟩
theorem vx_calll {S SX : Type} {post : Int64 → S → Prop} {px : SX → Prop} {B : S → State → Prop} {BX : String → SX → State → Prop} {AX : Nat → Prop} (hr : vx_Run p l e R s m args below meth c H locs cells slots mc ms (F0 m pc ls st0) rest (va_Ql post B A1 a) (vx_X px BX AX) free) (hS : va_S A0 H0 H locs) (hA : ∀ q, q < H.size → A1 q → A0 q) (hf : ∀ q, free q → A0 q) (hAX : ∀ q, q < H.size → AX q → A0 q)
    (kx : ∀ (E : String) (ce : Cell) (q9 : Addr) (u : SX) (t : State) (H1 : Heap) (locs1 : List Loc), t.heap = H1 → s.vm.Alike t.vm → px u → BX E u t → H.size ≤ H1.size → (∀ q : Nat, q < H.size → ¬ AX q → H1[q]? = H[q]?) → va_S A0 H0 H1 locs1 → H1[q9]? = some ce → ce.vm = .none → s.vm.findClass E = some ce.cls → vx_W p l e R s m args below meth c H1 locs1 (cells + mc) (slots + ms) Q (F0 m pc ls rest) q9)
    (kk : ∀ (r : Int64) (u : S) (t : State) (H1 : Heap) (locs1 : List Loc), t.heap = H1 → s.vm.Alike t.vm → post r u → B u t → H.size ≤ H1.size → (∀ q : Nat, q < H.size → ¬ A1 q → H1[q]? = H[q]?) → va_S A0 H0 H1 locs1 → W p l e R s m args below meth c H1 locs1 (cells + mc) (slots + ms) Q (F0 m (pc + 3) ls (.long r :: rest))) : W p l e R s m args below meth c H locs cells slots Q (F0 m pc ls st0) := by
  intro T hT X
  rcases hr T hT X with ⟨v, st₀, t, T', L, h0, X', hL, e1, e2, ⟨⟨r, u, hv, hp, hb⟩, hF⟩, st⟩ | ⟨q, st₀, t, T', L, E, ce, h0, X', hL, e1, e2, ⟨u, hp, hb, hF⟩, hce, hcv, hcl, st⟩
  · cases hv
    obtain ⟨k1, k2, k3⟩ := vx_keep h0 e1 hS hA hf hL hF
    obtain ⟨t2, a1, b1⟩ := kk r u t T'.heap (locs ++ L) e1.symm (by rw [← e2]; exact X'.warmed.alike) hp hb k1 k2 k3 T' rfl X'
    exact ⟨t2, st t2 a1, b1⟩
  · obtain ⟨k1, k2, k3⟩ := vx_keep h0 e1 hS hAX hf hL hF
    obtain ⟨t2, a1, b1⟩ := kx E ce q u t T'.heap (locs ++ L) e1.symm (by rw [← e2]; exact X'.warmed.alike) hp hb k1 k2 k3 (by rw [e1]; exact hce) hcv hcl T' rfl X'
    exact ⟨t2, st.trans a1, b1⟩
theorem vx_callf {S SX : Type} {post : UInt32 → S → Prop} {px : SX → Prop} {B : S → State → Prop} {BX : String → SX → State → Prop} {AX : Nat → Prop} (hr : vx_Run p l e R s m args below meth c H locs cells slots mc ms (F0 m pc ls st0) rest (va_Qf post B A1 a) (vx_X px BX AX) free) (hS : va_S A0 H0 H locs) (hA : ∀ q, q < H.size → A1 q → A0 q) (hf : ∀ q, free q → A0 q) (hAX : ∀ q, q < H.size → AX q → A0 q)
    (kx : ∀ (E : String) (ce : Cell) (q9 : Addr) (u : SX) (t : State) (H1 : Heap) (locs1 : List Loc), t.heap = H1 → s.vm.Alike t.vm → px u → BX E u t → H.size ≤ H1.size → (∀ q : Nat, q < H.size → ¬ AX q → H1[q]? = H[q]?) → va_S A0 H0 H1 locs1 → H1[q9]? = some ce → ce.vm = .none → s.vm.findClass E = some ce.cls → vx_W p l e R s m args below meth c H1 locs1 (cells + mc) (slots + ms) Q (F0 m pc ls rest) q9)
    (kk : ∀ (r : UInt32) (u : S) (t : State) (H1 : Heap) (locs1 : List Loc), t.heap = H1 → s.vm.Alike t.vm → post r u → B u t → H.size ≤ H1.size → (∀ q : Nat, q < H.size → ¬ A1 q → H1[q]? = H[q]?) → va_S A0 H0 H1 locs1 → W p l e R s m args below meth c H1 locs1 (cells + mc) (slots + ms) Q (F0 m (pc + 3) ls (.float r :: rest))) : W p l e R s m args below meth c H locs cells slots Q (F0 m pc ls st0) := by
  intro T hT X
  rcases hr T hT X with ⟨v, st₀, t, T', L, h0, X', hL, e1, e2, ⟨⟨r, u, hv, hp, hb⟩, hF⟩, st⟩ | ⟨q, st₀, t, T', L, E, ce, h0, X', hL, e1, e2, ⟨u, hp, hb, hF⟩, hce, hcv, hcl, st⟩
  · cases hv
    obtain ⟨k1, k2, k3⟩ := vx_keep h0 e1 hS hA hf hL hF
    obtain ⟨t2, a1, b1⟩ := kk r u t T'.heap (locs ++ L) e1.symm (by rw [← e2]; exact X'.warmed.alike) hp hb k1 k2 k3 T' rfl X'
    exact ⟨t2, st t2 a1, b1⟩
  · obtain ⟨k1, k2, k3⟩ := vx_keep h0 e1 hS hAX hf hL hF
    obtain ⟨t2, a1, b1⟩ := kx E ce q u t T'.heap (locs ++ L) e1.symm (by rw [← e2]; exact X'.warmed.alike) hp hb k1 k2 k3 (by rw [e1]; exact hce) hcv hcl T' rfl X'
    exact ⟨t2, st.trans a1, b1⟩
theorem vx_calld {S SX : Type} {post : UInt64 → S → Prop} {px : SX → Prop} {B : S → State → Prop} {BX : String → SX → State → Prop} {AX : Nat → Prop} (hr : vx_Run p l e R s m args below meth c H locs cells slots mc ms (F0 m pc ls st0) rest (va_Qd post B A1 a) (vx_X px BX AX) free) (hS : va_S A0 H0 H locs) (hA : ∀ q, q < H.size → A1 q → A0 q) (hf : ∀ q, free q → A0 q) (hAX : ∀ q, q < H.size → AX q → A0 q)
    (kx : ∀ (E : String) (ce : Cell) (q9 : Addr) (u : SX) (t : State) (H1 : Heap) (locs1 : List Loc), t.heap = H1 → s.vm.Alike t.vm → px u → BX E u t → H.size ≤ H1.size → (∀ q : Nat, q < H.size → ¬ AX q → H1[q]? = H[q]?) → va_S A0 H0 H1 locs1 → H1[q9]? = some ce → ce.vm = .none → s.vm.findClass E = some ce.cls → vx_W p l e R s m args below meth c H1 locs1 (cells + mc) (slots + ms) Q (F0 m pc ls rest) q9)
    (kk : ∀ (r : UInt64) (u : S) (t : State) (H1 : Heap) (locs1 : List Loc), t.heap = H1 → s.vm.Alike t.vm → post r u → B u t → H.size ≤ H1.size → (∀ q : Nat, q < H.size → ¬ A1 q → H1[q]? = H[q]?) → va_S A0 H0 H1 locs1 → W p l e R s m args below meth c H1 locs1 (cells + mc) (slots + ms) Q (F0 m (pc + 3) ls (.double r :: rest))) : W p l e R s m args below meth c H locs cells slots Q (F0 m pc ls st0) := by
  intro T hT X
  rcases hr T hT X with ⟨v, st₀, t, T', L, h0, X', hL, e1, e2, ⟨⟨r, u, hv, hp, hb⟩, hF⟩, st⟩ | ⟨q, st₀, t, T', L, E, ce, h0, X', hL, e1, e2, ⟨u, hp, hb, hF⟩, hce, hcv, hcl, st⟩
  · cases hv
    obtain ⟨k1, k2, k3⟩ := vx_keep h0 e1 hS hA hf hL hF
    obtain ⟨t2, a1, b1⟩ := kk r u t T'.heap (locs ++ L) e1.symm (by rw [← e2]; exact X'.warmed.alike) hp hb k1 k2 k3 T' rfl X'
    exact ⟨t2, st t2 a1, b1⟩
  · obtain ⟨k1, k2, k3⟩ := vx_keep h0 e1 hS hAX hf hL hF
    obtain ⟨t2, a1, b1⟩ := kx E ce q u t T'.heap (locs ++ L) e1.symm (by rw [← e2]; exact X'.warmed.alike) hp hb k1 k2 k3 (by rw [e1]; exact hce) hcv hcl T' rfl X'
    exact ⟨t2, st.trans a1, b1⟩
theorem vx_callv {S SX : Type} {post : S → Prop} {px : SX → Prop} {B : S → State → Prop} {BX : String → SX → State → Prop} {AX : Nat → Prop} (hr : vx_Run p l e R s m args below meth c H locs cells slots mc ms (F0 m pc ls st0) rest (va_Qv post B A1 a) (vx_X px BX AX) free) (hS : va_S A0 H0 H locs) (hA : ∀ q, q < H.size → A1 q → A0 q) (hf : ∀ q, free q → A0 q) (hAX : ∀ q, q < H.size → AX q → A0 q)
    (kx : ∀ (E : String) (ce : Cell) (q9 : Addr) (u : SX) (t : State) (H1 : Heap) (locs1 : List Loc), t.heap = H1 → s.vm.Alike t.vm → px u → BX E u t → H.size ≤ H1.size → (∀ q : Nat, q < H.size → ¬ AX q → H1[q]? = H[q]?) → va_S A0 H0 H1 locs1 → H1[q9]? = some ce → ce.vm = .none → s.vm.findClass E = some ce.cls → vx_W p l e R s m args below meth c H1 locs1 (cells + mc) (slots + ms) Q (F0 m pc ls rest) q9)
    (kk : ∀ (u : S) (t : State) (H1 : Heap) (locs1 : List Loc), t.heap = H1 → s.vm.Alike t.vm → post u → B u t → H.size ≤ H1.size → (∀ q : Nat, q < H.size → ¬ A1 q → H1[q]? = H[q]?) → va_S A0 H0 H1 locs1 → W p l e R s m args below meth c H1 locs1 (cells + mc) (slots + ms) Q (F0 m (pc + 3) ls (rest))) : W p l e R s m args below meth c H locs cells slots Q (F0 m pc ls st0) := by
  intro T hT X
  rcases hr T hT X with ⟨v, st₀, t, T', L, h0, X', hL, e1, e2, ⟨⟨u, hv, hp, hb⟩, hF⟩, st⟩ | ⟨q, st₀, t, T', L, E, ce, h0, X', hL, e1, e2, ⟨u, hp, hb, hF⟩, hce, hcv, hcl, st⟩
  · cases hv
    obtain ⟨k1, k2, k3⟩ := vx_keep h0 e1 hS hA hf hL hF
    obtain ⟨t2, a1, b1⟩ := kk u t T'.heap (locs ++ L) e1.symm (by rw [← e2]; exact X'.warmed.alike) hp hb k1 k2 k3 T' rfl X'
    exact ⟨t2, st t2 a1, b1⟩
  · obtain ⟨k1, k2, k3⟩ := vx_keep h0 e1 hS hAX hf hL hF
    obtain ⟨t2, a1, b1⟩ := kx E ce q u t T'.heap (locs ++ L) e1.symm (by rw [← e2]; exact X'.warmed.alike) hp hb k1 k2 k3 (by rw [e1]; exact hce) hcv hcl T' rfl X'
    exact ⟨t2, st.trans a1, b1⟩
/-- caught by the row x of this method's table; the rows ahead don't take it -/
theorem vx_catch {own name : String} {E : String} {ce : Cell} {q : Addr} (hown : s.vm.findClass own = some m.cls) (pre : List ExceptionTableEntry) (x : ExceptionTableEntry) (suf : List ExceptionTableEntry) (hsplit : c.exceptionTable.toList = pre ++ x :: suf)
    (hpass : ∀ z ∈ pre, covers z pc = false ∨ (z.catchType ≠ 0 ∧ ∃ nm : String, (Cond.classLink own z.catchType nm).before args s = true ∧ va_Nc E nm s)) (hx : covers x pc = true) (h0 : x.catchType ≠ 0)
    (hlink : (Cond.classLink own x.catchType name).before args s = true) (hcast : (Cond.castable E name).before args s = true) (hcell : H[q]? = some ce) (hv : ce.vm = .none) (hcl : s.vm.findClass E = some ce.cls)
    (kk : W p l e R s m args below meth c H locs cells slots Q (F0 m x.handlerPc ls [.ref q])) : vx_W p l e R s m args below meth c H locs cells slots Q (F0 m pc ls rest) q := by
  intro T hT X
  have hpl : e.platform.magicAccessors = ({} : Platform).magicAccessors := by rw [X.admits.platform]
  obtain ⟨c3, c4, hc3, hc4, hasg⟩ := Cond.castable_spec hcast
  cases Option.some.inj (hc3.symm.trans hcl)
  obtain ⟨c5, hc5, hcl5⟩ := Cond.classLink_spec hown hlink e.platform hpl
  cases Option.some.inj (hc4.symm.trans hc5)
  obtain ⟨vm', X', st⟩ := X.thenCaughtThrough q (g := F0 m pc ls rest) rfl (Steps.refl _) (by rw [hT]; exact hcell) (by rw [hv]; rfl) (by obtain ⟨k9, h9, -⟩ := Vm.findClass_spec hcl; exact ⟨k9, h9⟩) pre x suf hsplit
    (fun z hz => by
      rcases hpass z hz with h | ⟨hz0, nm, hl1, hn1⟩
      · exact Or.inl h
      · obtain ⟨c6, hc6, hcl6⟩ := Cond.classLink_spec hown hl1 e.platform hpl
        obtain ⟨a8, b8, h1, h2, h3⟩ := hn1
        cases Option.some.inj (h1.symm.trans hcl)
        cases Option.some.inj (h2.symm.trans hc6)
        exact Or.inr ⟨hz0, _, hcl6, h3⟩) hx (Or.inr ⟨h0, c4, hcl5, hasg⟩)
  obtain ⟨t, a1, b1⟩ := kk (T.setVm vm') hT X'
  exact ⟨t, st.trans a1, b1⟩
end Rows
section Ends
variable {p : Program} {l : Launch} {e : Env} {R : Room} {s : State} {m : MethodId} {args : Array Value} {below : List Frame} {meth : Method} {c : Code} {H : Heap} {locs : List Loc} {cells slots : Nat} {Q : State → Prop}
variable {mc ms : Nat} {free : Addr → Prop} {A0 A1 : Nat → Prop} {H0 : Heap} {a : Array Value} {ls : Array Slot} {st0 rest : List Value}
variable {Qc : Array Value → State → Outcome → State → Prop} {XC : String → State → State → Prop}
/-- what a body that may throw owes at its end -/
def vx_MQ (below : List Frame) (Qc : Array Value → State → Outcome → State → Prop) (XC : String → State → State → Prop) (a : Array Value) (s : State) (mc ms : Nat) (free : Addr → Prop) : State → Prop := fun t =>
  ∃ o, t.status = .running ∧ Ended t below o ∧ vx_Q Qc XC mc ms free a s o t
theorem vx_ret {g : JFrame} {mc ms : Nat} (k : W p l e R s m args below meth c H locs cells slots (MQ below Qc args s mc ms free) g) : W p l e R s m args below meth c H locs cells slots (vx_MQ below Qc XC args s mc ms free) g := by
  intro T hT X
  obtain ⟨t, a1, o, b1, b2, b3, b4⟩ := k T hT X
  exact ⟨t, a1, o, b1, b2, Or.inl ⟨b3, b4⟩⟩
/-- not caught here: it goes on to the caller -/
theorem vx_widen {g : JFrame} {q : Addr} {k n : Nat} (h1 : cells ≤ k) (h2 : slots ≤ n) (kk : vx_W p l e R s m args below meth c H locs k n Q g q) : vx_W p l e R s m args below meth c H locs cells slots Q g q := fun T hT X => kk T hT (stand_widen X h1 h2)
theorem vx_out {pc : Nat} {E : String} {ce : Cell} {q : Addr} {mc ms : Nat} (hout : ∀ x ∈ c.exceptionTable.toList, covers x pc = false) (hlocks : meth.locks = false) (hcell : H[q]? = some ce) (hv : ce.vm = .none) (hcl : s.vm.findClass E = some ce.cls)
    (hx : ∀ t : State, t.heap = H → s.vm.Alike t.vm → XC E s t) (hf : ∀ z ∈ locs, free z.base) (hc : cells ≤ mc) (hs : slots ≤ ms) :
    vx_W p l e R s m args below meth c H locs cells slots (vx_MQ below Qc XC args s mc ms free) (F0 m pc ls rest) q := by
  intro T hT X
  obtain ⟨st1, hrun, hend, hW, hsm⟩ := X.leaveThrown q (g := F0 m pc ls rest) rfl rfl rfl hout hlocks
  have hcell9 : (T.setFrames (.throwing q :: below)).heap[q]? = some ce := by
    show T.heap[q]? = some ce
    rw [hT]; exact hcell
  exact ⟨_, st1, .threw q, hrun, hend, Or.inr ⟨q, rfl, E, ce, locs, hx _ hT hW.alike, hcell9, hv, hcl, hW, hsm.mono hc hs, hf⟩⟩
theorem vx_frame {U : State} {k n : Nat} (h : s.sameButNew ({ U with vm := s.vm } : State) locs k n) : s.heap.size ≤ U.heap.size ∧ ∀ q : Nat, q < s.heap.size → (∀ z ∈ locs, z.base ≠ q) → U.heap[q]? = s.heap[q]? := by
  obtain ⟨-, h2, -, -, -, h6⟩ := h
  refine ⟨h2, fun q hq hz => ?_⟩
  obtain ⟨c9, e1, e2, e3, e4⟩ := h6 q _ (Array.getElem?_eq_getElem hq)
  have hs : c9.slots = (s.heap[q]).slots := Array.ext_getElem? fun i => e4 i fun hm => hz _ hm rfl
  have h9 : c9 = s.heap[q] := by
    rw [hs] at e2
    exact e2
  have e5 : U.heap[q]? = some c9 := e1
  rw [e5, h9, Array.getElem?_eq_getElem hq]
/-- the words of a throw but the four that speak of the heap -/
def vx_no (w : Cond) : Bool := decide (w ≠ .isRef (.static Bundle.tN "UNASSIGNED_STACK" Bundle.steD)) && decide (w ≠ .isRef (.static Bundle.tN "SUPPRESSED_SENTINEL" Bundle.listD)) && decide (w ≠ .laysStatic Bundle.tN "UNASSIGNED_STACK" Bundle.steD) && decide (w ≠ .laysStatic Bundle.tN "SUPPRESSED_SENTINEL" Bundle.listD)
def vx_at0 (own : String) (ic : Nat) (X : String) (names : List String) : List Cond := (Bundle.ownAtoms0 own ic X names).filter vx_no
def vx_atS (own : String) (ic : Nat) (X : String) (names : List String) : List Cond := (Bundle.ownAtoms own ic X names).filter vx_no
/-- a word that the tables alone decide, or a good one -/
def vx_ot (w : Cond) : Bool := w.onTables || goodWord w
theorem vx_ot_at {args a' : Array Value} {s U : State} {w : Cond} (hW : s.WarmedH U.vm) (hvm : s.vm = U.vm) (hg : vx_ot w = true) (h : w.before args s = true) : w.before a' U = true := by
  simp only [vx_ot, Bool.or_eq_true] at hg
  rcases hg with hg | hg
  · exact va_tabs hg hvm h
  · exact word_at hW (good_of_word hg) h
/-- a list's words: the good ones out of the method's own list, the others by premises of their own -/
theorem vx_hat {args : Array Value} {s : State} {L B : List Cond} (h1 : ∀ w ∈ L.filter goodWord, w.before args s = true) (h2 : ∀ w ∈ L.filter (fun w => !goodWord w), w ∈ B) (h3 : ∀ w ∈ B, w.before args s = true) : ∀ w ∈ L, w.before args s = true := by
  intro w hw
  by_cases g : goodWord w = true
  · exact h1 w (List.mem_filter.mpr ⟨hw, g⟩)
  · refine h3 w (h2 w (List.mem_filter.mpr ⟨hw, ?_⟩))
    show (!goodWord w) = true
    cases hgw : goodWord w
    · rfl
    · exact absurd hgw g
theorem vx_c {args : Array Value} {s : State} {w : Cond} {B : List Cond} (h : w.before args s = true) (t : ∀ w ∈ B, w.before args s = true) : ∀ w' ∈ w :: B, w'.before args s = true := fun w' h' => (List.mem_cons.mp h').elim (fun e => by rw [e]; exact h) (t w')
theorem vx_n {args : Array Value} {s : State} : ∀ w ∈ ([] : List Cond), w.before args s = true := fun _ h => nomatch h
theorem vx_own {args : Array Value} {s : State} {L : List Cond} (h1 : ∀ w ∈ L.filter vx_no, w.before args s = true)
    (hU : (Cond.isRef (.static Bundle.tN "UNASSIGNED_STACK" Bundle.steD)).before args s = true) (hN : (Cond.isRef (.static Bundle.tN "SUPPRESSED_SENTINEL" Bundle.listD)).before args s = true)
    (lU : (Cond.laysStatic Bundle.tN "UNASSIGNED_STACK" Bundle.steD).before args s = true) (lN : (Cond.laysStatic Bundle.tN "SUPPRESSED_SENTINEL" Bundle.listD).before args s = true) : ∀ w ∈ L, w.before args s = true := by
  intro w hw
  by_cases e1 : w = .isRef (.static Bundle.tN "UNASSIGNED_STACK" Bundle.steD)
  · rw [e1]; exact hU
  · by_cases e2 : w = .isRef (.static Bundle.tN "SUPPRESSED_SENTINEL" Bundle.listD)
    · rw [e2]; exact hN
    · by_cases e3 : w = .laysStatic Bundle.tN "UNASSIGNED_STACK" Bundle.steD
      · rw [e3]; exact lU
      · by_cases e4 : w = .laysStatic Bundle.tN "SUPPRESSED_SENTINEL" Bundle.listD
        · rw [e4]; exact lN
        · exact h1 w (List.mem_filter.mpr ⟨hw, by unfold vx_no; rw [decide_eq_true e1, decide_eq_true e2, decide_eq_true e3, decide_eq_true e4]; rfl⟩)
/-- where a static field lies, its class's statics cell in H -/
def vx_L (C n d : String) (A : Nat → Prop) (U : State) (H : Heap) : Prop := ∃ (c : ClassId) (k : Class) (i : Nat) (f : Field) (a : Nat) (cell : Cell), U.vm.findClass C = some c ∧ U.fieldFound? C n d = some (c, k, i, f) ∧ f.isStatic = true ∧ k.statics = some a ∧ H[a]? = some cell ∧ cell.vm.isStatics = true ∧ cell.cls = c ∧ f.slot < cell.slots.size ∧ k.staticTypes[f.slot]? = some f.type ∧ ¬ A a
theorem vx_L.moved {C n d : String} {A : Nat → Prop} {u U : State} {H : Heap} (hvm : u.vm.Alike U.vm) (h : vx_L C n d A u H) : vx_L C n d A U H := by
  obtain ⟨c, k, i, f, a, cell, h1, h2, h3, h4, h5, h6, h7, h8, h9, h10⟩ := h
  obtain ⟨k', hi', he⟩ := State.fieldFound?_setVm hvm h2
  exact ⟨c, k', i, f, a, cell, by rw [hvm.findClass]; exact h1, hi', h3, by rw [he]; exact h4, h5, h6, h7, h8, by rw [he]; exact h9, h10⟩
theorem vx_L.kept {C n d : String} {A : Nat → Prop} {U : State} {H H1 : Heap} (h : vx_L C n d A U H) (hq : ∀ a : Nat, a < H.size → ¬ A a → H1[a]? = H[a]?) : vx_L C n d A U H1 := by
  obtain ⟨c, k, i, f, a, cell, h1, h2, h3, h4, h5, h6, h7, h8, h9, h10⟩ := h
  exact ⟨c, k, i, f, a, cell, h1, h2, h3, h4, by rw [hq a (Array.getElem?_eq_some_iff.mp h5).1 h10]; exact h5, h6, h7, h8, h9, h10⟩
theorem vx_L.narrow {C n d : String} {A B : Nat → Prop} {U : State} {H : Heap} (h : vx_L C n d A U H) (hAB : ∀ q, B q → A q) : vx_L C n d B U H := by
  obtain ⟨c, k, i, f, a, cell, h1, h2, h3, h4, h5, h6, h7, h8, h9, h10⟩ := h
  exact ⟨c, k, i, f, a, cell, h1, h2, h3, h4, h5, h6, h7, h8, h9, fun z => h10 (hAB _ z)⟩
theorem vx_L.word {C n d : String} {A : Nat → Prop} {s : State} {args : Array Value} (h : vx_L C n d A s s.heap) : (Cond.laysStatic C n d).before args s = true := by
  obtain ⟨c, k, i, f, a, cell, h1, h2, h3, h4, h5, h6, h7, h8, h9, -⟩ := h
  show (Cond.laysStatic C n d).holds args s none s [] = true
  exact Cond.laysStatic_of h1 h2 h3 h4 h5 h6 h7 h8 h9
/-- .. and what it holds: null or some reference -/
def vx_Zq (C n d : String) (A : Nat → Prop) (U : State) (H : Heap) : Prop := va_Zq C n d A U H ∧ vx_L C n d A U H
theorem vx_Zq.moved {C n d : String} {A : Nat → Prop} {u U : State} {H : Heap} (hvm : u.vm.Alike U.vm) (h : vx_Zq C n d A u H) : vx_Zq C n d A U H := ⟨va_Zq.moved hvm h.1, vx_L.moved hvm h.2⟩
theorem vx_Zq.kept {C n d : String} {A : Nat → Prop} {U : State} {H H1 : Heap} (h : vx_Zq C n d A U H) (hq : ∀ a : Nat, a < H.size → ¬ A a → H1[a]? = H[a]?) : vx_Zq C n d A U H1 := ⟨va_Zq.kept h.1 hq, vx_L.kept h.2 hq⟩
theorem vx_Zq.narrow {C n d : String} {A B : Nat → Prop} {U : State} {H : Heap} (h : vx_Zq C n d A U H) (hAB : ∀ q, B q → A q) : vx_Zq C n d B U H := ⟨va_Zq.narrow h.1 hAB, vx_L.narrow h.2 hAB⟩
theorem vx_Zqof {args : Array Value} {s : State} {C n d : String} {A : Nat → Prop} (hl : (Cond.laysStatic C n d).before args s = true) (hini : (Cond.initialized C).before args s = true) (h : (Cond.isRef (.static C n d)).before args s = true) (hA : ∀ a : Nat, a < s.heap.size → ¬ A a) : vx_Zq C n d A s s.heap := by
  refine ⟨va_Zqof hl hini h hA, ?_⟩
  obtain ⟨c, k, i, f, a, cell, h1, h2, h3, h4, h5, h6, h7, h8, h9⟩ := Cond.laysStatic_spec hl
  exact ⟨c, k, i, f, a, cell, h1, h2, h3, h4, h5, h6, h7, h8, h9, hA a (Array.getElem?_eq_some_iff.mp h5).1⟩
theorem vx_isRef {C n d : String} {v : Value} {A : Nat → Prop} {s : State} {args : Array Value} (h : va_Z C n d v A s s.heap) (hv : v.isRef = true) : (Cond.isRef (.static C n d)).before args s = true := by
  obtain ⟨cf, kf, fi, f, a, cell, h1, h2, h3, h4, h5, h6, h7, -⟩ := h
  have he : (Term.static C n d).eval args s none [] s = some v := by
    simp [Term.eval, State.fieldNamed?, h1, h2, h4, h5, h6, h7]
  simp only [Cond.before, Cond.holds, Cond.value, he]
  cases v <;> simp_all [Value.isRef]
theorem vx_isRefq {C n d : String} {A : Nat → Prop} {s : State} {args : Array Value} (h : va_Zq C n d A s s.heap) : (Cond.isRef (.static C n d)).before args s = true := by
  rcases h with h | ⟨t, h⟩
  · exact vx_isRef h rfl
  · exact vx_isRef h rfl
/-- the same frame, seen from here: as if the method were called anew in this heap -/
theorem vx_rebase {T : State} (X : Stand p l e R s m args below meth c T locs cells slots) {R' : Room} (hf : R'.frames ≤ R.frames) (hl : R'.locals ≤ R.locals) (hc : cells + R'.cells ≤ R.cells) (hs : slots + R'.slots ≤ R.slots) :
    Stand p l e R' ((T.setVm s.vm).setFrames (.invoking m args :: below)) m args below meth c T [] 0 0 := by
  have htop : (T.setVm s.vm).topJava?.isSome := X.here.top
  have hF : ((T.setVm s.vm).setFrames (.invoking m args :: below)).frames = .invoking m args :: below := State.frames_setFrames _ (State.cur_lt_of_top htop)
  obtain ⟨g₀, hg0⟩ := Option.isSome_iff_exists.mp htop
  obtain ⟨r, hr⟩ := State.topJava?_eq_some.mp hg0
  have hl9 : e.platform.stackLimits (T.setVm s.vm).me = e.platform.stackLimits s.me := X.limits
  have hb9 : (T.setVm s.vm).me.stackBytes = s.me.stackBytes := X.bytes
  refine ⟨X.admits, X.cas, X.clock, hF, ?_, X.hears, X.method, X.code, X.here, X.tail, X.warmed, ?_, ?_, ?_⟩
  · have h := X.room
    have hU : ((T.setVm s.vm).setFrames (.invoking m args :: below)).localsInUse = s.localsInUse := by
      rw [State.localsInUse_invoking hF (meth := meth) (c := c) X.method X.code, State.localsInUse_invoking X.frames X.method X.code]
    simp only [State.hasRoom, Bool.and_eq_true, decide_eq_true_eq] at h ⊢
    obtain ⟨⟨⟨⟨h1, h2, h3, h4, h5, h6⟩, h7⟩, h8⟩, h9⟩ := h
    rw [X.frames, List.length_cons] at h2 h3
    have q1 := X.heapSize
    have q2 := X.used
    simp only [hF, hU, List.length_cons, State.stackLimits_setFrames, State.stackBytes_setFrames, hl9, hb9]
    refine ⟨⟨⟨⟨by omega, by omega, by omega, by omega, by omega, h6⟩, ?_⟩, ?_⟩, X.book⟩
    · show T.heap.size + R'.cells ≤ e.platform.maxCells
      omega
    · show T.slotsUsed + R'.slots ≤ e.platform.maxSlots
      omega
  · rw [State.stackLimits_setFrames]; rfl
  · rw [State.stackBytes_setFrames]; rfl
  · refine ⟨?_, Nat.le_refl _, Nat.le_refl _, ?_, ?_, fun a c9 h9 => ⟨c9, h9, rfl, rfl, fun _ _ => rfl⟩⟩
    · obtain ⟨t, ht, -⟩ := State.frames_cons hr
      show T.setVm s.vm = { ((T.setVm s.vm).setFrames (.invoking m args :: below)).setFrames (T.setVm s.vm).frames with heap := T.heap, slotsUsed := T.slotsUsed }
      rw [State.setFrames_setFrames, State.setFrames_self ht]
      rfl
    · show T.slotsUsed = T.slotsUsed + ((T.heap.toList.drop T.heap.size).map (·.slots.size)).sum
      rw [List.drop_eq_nil_of_le (Nat.le_of_eq Array.length_toList)]
      rfl
    · show ((T.heap.toList.drop T.heap.size).map (·.slots.size)).sum ≤ 0
      rw [List.drop_eq_nil_of_le (Nat.le_of_eq Array.length_toList)]
      exact Nat.le_refl _
/-- 'throw new E()': new; dup; invokespecial; athrow -/
theorem vx_throw0 {cc : ByteArray} {pc : Nat} (hexec : p.tables.exec = Jvm.exec) (hb : c.code = cc) (hl : l.stackTraces = false) {own cls : String} {names : List String} {ik ic mc ms : Nat} {A : Nat → Prop}
    (hown : s.vm.findClass own = some m.cls) (hcls : Bundle.fit cls = true) (hnames : ∀ n ∈ names, Bundle.fit n = true)
    (hk : (Cond.classLink own ik cls).before args s = true) (hini : (Cond.initialized cls).before args s = true) (hat : ∀ w ∈ vx_at0 own ic cls names, w.before args s = true)
    (hgood : ∀ w ∈ Cond.classLink own ik cls :: Cond.initialized cls :: vx_at0 own ic cls names, vx_ot w = true)
    (hU : vx_Zq Bundle.tN "UNASSIGNED_STACK" Bundle.steD A s s.heap) (hN : vx_Zq Bundle.tN "SUPPRESSED_SENTINEL" Bundle.listD A s s.heap) (hS : va_S A s.heap H locs) (hsize : ls.size = c.maxLocals)
    (d0 : decode cc pc = .ok (.new ik, 3)) (d3 : decode cc (pc + 3) = .ok (.dup, 1)) (d4 : decode cc (pc + 4) = .ok (.invokespecial ic, 3)) (d7 : decode cc (pc + 7) = .ok (.athrow, 1))
    (hout : ∀ x ∈ c.exceptionTable.toList, covers x (pc + 7) = false)
    (hRframes : names.length + 3 < R.frames) (hRlocals : (rest.map fun v => v.category).sum + (13 * (names.length + 1) + 42) ≤ R.locals) (hRcells : cells + 1 ≤ R.cells) (hRslots : slots + 6 ≤ R.slots) (hlocks : meth.locks = false)
    (hx : ∀ t : State, s.vm.Alike t.vm → H.size ≤ t.heap.size → (∀ q : Nat, q < H.size → t.heap[q]? = H[q]?) → XC cls s t)
    (hf : ∀ z ∈ locs, free z.base) (hc : cells + 1 ≤ mc) (hs : slots + 6 ≤ ms) :
    W p l e R s m args below meth c H locs cells slots (vx_MQ below Qc XC args s mc ms free) (F0 m pc ls rest) := by
  intro T hT X
  have htr : e.platform.stackTraces = false := (show e.platform.stackTraces = l.stackTraces by rw [X.admits.platform]).trans hl
  have Y := vx_rebase X (R' := { frames := R.frames, locals := R.locals, cells := 1, slots := 6 }) (Nat.le_refl _) (Nat.le_refl _) hRcells hRslots
  obtain ⟨s', hA⟩ : ∃ z, z = (T.setVm s.vm).setFrames (.invoking m args :: below) := ⟨_, rfl⟩
  rw [← hA] at Y
  have hvm : s'.vm = s.vm := by rw [hA]; rfl
  have hhp : s'.heap = H := by rw [hA]; exact hT
  have hW0 : s.WarmedH s'.vm := by rw [hvm]; exact State.WarmedH.refl s
  have hat' : ∀ w ∈ vx_at0 own ic cls names, w.before args s' = true := fun w hw => vx_ot_at hW0 hvm.symm (hgood w (List.mem_cons_of_mem _ (List.mem_cons_of_mem _ hw))) (hat w hw)
  have hk' : (Cond.classLink own ik cls).before args s' = true := vx_ot_at hW0 hvm.symm (hgood _ List.mem_cons_self) hk
  have hini' : (Cond.initialized cls).before args s' = true := vx_ot_at hW0 hvm.symm (hgood _ (List.mem_cons_of_mem _ List.mem_cons_self)) hini
  have hU' : vx_Zq Bundle.tN "UNASSIGNED_STACK" Bundle.steD A s' s'.heap := by rw [hhp]; exact vx_Zq.moved hW0.alike (hU.kept hS.2.1)
  have hN' : vx_Zq Bundle.tN "SUPPRESSED_SENTINEL" Bundle.listD A s' s'.heap := by rw [hhp]; exact vx_Zq.moved hW0.alike (hN.kept hS.2.1)
  have h : ∀ w ∈ Bundle.ownAtoms0 own ic cls names, w.before args s' = true := vx_own hat' (vx_isRefq hU'.1) (vx_isRefq hN'.1) hU'.2.word hN'.2.word
  have hown' : s'.vm.findClass own = some m.cls := by rw [hvm]; exact hown
  have hins : (Cond.instantiable cls 6).before args s' = true := h _ (by simp [Bundle.ownAtoms0])
  obtain ⟨vm₁, cX, kX, hfX, hkX, -, -, X₁, st1⟩ := Y.newCold hexec (own := own) (C := cls) (index := ik) (n := 6) hown' hk' hins hini'
    (g := F0 m pc ls rest) rfl (by rw [hb]; exact d0) (Nat.le_refl _) (Nat.le_refl _)
  generalize hT1 : (T.setVm vm₁).pushCell { cls := cX, slots := kX.instanceTypes.map defaultValue, vm := .none } = T1 at X₁ st1
  have hcat : (Value.ref T.heap.size).category = 1 := rfl
  have hcellA : T1.heap[T.heap.size]? = some (freshCell cX kX) := by rw [← hT1]; exact State.heap_pushCell_size _ _
  have d3' : decode c.code (pc + 3) = .ok (.dup, 1) := by rw [hb]; exact d3
  obtain ⟨U, hsteps, hrun, hend, hW, hsame, ce, hce, hO⟩ := X₁.ctorThrow0 hexec htr (own := own) (cls := cls) (names := names) (ic := ic) hown' hcls hnames h (fun x hx => nomatch hx) hfX hkX hcellA (by rw [hhp, hT]; exact Nat.le_refl _)
    (g := { method := m, pc := pc + 4, locals := ls, stack := .ref T.heap.size :: .ref T.heap.size :: rest, locked := none }) rfl hsize rfl rfl (rest := rest) rfl
    (by rw [hb]; exact d4) (by rw [hb]; exact d7) hout hRframes (by simp only [List.map_cons, List.sum_cons, hcat]; omega) hlocks
  obtain ⟨f1, f2⟩ := vx_frame hsame
  rw [hhp] at f1 f2
  have hWs : s.WarmedH U.vm := State.WarmedH.trans hW0 hW
  have hcl : s.vm.findClass cls = some ce.cls := by
    have h9 := hO.cls
    rw [hvm] at h9
    exact h9
  have hall : s.sameButNew ({ U with vm := s.vm } : State) locs mc ms := by
    subst hA
    obtain ⟨e1, e2⟩ := hsame
    rw [State.setFrames_setFrames] at e1
    have h2 : (T.setVm s.vm).sameButNew ({ U with vm := s.vm } : State) [] (0 + 1) (0 + 6) := ⟨e1, e2⟩
    have h3 := X.same.trans h2
    rw [List.append_nil] at h3
    exact h3.mono hc hs
  refine ⟨U, ?_, .threw T.heap.size, hrun, hend, Or.inr ⟨T.heap.size, rfl, cls, ce, locs, hx U hWs.alike f1 (fun q hq => f2 q hq (fun z hz => nomatch hz)), hce, hO.vm, hcl, hWs, hall, hf⟩⟩
  refine st1 _ ?_
  show Steps p.tables e below (T1.setTop { method := m, pc := pc + 3, locals := ls, stack := .ref T.heap.size :: rest, locked := none }) _
  jvm_step X₁.here [X₁.here.top, hexec, d3', Value.category]
  exact hsteps
/-- 'throw new E("text")': new; dup; ldc; invokespecial; athrow -/
theorem vx_throwS {cc : ByteArray} {pc : Nat} (hexec : p.tables.exec = Jvm.exec) (hb : c.code = cc) (hl : l.stackTraces = false) {own cls text : String} {names : List String} {ik is ic mc ms sa : Nat} {A : Nat → Prop}
    (hown : s.vm.findClass own = some m.cls) (hcls : Bundle.fit cls = true) (hnames : ∀ n ∈ names, Bundle.fit n = true)
    (hk : (Cond.classLink own ik cls).before args s = true) (hini : (Cond.initialized cls).before args s = true) (hstr : vk_R own is text sa s) (hat : ∀ w ∈ vx_atS own ic cls names, w.before args s = true)
    (hgood : ∀ w ∈ Cond.classLink own ik cls :: Cond.initialized cls :: vx_atS own ic cls names, vx_ot w = true)
    (hU : vx_Zq Bundle.tN "UNASSIGNED_STACK" Bundle.steD A s s.heap) (hN : vx_Zq Bundle.tN "SUPPRESSED_SENTINEL" Bundle.listD A s s.heap) (hS : va_S A s.heap H locs) (hsize : ls.size = c.maxLocals)
    (d0 : decode cc pc = .ok (.new ik, 3)) (d3 : decode cc (pc + 3) = .ok (.dup, 1)) (d4 : decode cc (pc + 4) = .ok (.ldc is, 2)) (d6 : decode cc (pc + 6) = .ok (.invokespecial ic, 3)) (d9 : decode cc (pc + 9) = .ok (.athrow, 1))
    (hout : ∀ x ∈ c.exceptionTable.toList, covers x (pc + 9) = false)
    (hRframes : names.length + 3 < R.frames) (hRlocals : (rest.map fun v => v.category).sum + (13 * (names.length + 1) + 43) ≤ R.locals) (hRcells : cells + 1 ≤ R.cells) (hRslots : slots + 6 ≤ R.slots) (hlocks : meth.locks = false)
    (hx : ∀ t : State, s.vm.Alike t.vm → H.size ≤ t.heap.size → (∀ q : Nat, q < H.size → t.heap[q]? = H[q]?) → XC cls s t)
    (hf : ∀ z ∈ locs, free z.base) (hc : cells + 1 ≤ mc) (hs : slots + 6 ≤ ms) :
    W p l e R s m args below meth c H locs cells slots (vx_MQ below Qc XC args s mc ms free) (F0 m pc ls rest) := by
  intro T hT X
  have htr : e.platform.stackTraces = false := (show e.platform.stackTraces = l.stackTraces by rw [X.admits.platform]).trans hl
  have Y := vx_rebase X (R' := { frames := R.frames, locals := R.locals, cells := 1, slots := 6 }) (Nat.le_refl _) (Nat.le_refl _) hRcells hRslots
  obtain ⟨s', hA⟩ : ∃ z, z = (T.setVm s.vm).setFrames (.invoking m args :: below) := ⟨_, rfl⟩
  rw [← hA] at Y
  have hvm : s'.vm = s.vm := by rw [hA]; rfl
  have hhp : s'.heap = H := by rw [hA]; exact hT
  have hW0 : s.WarmedH s'.vm := by rw [hvm]; exact State.WarmedH.refl s
  have hat' : ∀ w ∈ vx_atS own ic cls names, w.before args s' = true := fun w hw => vx_ot_at hW0 hvm.symm (hgood w (List.mem_cons_of_mem _ (List.mem_cons_of_mem _ hw))) (hat w hw)
  have hk' : (Cond.classLink own ik cls).before args s' = true := vx_ot_at hW0 hvm.symm (hgood _ List.mem_cons_self) hk
  have hini' : (Cond.initialized cls).before args s' = true := vx_ot_at hW0 hvm.symm (hgood _ (List.mem_cons_of_mem _ List.mem_cons_self)) hini
  have hU' : vx_Zq Bundle.tN "UNASSIGNED_STACK" Bundle.steD A s' s'.heap := by rw [hhp]; exact vx_Zq.moved hW0.alike (hU.kept hS.2.1)
  have hN' : vx_Zq Bundle.tN "SUPPRESSED_SENTINEL" Bundle.listD A s' s'.heap := by rw [hhp]; exact vx_Zq.moved hW0.alike (hN.kept hS.2.1)
  have h : ∀ w ∈ Bundle.ownAtoms own ic cls names, w.before args s' = true := vx_own hat' (vx_isRefq hU'.1) (vx_isRefq hN'.1) hU'.2.word hN'.2.word
  have hown' : s'.vm.findClass own = some m.cls := by rw [hvm]; exact hown
  have hins : (Cond.instantiable cls 6).before args s' = true := h _ (by simp [Bundle.ownAtoms])
  obtain ⟨vm₁, cX, kX, hfX, hkX, -, -, X₁, st1⟩ := Y.newCold hexec (own := own) (C := cls) (index := ik) (n := 6) hown' hk' hins hini'
    (g := F0 m pc ls rest) rfl (by rw [hb]; exact d0) (Nat.le_refl _) (Nat.le_refl _)
  generalize hT1 : (T.setVm vm₁).pushCell { cls := cX, slots := kX.instanceTypes.map defaultValue, vm := .none } = T1 at X₁ st1
  have hcat : (Value.ref T.heap.size).category = 1 := rfl
  have hcellA : T1.heap[T.heap.size]? = some (freshCell cX kX) := by rw [← hT1]; exact State.heap_pushCell_size _ _
  have d3' : decode c.code (pc + 3) = .ok (.dup, 1) := by rw [hb]; exact d3
  have d4' : decode c.code (pc + 4) = .ok (.ldc is, 2) := by rw [hb]; exact d4
  have hstr' : vk_R own is text sa s' := vk_R.warm hW0 hstr
  obtain ⟨U, hsteps, hrun, hend, hW, hsame, ce, hce, hO⟩ := X₁.ctorThrowS hexec htr (own := own) (cls := cls) (names := names) (ic := ic) hown' hcls hnames h (fun x hx => nomatch hx) hfX hkX hcellA (by rw [hhp, hT]; exact Nat.le_refl _) (msg := .ref sa) rfl
    (g := { method := m, pc := pc + 6, locals := ls, stack := .ref sa :: .ref T.heap.size :: .ref T.heap.size :: rest, locked := none }) rfl hsize rfl rfl (rest := rest) rfl
    (by rw [hb]; exact d6) (by rw [hb]; exact d9) hout hRframes (by simp only [List.map_cons, List.sum_cons, hcat]; omega) hlocks
  obtain ⟨f1, f2⟩ := vx_frame hsame
  rw [hhp] at f1 f2
  have hWs : s.WarmedH U.vm := State.WarmedH.trans hW0 hW
  have hcl : s.vm.findClass cls = some ce.cls := by
    have h9 := hO.cls
    rw [hvm] at h9
    exact h9
  have hall : s.sameButNew ({ U with vm := s.vm } : State) locs mc ms := by
    subst hA
    obtain ⟨e1, e2⟩ := hsame
    rw [State.setFrames_setFrames] at e1
    have h2 : (T.setVm s.vm).sameButNew ({ U with vm := s.vm } : State) [] (0 + 1) (0 + 6) := ⟨e1, e2⟩
    have h3 := X.same.trans h2
    rw [List.append_nil] at h3
    exact h3.mono hc hs
  refine ⟨U, ?_, .threw T.heap.size, hrun, hend, Or.inr ⟨T.heap.size, rfl, cls, ce, locs, hx U hWs.alike f1 (fun q hq => f2 q hq (fun z hz => nomatch hz)), hce, hO.vm, hcl, hWs, hall, hf⟩⟩
  refine st1 _ ?_
  show Steps p.tables e below (T1.setTop { method := m, pc := pc + 3, locals := ls, stack := .ref T.heap.size :: rest, locked := none }) _
  jvm_step X₁.here [X₁.here.top, hexec, d3', Value.category]
  exact X₁.ldcString hexec (own := own) (text := text) (index := is) (a := sa) hown' hstr'.1 hstr'.2
    (g := { method := m, pc := pc + 4, locals := ls, stack := .ref T.heap.size :: .ref T.heap.size :: rest, locked := none }) rfl d4' _ hsteps
/-- 'throw new E("text")', the text by a wide index -/
theorem vx_throwSW {cc : ByteArray} {pc : Nat} (hexec : p.tables.exec = Jvm.exec) (hb : c.code = cc) (hl : l.stackTraces = false) {own cls text : String} {names : List String} {ik is ic mc ms sa : Nat} {A : Nat → Prop}
    (hown : s.vm.findClass own = some m.cls) (hcls : Bundle.fit cls = true) (hnames : ∀ n ∈ names, Bundle.fit n = true)
    (hk : (Cond.classLink own ik cls).before args s = true) (hini : (Cond.initialized cls).before args s = true) (hstr : vk_R own is text sa s) (hat : ∀ w ∈ vx_atS own ic cls names, w.before args s = true)
    (hgood : ∀ w ∈ Cond.classLink own ik cls :: Cond.initialized cls :: vx_atS own ic cls names, vx_ot w = true)
    (hU : vx_Zq Bundle.tN "UNASSIGNED_STACK" Bundle.steD A s s.heap) (hN : vx_Zq Bundle.tN "SUPPRESSED_SENTINEL" Bundle.listD A s s.heap) (hS : va_S A s.heap H locs) (hsize : ls.size = c.maxLocals)
    (d0 : decode cc pc = .ok (.new ik, 3)) (d3 : decode cc (pc + 3) = .ok (.dup, 1)) (d4 : decode cc (pc + 4) = .ok (.ldc_w is, 3)) (d7 : decode cc (pc + 7) = .ok (.invokespecial ic, 3)) (d10 : decode cc (pc + 10) = .ok (.athrow, 1))
    (hout : ∀ x ∈ c.exceptionTable.toList, covers x (pc + 10) = false)
    (hRframes : names.length + 3 < R.frames) (hRlocals : (rest.map fun v => v.category).sum + (13 * (names.length + 1) + 43) ≤ R.locals) (hRcells : cells + 1 ≤ R.cells) (hRslots : slots + 6 ≤ R.slots) (hlocks : meth.locks = false)
    (hx : ∀ t : State, s.vm.Alike t.vm → H.size ≤ t.heap.size → (∀ q : Nat, q < H.size → t.heap[q]? = H[q]?) → XC cls s t)
    (hf : ∀ z ∈ locs, free z.base) (hc : cells + 1 ≤ mc) (hs : slots + 6 ≤ ms) :
    W p l e R s m args below meth c H locs cells slots (vx_MQ below Qc XC args s mc ms free) (F0 m pc ls rest) := by
  intro T hT X
  have htr : e.platform.stackTraces = false := (show e.platform.stackTraces = l.stackTraces by rw [X.admits.platform]).trans hl
  have Y := vx_rebase X (R' := { frames := R.frames, locals := R.locals, cells := 1, slots := 6 }) (Nat.le_refl _) (Nat.le_refl _) hRcells hRslots
  obtain ⟨s', hA⟩ : ∃ z, z = (T.setVm s.vm).setFrames (.invoking m args :: below) := ⟨_, rfl⟩
  rw [← hA] at Y
  have hvm : s'.vm = s.vm := by rw [hA]; rfl
  have hhp : s'.heap = H := by rw [hA]; exact hT
  have hW0 : s.WarmedH s'.vm := by rw [hvm]; exact State.WarmedH.refl s
  have hat' : ∀ w ∈ vx_atS own ic cls names, w.before args s' = true := fun w hw => vx_ot_at hW0 hvm.symm (hgood w (List.mem_cons_of_mem _ (List.mem_cons_of_mem _ hw))) (hat w hw)
  have hk' : (Cond.classLink own ik cls).before args s' = true := vx_ot_at hW0 hvm.symm (hgood _ List.mem_cons_self) hk
  have hini' : (Cond.initialized cls).before args s' = true := vx_ot_at hW0 hvm.symm (hgood _ (List.mem_cons_of_mem _ List.mem_cons_self)) hini
  have hU' : vx_Zq Bundle.tN "UNASSIGNED_STACK" Bundle.steD A s' s'.heap := by rw [hhp]; exact vx_Zq.moved hW0.alike (hU.kept hS.2.1)
  have hN' : vx_Zq Bundle.tN "SUPPRESSED_SENTINEL" Bundle.listD A s' s'.heap := by rw [hhp]; exact vx_Zq.moved hW0.alike (hN.kept hS.2.1)
  have h : ∀ w ∈ Bundle.ownAtoms own ic cls names, w.before args s' = true := vx_own hat' (vx_isRefq hU'.1) (vx_isRefq hN'.1) hU'.2.word hN'.2.word
  have hown' : s'.vm.findClass own = some m.cls := by rw [hvm]; exact hown
  have hins : (Cond.instantiable cls 6).before args s' = true := h _ (by simp [Bundle.ownAtoms])
  obtain ⟨vm₁, cX, kX, hfX, hkX, -, -, X₁, st1⟩ := Y.newCold hexec (own := own) (C := cls) (index := ik) (n := 6) hown' hk' hins hini'
    (g := F0 m pc ls rest) rfl (by rw [hb]; exact d0) (Nat.le_refl _) (Nat.le_refl _)
  generalize hT1 : (T.setVm vm₁).pushCell { cls := cX, slots := kX.instanceTypes.map defaultValue, vm := .none } = T1 at X₁ st1
  have hcat : (Value.ref T.heap.size).category = 1 := rfl
  have hcellA : T1.heap[T.heap.size]? = some (freshCell cX kX) := by rw [← hT1]; exact State.heap_pushCell_size _ _
  have d3' : decode c.code (pc + 3) = .ok (.dup, 1) := by rw [hb]; exact d3
  have d4' : decode c.code (pc + 4) = .ok (.ldc_w is, 3) := by rw [hb]; exact d4
  have hstr' : vk_R own is text sa s' := vk_R.warm hW0 hstr
  obtain ⟨U, hsteps, hrun, hend, hW, hsame, ce, hce, hO⟩ := X₁.ctorThrowS hexec htr (own := own) (cls := cls) (names := names) (ic := ic) hown' hcls hnames h (fun x hx => nomatch hx) hfX hkX hcellA (by rw [hhp, hT]; exact Nat.le_refl _) (msg := .ref sa) rfl
    (g := { method := m, pc := pc + 7, locals := ls, stack := .ref sa :: .ref T.heap.size :: .ref T.heap.size :: rest, locked := none }) rfl hsize rfl rfl (rest := rest) rfl
    (by rw [hb]; exact d7) (by rw [hb]; exact d10) hout hRframes (by simp only [List.map_cons, List.sum_cons, hcat]; omega) hlocks
  obtain ⟨f1, f2⟩ := vx_frame hsame
  rw [hhp] at f1 f2
  have hWs : s.WarmedH U.vm := State.WarmedH.trans hW0 hW
  have hcl : s.vm.findClass cls = some ce.cls := by
    have h9 := hO.cls
    rw [hvm] at h9
    exact h9
  have hall : s.sameButNew ({ U with vm := s.vm } : State) locs mc ms := by
    subst hA
    obtain ⟨e1, e2⟩ := hsame
    rw [State.setFrames_setFrames] at e1
    have h2 : (T.setVm s.vm).sameButNew ({ U with vm := s.vm } : State) [] (0 + 1) (0 + 6) := ⟨e1, e2⟩
    have h3 := X.same.trans h2
    rw [List.append_nil] at h3
    exact h3.mono hc hs
  refine ⟨U, ?_, .threw T.heap.size, hrun, hend, Or.inr ⟨T.heap.size, rfl, cls, ce, locs, hx U hWs.alike f1 (fun q hq => f2 q hq (fun z hz => nomatch hz)), hce, hO.vm, hcl, hWs, hall, hf⟩⟩
  refine st1 _ ?_
  show Steps p.tables e below (T1.setTop { method := m, pc := pc + 3, locals := ls, stack := .ref T.heap.size :: rest, locked := none }) _
  jvm_step X₁.here [X₁.here.top, hexec, d3', Value.category]
  exact X₁.ldcStringW hexec (own := own) (text := text) (index := is) (a := sa) hown' hstr'.1 hstr'.2
    (g := { method := m, pc := pc + 4, locals := ls, stack := .ref T.heap.size :: .ref T.heap.size :: rest, locked := none }) rfl d4' _ hsteps
end Ends
section Bodies
variable {l : Launch}
theorem vx_ofW {y : MethodName} {ws ws' : List Cond} {rm : Room} {Pc : Array Value → State → Prop} {Qc : Array Value → State → Outcome → State → Prop} {XC : String → State → State → Prop} {mc ms : Nat} {free : Addr → Prop} {cc : ByteArray} {maxL : Nat} {ret : Option FieldType}
    (hy : plainName y.cls = true) (hw : ws = Cond.code y cc maxL ret :: ws')
    (body : ∀ p e s m args below meth c s₁, BodyLoose p l y (headSpec ws rm) cc maxL ret e s m args below meth c s₁ → c.maxLocals = maxL → (∀ x ∈ c.exceptionTable.toList, False) → Pc args s →
      W p l e (headSpec ws rm).room s m args below meth c s.heap [] 0 0 (vx_MQ below Qc XC args s mc ms free) (entryFrame m args maxL)) : vx_Met l y ws rm Pc Qc XC mc ms free := by
  refine MetFree.of_bodyS (code := cc) (maxLocals := maxL) (ret := ret) hy ?_ ?_
  · intro args s m h hn
    obtain ⟨meth, c, h1, h2, h3, h4, h5, h6, -, -⟩ := Cond.code_spec hn (atoms_spec (ws := ws) h _ (by rw [hw]; exact List.mem_cons_self))
    exact ⟨meth, c, h1, h2, h3, h4, h5, h6⟩
  · intro p e s m args below meth c s₁ B hml hP _
    have hh0 : s₁.heap = s.heap := by rw [B.state]; rfl
    have ht : ∀ x ∈ c.exceptionTable.toList, False := by
      obtain ⟨meth9, c9, h1, h2, -, -, -, -, h7, -⟩ := Cond.code_spec B.named (atoms_spec (ws := ws) B.pre _ (by rw [hw]; exact List.mem_cons_self))
      cases Option.some.inj (h1.symm.trans B.method)
      cases Option.some.inj (h2.symm.trans (Stand.of_body B).code)
      intro x hx
      rw [Array.isEmpty_iff.mp h7] at hx
      cases hx
    obtain ⟨t, a1, o, b1, b2, b3⟩ := body p e s m args below meth c s₁ B hml ht hP s₁ hh0 (Stand.of_body B)
    exact ⟨t, o, a1, b1, b2, b3⟩
/-- the table of a body with handlers -/
theorem vx_table {p : Program} {x y : MethodName} {S : Spec} {cc bytes : ByteArray} {maxL maxL' : Nat} {ret ret' : Option FieldType} {e : Env} {s s₁ : State} {m : MethodId} {args : Array Value} {below : List Frame} {meth : Method} {c : Code} {hh : List (Nat × Nat × Nat × Nat)}
    (B : BodyLoose p l y S cc maxL ret e s m args below meth c s₁) (h : (Cond.codeWith y bytes maxL' ret' hh).before args s = true) : c.exceptionTable.toList = tableOf hh := by
  obtain ⟨m9, meth9, c9, hn9, h1, h2, -, -, h6, -⟩ := Cond.codeWith_spec h
  cases Option.some.inj (hn9.symm.trans B.named)
  cases Option.some.inj (h1.symm.trans B.method)
  cases Option.some.inj (h2.symm.trans (Stand.of_body B).code)
  rw [← h6, table_eq]
end Bodies
end VXA
/-! ===== END ===== -/
/-! ===== BEGIN a static call of a method with an exception table ===== -/
section VXS
variable {p : Program} {l : Launch} {e : Env} {R : Room} {s : State} {m : MethodId} {args : Array Value} {below : List Frame} {meth : Method} {c : Code} {T : State} {H : Heap} {locs : List Loc} {cells slots : Nat}
abbrev vx_CSW (R : Room) (s : State) (args : Array Value) (own : String) (index : Nat) (y : MethodName) (bytes : ByteArray) (maxL : Nat) (ret : Option FieldType) (hh : List (Nat × Nat × Nat × Nat)) (ws : List Cond) (rm : Room) (mc ms n : Nat) : Prop :=
  (rm.cells = mc ∧ rm.slots = ms ∧ rm.frames + 1 ≤ R.frames ∧ 8 + (maxL + 11) + rm.locals ≤ R.locals ∧ (∀ w ∈ ws, ∀ (a' : Array Value) (U : State), s.WarmedH U.vm → w.before a' U = true) ∧ Cond.codeWith y bytes maxL ret hh ∈ ws) ∧
  (Cond.codeWith y bytes maxL ret hh).before args s = true ∧ (Cond.initialized y.cls).before args s = true ∧ (y.cls ≠ "java/lang/invoke/MethodHandle" ∧ y.cls ≠ "java/lang/invoke/VarHandle") ∧
  (∀ sig, parseMethodDescriptor y.desc = some sig → n = sig.parameters.length) ∧ (Cond.methodLink own index y).before args s = true ∧ (Cond.static y).before args s = true
theorem vx_cwSW {own : String} {index maxL mc ms : Nat} {y : MethodName} {bytes : ByteArray} {ret : Option FieldType} {hh : List (Nat × Nat × Nat × Nat)} {Ts ws ws' : List Cond} {rm : Room} (n : Nat) (ht : ∀ w ∈ Ts, w.before args s = true) (hT : GoodIn Ts (va_wsS own index y ws)) (hw : ws = Cond.codeWith y bytes maxL ret hh :: ws') (hrc : rm.cells = mc) (hrs : rm.slots = ms)
    (hd : y.cls ≠ "java/lang/invoke/MethodHandle" ∧ y.cls ≠ "java/lang/invoke/VarHandle" ∧ (parseMethodDescriptor y.desc).map (fun d => d.parameters.length) = some n) (hR : rm.frames + 1 ≤ R.frames ∧ 8 + (maxL + 11) + rm.locals ≤ R.locals) :
    vx_CSW R s args own index y bytes maxL ret hh ws rm mc ms n := by
  have ok : ∀ w ∈ va_wsS own index y ws, w.before args s = true := fun w h => ht w (hT w h).1
  have hG : GoodIn Ts ws := fun w h => hT w (by unfold va_wsS; exact List.mem_append_right _ h)
  have hc : Cond.codeWith y bytes maxL ret hh ∈ ws := by rw [hw]; exact List.mem_cons_self
  refine ⟨⟨hrc, hrs, hR.1, hR.2, pay_in ht hG, hc⟩, ht _ (hG _ hc).1, ok _ (by simp [va_wsS]), ⟨hd.1, hd.2.1⟩, fun sig h => ?_, ok _ (by simp [va_wsS]), ok _ (by simp [va_wsS])⟩
  have h2 := hd.2.2
  rw [h] at h2
  exact (Option.some.inj h2).symm
theorem vx_callSW (X : Stand p l e R s m args below meth c T locs cells slots) (hexec : p.tables.exec = Jvm.exec) {own : String} {index : Nat} {y : MethodName} {bytes : ByteArray} {maxL : Nat} {ret : Option FieldType} {hh : List (Nat × Nat × Nat × Nat)}
    (hown : s.vm.findClass own = some m.cls) (hlink : (Cond.methodLink own index y).before args s = true) (hstat : (Cond.static y).before args s = true) (hinit : (Cond.initialized y.cls).before args s = true)
    (hcode : (Cond.codeWith y bytes maxL ret hh).before args s = true) (hy : y.cls ≠ "java/lang/invoke/MethodHandle" ∧ y.cls ≠ "java/lang/invoke/VarHandle")
    {W9 : Nat} {Pre : Pt → Array Value → Prop} {Post : Pt → Array Value → Option Value → Pt → Prop} (hK : Back l R p e below s args y 3 W9 Pre Post)
    {g : JFrame} (hg : g.method = m) (hsize : g.locals.size = c.maxLocals) {argsL rest : List Value} (hlen : ∀ sig, parseMethodDescriptor y.desc = some sig → argsL.length = sig.parameters.length)
    (hstack : g.stack = argsL.reverse ++ rest) (hW : 2 * g.monitorRoom + (rest.map fun v => v.category).sum ≤ W9) (hdg : decode c.code g.pc = .ok (.invokestatic index, 3))
    (hpre : ∀ vm₁, s.WarmedH vm₁ → Pre ⟨T.setVm vm₁, locs, cells, slots⟩ argsL.toArray) :
    ∃ (v : Option Value) (vm₁ : Vm) (B : Pt), s.WarmedH vm₁ ∧ Stand p l e R s m args below meth c B.U B.locs B.cells B.slots ∧ Post ⟨T.setVm vm₁, locs, cells, slots⟩ argsL.toArray v B ∧
      ∀ target, Steps p.tables e below (B.U.setTop { g with pc := g.pc + 3, stack := v.toList ++ rest }) target → Steps p.tables e below (T.setTop g) target := by
  obtain ⟨mk, methM, cM, hnamed, hmethM, -, -, -, -, -, -, hsigM⟩ := Cond.codeWith_spec hcode
  have hstatic : methM.isStatic = true := Cond.static_spec hnamed hmethM hstat
  obtain ⟨kP, hkP, -⟩ := className_of_methodNamed hnamed
  have hinitP : kP.init = .initialized := Cond.initialized_spec (findClass_of_methodNamed hnamed) hkP hinit
  obtain ⟨vm₁, X₁, hstep₁⟩ := X.invokestatic hexec hown hlink hnamed hmethM hstatic hkP hinitP hy (g := g) hg (argsL := argsL) (rest := rest) (hlen _ hsigM) hstack hdg
  obtain ⟨v, B, X', hpost, hsteps⟩ := hK m meth c ⟨T.setVm vm₁, locs, cells, slots⟩ { g with stack := rest } (.invokestatic index) mk argsL.toArray X₁ hg hsize hdg hW (X₁.named hnamed) (hpre vm₁ X₁.warmed)
  exact ⟨v, vm₁, B, X₁.warmed, X', hpost, fun target h => hstep₁ _ fun acts => by rw [doInvoke_state]; exact hsteps.trans h⟩
theorem vx_runSW {y : MethodName} {bytes cc : ByteArray} {maxL nL mc ms n index : Nat} {ret : Option FieldType} {hh : List (Nat × Nat × Nat × Nat)} {ws : List Cond} {rm : Room} {Pc : Array Value → State → Prop} {Qc : Array Value → State → Outcome → State → Prop} {free : Addr → Prop} {Ts : List Cond} {own : String} {As rest : List Value} {g : JFrame}
    (S : CallFix p m c cc nL s args Ts own) (hM : Met l y ws rm Pc Qc mc ms free) (cw : vx_CSW R s args own index y bytes maxL ret hh ws rm mc ms n) (hp : PreS s H Pc As)
    (hg : g.method = m) (hn : As.length = n) (hsize : g.locals.size = nL) (hstack : g.stack = As.reverse ++ rest) (hW : 2 * g.monitorRoom + (rest.map fun v => v.category).sum ≤ 8) (hdg : decode cc g.pc = .ok (.invokestatic index, 3)) (hf : cells + mc ≤ R.cells ∧ slots + ms ≤ R.slots) :
    va_Run p l e R s m args below meth c H locs cells slots mc ms g rest (Qc As.toArray) (free) := by
  obtain ⟨⟨hrc, hrs, hfr, hlo, hws, hcw⟩, hcode, hini, hy, hlen, hl, hstt⟩ := cw
  have hK : Back l R p e below s args y 3 8 (PreOf R mc ms Pc) (PostOf Qc mc ms free) := va_backW (hh := hh) (bytes := bytes) (maxL := maxL) (ret := ret) hM hp.1 hrc hrs hfr hlo hws hcw (fun a' U hW => word_at hW (Or.inl (by first | rfl | simp [Cond.onTables, Cond.keeps, Cond.steady])) hini)
  obtain ⟨hx, hb, hml, ho, -⟩ := S
  intro T hT X
  obtain ⟨v, vm₁, ⟨U', l2, c2, s2⟩, hW₁, X', ⟨g', mk, t, L, e1, e2, hq, h1, hL, h2, h3⟩, st⟩ := vx_callSW X hx (hh := hh) (bytes := bytes) (maxL := maxL) (ret := ret) ho hl hstt hini hcode hy hK hg (hsize.trans hml.symm) (argsL := As) (rest := rest) (fun sig h => hn.trans (hlen sig h)) hstack hW (by rw [hb]; exact hdg)
    (fun vm₁ hW₁ => ⟨hf.1, hf.2, hp.2 (T.setVm vm₁) hT hW₁⟩)
  dsimp only [Pt.U, Pt.locs, Pt.cells, Pt.slots] at X' e1 e2 h1 h2 h3 st
  subst h1; subst h2; subst h3
  exact ⟨v, (T.setVm vm₁).calling g' mk As.toArray, t, U', L, hT, X', hL, e1, e2, hq, st⟩
/-- not caught here, past rows that name other classes: it goes on to the caller -/
theorem vx_outP {p : Program} {l : Launch} {e : Env} {R : Room} {s : State} {m : MethodId} {args : Array Value} {below : List Frame} {meth : Method} {c : Code} {H : Heap} {locs : List Loc} {cells slots : Nat} {free : Addr → Prop} {ls : Array Slot} {rest : List Value} {Qc : Array Value → State → Outcome → State → Prop} {XC : String → State → State → Prop}
    {pc : Nat} {own E : String} {ce : Cell} {q : Addr} {mc ms : Nat} (hown : s.vm.findClass own = some m.cls) (hlocks : meth.locks = false)
    (hpass : ∀ z ∈ c.exceptionTable.toList, covers z pc = false ∨ (z.catchType ≠ 0 ∧ ∃ nm : String, (Cond.classLink own z.catchType nm).before args s = true ∧ va_Nc E nm s)) (hcell : H[q]? = some ce) (hv : ce.vm = .none) (hcl : s.vm.findClass E = some ce.cls)
    (hx : ∀ t : State, t.heap = H → s.vm.Alike t.vm → XC E s t) (hf : ∀ z ∈ locs, free z.base) (hc : cells ≤ mc) (hs : slots ≤ ms) :
    vx_W p l e R s m args below meth c H locs cells slots (vx_MQ below Qc XC args s mc ms free) (F0 m pc ls rest) q := by
  intro T hT X
  have hpl : e.platform.magicAccessors = ({} : Platform).magicAccessors := by rw [X.admits.platform]
  obtain ⟨vm', hW', X', st⟩ := X.outThrough hlocks q (g := F0 m pc ls rest) rfl rfl rfl (cell := ce) (by rw [hT]; exact hcell) (by rw [hv]; rfl)
    (by obtain ⟨k9, h9, -⟩ := Vm.findClass_spec hcl; exact ⟨k9, h9⟩) (fun z hz => by
      rcases hpass z hz with h | ⟨hz0, nm, hl1, hn1⟩
      · exact Or.inl h
      · obtain ⟨c6, hc6, hcl6⟩ := Cond.classLink_spec hown hl1 e.platform hpl
        obtain ⟨a8, b8, h1, h2, h3⟩ := hn1
        cases Option.some.inj (h1.symm.trans hcl)
        cases Option.some.inj (h2.symm.trans hc6)
        exact Or.inr ⟨hz0, _, hcl6, h3⟩)
  obtain ⟨g₀, hfr⟩ := X'.frames_eq
  have hcell9 : ((T.setVm vm').setFrames (.throwing q :: below)).heap[q]? = some ce := by
    show T.heap[q]? = some ce
    rw [hT]; exact hcell
  have hend : Ended ((T.setVm vm').setFrames (.throwing q :: below)) below (.threw q) := State.frames_setFrames _ (State.cur_lt_of_frames hfr)
  refine ⟨(T.setVm vm').setFrames (.throwing q :: below), ?_, .threw q, X'.here.running, hend, Or.inr ⟨q, rfl, E, ce, locs, hx _ hT (X'.ends _).1.alike, hcell9, hv, hcl, (X'.ends _).1, (X'.ends _).2.mono hc hs, hf⟩⟩
  rw [X.pushThrowing_eq]
  exact st
/-- a thing of a world lies in the heap -/
theorem vx_lt {D : va_G} {cl : List vw_C} {ws : va_W} {H1 : Heap} (h : va_P D cl ws H1) {k : Nat} {q : Nat × va_E} (hk : ws[k]? = some q) : q.1 < H1.size := (h k q hk).lt
end VXS
/-! ===== END ===== -/
/-! ===== BEGIN methods with a table of their own: called by a name, returning or throwing ===== -/
section VXH
/-! vx_backW, vx_callVX, vx_callSX, vx_callVW, vx_runVW, vx_runVX, vx_runSX, vx_ofWH follow the same proofs as their sisters above (Free/Laws.lean, Shelf42/LK1.lean); vx_outP calls Shelf42/NT130.lean (outThrough). -/
section
variable {l : Launch} {R : Room} {p : Program} {e : Env} {below : List Frame} {s : State} {sargs : Array Value} {y : MethodName} {len W9 : Nat}
theorem vx_backW {ws : List Cond} {rm : Room} {Pc : Array Value → State → Prop} {Qc : Array Value → State → Outcome → State → Prop} {XC : String → State → State → Prop} {mc ms : Nat} {free : Addr → Prop} {bytes : ByteArray} {maxL : Nat} {ret : Option FieldType} {hh : List (Nat × Nat × Nat × Nat)}
    (hM : vx_Met l y ws rm Pc Qc XC mc ms free) (hblind : FrameBlind Pc) (hrc : rm.cells = mc) (hrs : rm.slots = ms)
    (hframes : rm.frames + 1 ≤ R.frames) (hlocals : W9 + (maxL + 11) + rm.locals ≤ R.locals)
    (hws : ∀ w ∈ ws, ∀ a' U, s.WarmedH U.vm → w.before a' U = true) (hcode : Cond.codeWith y bytes maxL ret hh ∈ ws) (hinit : ∀ a' U, s.WarmedH U.vm → (Cond.initialized y.cls).before a' U = true) :
    vx_Back l R p e below s sargs y len W9 (PreOf R mc ms Pc) (PostOf Qc mc ms free) (vx_Post XC mc ms free) := by
  intro m meth c A g ig mk a X hg hsize hdg hW hn hp
  have h1 : (headSpec ws rm).pre.before a A.U = true := atoms_intro fun w hw => hws w hw _ _ X.warmed
  have h2 : (Cond.codeWith y bytes maxL ret hh).before a A.U = true := hws _ hcode _ _ X.warmed
  have h3 : (Cond.initialized y.cls).before a A.U = true := hinit _ _ X.warmed
  have h4 : A.cells + (headSpec ws rm).room.cells ≤ R.cells := by rw [show (headSpec ws rm).room.cells = mc from hrc]; exact hp.1
  have h5 : A.slots + (headSpec ws rm).room.slots ≤ R.slots := by rw [show (headSpec ws rm).room.slots = ms from hrs]; exact hp.2.1
  have hPc : Pc a (A.U.calling g mk a) := hblind _ _ _ _ hp.2.2
  obtain ⟨U, Ls, c0, s0⟩ := A
  dsimp only [Pt.U, Pt.locs, Pt.cells, Pt.slots] at h1 h2 h3 h4 h5 X hn hPc ⊢
  obtain ⟨m9, methY, cY, hn9, hmY, hcY, -, hlY, -⟩ := Cond.codeWith_spec h2
  cases Option.some.inj (hn9.symm.trans hn)
  obtain ⟨kY, hkY, -⟩ := className_of_methodNamed hn
  have hinitY : kY.init = .initialized := Cond.initialized_spec (findClass_of_methodNamed hn) hkY h3
  have h : At U g.method c below := by rw [hg]; exact X.here
  have hlocals9 : W9 + (maxL + 11) + (headSpec ws rm).room.locals ≤ R.locals := hlocals
  have happ : (headSpec ws rm).appliesLoose y e.platform (U.calling g mk a) = true :=
    Spec.appliesLoose_calling (g := g) h hdg hn hkY hinitY
      (X.room_calling (g := g) (R' := (headSpec ws rm).room) hsize hmY hcY hframes (by rw [hlY]; omega) h4 h5) h1
  obtain ⟨mid, hmid⟩ := h.above
  have hfr : (U.setTop g).frames = (.java g :: mid) ++ below := by rw [State.frames_setTop' g h.top, hmid]; rfl
  obtain ⟨o, s₂, hsteps, -, hend, hq⟩ := Steps.callFree hM p X.admits X.cas X.clock (acts := []) hfr happ hPc trivial
  have hq' : vx_Q Qc XC mc ms free a (U.calling g mk a) o s₂ := hq
  rw [State.frames_setTop' g h.top] at hend
  obtain ⟨g₀, hg0⟩ := Option.isSome_iff_exists.mp h.top
  obtain ⟨r, hr⟩ := State.topJava?_eq_some.mp hg0
  have hr' : (({ U with heap := s₂.heap, slotsUsed := s₂.slotsUsed } : State).setVm s₂.vm).frames = .java g₀ :: r := hr
  rcases hq' with ⟨hqc, L, hfe, hL⟩ | ⟨q, rfl, E, ce, L, hx, hce, hcv, hcl, hW₂, hsm, hL⟩
  · obtain ⟨⟨v, rfl⟩, hW₂, e2, q2, q3, q4, q5, q6⟩ := id hfe
    have e3 : s₂ = ({ (U.calling g mk a).setFrames s₂.frames with heap := s₂.heap, slotsUsed := s₂.slotsUsed } : State).setVm s₂.vm := by
      have : s₂ = ({ s₂ with vm := (U.calling g mk a).vm } : State).setVm s₂.vm := rfl
      rw [e2] at this
      exact this
    obtain ⟨c₂, i₂, len₂, hc₂, hd₂, hf₂⟩ := hend
    have hW' : U.WarmedH s₂.vm := hW₂
    have hcc : c₂ = c := by
      have h1 : s₂.code? g.method = U.code? g.method := by
        rw [State.code?_eq, State.code?_eq, hW'.alike.method?]
      exact Option.some.inj (hc₂.symm.trans (h1.trans h.code))
    subst hcc
    have hlen : len₂ = len := by rw [hdg] at hd₂; cases hd₂; rfl
    subst hlen
    have hs₂ : s₂ = (({ U with heap := s₂.heap, slotsUsed := s₂.slotsUsed } : State).setVm s₂.vm).setTop { g with pc := g.pc + len₂, stack := v.toList ++ g.stack } := by
      refine e3.trans ?_
      rw [hf₂, State.calling_eq h.top, State.setFrames_setFrames, State.setTop_of_frames _ hr', hr]
      rfl
    have hsame : U.sameButNew ({ U with heap := s₂.heap, slotsUsed := s₂.slotsUsed } : State) L mc ms := by
      refine ⟨?_, q2, q3, q4, q5, q6⟩
      obtain ⟨t, ht, -⟩ := State.frames_cons hr
      show ({ U with heap := s₂.heap, slotsUsed := s₂.slotsUsed } : State) = { U.setFrames U.frames with heap := s₂.heap, slotsUsed := s₂.slotsUsed }
      rw [State.setFrames_self ht]
    subst hg
    refine Or.inl ⟨v, ⟨(({ U with heap := s₂.heap, slotsUsed := s₂.slotsUsed } : State).setVm s₂.vm), Ls ++ L, c0 + mc, s0 + ms⟩,
      ⟨X.admits, X.cas, X.clock, X.frames, X.room, X.hears, X.method, X.code, (X.here.setHeapUsed s₂.heap s₂.slotsUsed).setVm hW'.alike, X.tail, State.WarmedH.trans X.warmed hW', X.limits, X.bytes, X.same.trans (hsame.setVm s.vm)⟩,
      ⟨g, mk, s₂, L, rfl, rfl, hqc, rfl, hL, rfl, rfl⟩, ?_⟩
    show Steps p.tables e below _ ((({ U with heap := s₂.heap, slotsUsed := s₂.slotsUsed } : State).setVm s₂.vm).setTop { g with pc := g.pc + len₂, stack := v.toList ++ g.stack })
    rw [← hs₂]
    exact hsteps
  · obtain ⟨e2, q2, q3, q4, q5, q6⟩ := id hsm
    have e3 : s₂ = ({ (U.calling g mk a).setFrames s₂.frames with heap := s₂.heap, slotsUsed := s₂.slotsUsed } : State).setVm s₂.vm := by
      have : s₂ = ({ s₂ with vm := (U.calling g mk a).vm } : State).setVm s₂.vm := rfl
      rw [e2] at this
      exact this
    have hf₂ : s₂.frames = .throwing q :: .java g :: U.frames.tail := hend
    have hW' : U.WarmedH s₂.vm := hW₂
    have hs₂ : s₂ = ((({ U with heap := s₂.heap, slotsUsed := s₂.slotsUsed } : State).setVm s₂.vm).setTop g).pushFrame (.throwing q) := by
      refine e3.trans ?_
      rw [hf₂, State.calling_eq h.top, State.setFrames_setFrames, State.pushFrame, State.frames_setTop _ hr', State.setTop_of_frames _ hr', State.setFrames_setFrames, hr]
      rfl
    have hsame : U.sameButNew ({ U with heap := s₂.heap, slotsUsed := s₂.slotsUsed } : State) L mc ms := by
      refine ⟨?_, q2, q3, q4, q5, q6⟩
      obtain ⟨t, ht, -⟩ := State.frames_cons hr
      show ({ U with heap := s₂.heap, slotsUsed := s₂.slotsUsed } : State) = { U.setFrames U.frames with heap := s₂.heap, slotsUsed := s₂.slotsUsed }
      rw [State.setFrames_self ht]
    subst hg
    refine Or.inr ⟨q, ⟨(({ U with heap := s₂.heap, slotsUsed := s₂.slotsUsed } : State).setVm s₂.vm), Ls ++ L, c0 + mc, s0 + ms⟩,
      ⟨X.admits, X.cas, X.clock, X.frames, X.room, X.hears, X.method, X.code, (X.here.setHeapUsed s₂.heap s₂.slotsUsed).setVm hW'.alike, X.tail, State.WarmedH.trans X.warmed hW', X.limits, X.bytes, X.same.trans (hsame.setVm s.vm)⟩,
      ⟨g, mk, s₂, L, E, ce, rfl, rfl, hx, hce, hcv, hcl, rfl, hL, rfl, rfl⟩, ?_⟩
    show Steps p.tables e below _ (((({ U with heap := s₂.heap, slotsUsed := s₂.slotsUsed } : State).setVm s₂.vm).setTop g).pushFrame (.throwing q))
    rw [← hs₂]
    exact hsteps
end
variable {p : Program} {l : Launch} {e : Env} {R : Room} {s : State} {m : MethodId} {args : Array Value} {below : List Frame} {meth : Method} {c : Code} {T : State} {H : Heap} {locs : List Loc} {cells slots : Nat}
theorem vx_callVX (X : Stand p l e R s m args below meth c T locs cells slots) (hexec : p.tables.exec = Jvm.exec) {own C : String} {index : Nat} {y : MethodName} {bytes : ByteArray} {maxL : Nat} {ret : Option FieldType} {hh : List (Nat × Nat × Nat × Nat)}
    (hown : s.vm.findClass own = some m.cls) (hlink : (Cond.methodLink own index y).before args s = true) (hinst : (Cond.instanceMethod y).before args s = true) (hsel : (Cond.selects C y y).before args s = true)
    (hcode : (Cond.codeWith y bytes maxL ret hh).before args s = true) (hy : y.cls ≠ "java/lang/invoke/MethodHandle" ∧ y.cls ≠ "java/lang/invoke/VarHandle")
    {W9 : Nat} {Pre : Pt → Array Value → Prop} {Post : Pt → Array Value → Option Value → Pt → Prop} {PostX : Pt → Array Value → Addr → Pt → Prop} (hK : vx_Back l R p e below s args y 3 W9 Pre Post PostX)
    {b : Addr} {cellB : Cell} (hcell : T.heap[b]? = some cellB) (hobj : cellB.vm.isStatics = false) (hcls : s.vm.findClass C = some cellB.cls)
    {g : JFrame} (hg : g.method = m) (hsize : g.locals.size = c.maxLocals) {argsL rest : List Value} (hlen : ∀ sig, parseMethodDescriptor y.desc = some sig → argsL.length = sig.parameters.length)
    (hstack : g.stack = argsL.reverse ++ .ref b :: rest) (hW : 2 * g.monitorRoom + (rest.map fun v => v.category).sum ≤ W9) (hdg : decode c.code g.pc = .ok (.invokevirtual index, 3))
    (hpre : ∀ vm₁, s.WarmedH vm₁ → Pre ⟨T.setVm vm₁, locs, cells, slots⟩ (Value.ref b :: argsL).toArray) :
    (∃ (v : Option Value) (vm₁ : Vm) (B : Pt), s.WarmedH vm₁ ∧ Stand p l e R s m args below meth c B.U B.locs B.cells B.slots ∧ Post ⟨T.setVm vm₁, locs, cells, slots⟩ (Value.ref b :: argsL).toArray v B ∧
      ∀ target, Steps p.tables e below (B.U.setTop { g with pc := g.pc + 3, stack := v.toList ++ rest }) target → Steps p.tables e below (T.setTop g) target) ∨
    (∃ (q : Addr) (vm₁ : Vm) (B : Pt), s.WarmedH vm₁ ∧ Stand p l e R s m args below meth c B.U B.locs B.cells B.slots ∧ PostX ⟨T.setVm vm₁, locs, cells, slots⟩ (Value.ref b :: argsL).toArray q B ∧
      Steps p.tables e below (T.setTop g) ((B.U.setTop { g with stack := rest }).pushFrame (.throwing q))) := by
  obtain ⟨mk, methM, hnamed, hmethM, hstM, habM⟩ := Cond.instanceMethod_spec hinst
  obtain ⟨m8, methM', cM, hn8, hmethM', -, -, -, -, -, -, hsigM⟩ := Cond.codeWith_spec hcode
  cases Option.some.inj (hn8.symm.trans hnamed)
  cases hmethM.symm.trans hmethM'
  obtain ⟨c2, r2, m2, q1, q2, q3, q4, kP, hkP, hkPi⟩ := Cond.selects_spec hsel
  cases hcls.symm.trans q1
  cases (State.methodFound?_of_named hnamed hy).symm.trans q2
  cases hnamed.symm.trans q3
  have hselP : selectMethod e.platform s.vm cellB.cls mk = .method mk := by rw [Launch.admits_selectMethod X.admits]; exact q4
  obtain ⟨vm₁, X₁, hstep₁⟩ := X.invokevirtual hexec hown hlink hnamed hmethM hstM hkP hkPi hy (a := b) (cell := cellB) hcell
    (fun z h => by rw [h] at hobj; cases hobj) hselP hmethM habM hkP hkPi (g := g) hg (argsL := argsL) (rest := rest) (hlen _ hsigM) hstack hdg
  rcases hK m meth c ⟨T.setVm vm₁, locs, cells, slots⟩ { g with stack := rest } (.invokevirtual index) mk (Value.ref b :: argsL).toArray X₁ hg hsize hdg hW (X₁.named hnamed) (hpre vm₁ X₁.warmed) with ⟨v, B, X', hpost, hsteps⟩ | ⟨q, B, X', hpost, hsteps⟩
  · exact Or.inl ⟨v, vm₁, B, X₁.warmed, X', hpost, fun target h => hstep₁ _ fun acts => by rw [doInvoke_state]; exact hsteps.trans h⟩
  · exact Or.inr ⟨q, vm₁, B, X₁.warmed, X', hpost, hstep₁ _ fun acts => by rw [doInvoke_state]; exact hsteps⟩
theorem vx_callSX (X : Stand p l e R s m args below meth c T locs cells slots) (hexec : p.tables.exec = Jvm.exec) {own : String} {index : Nat} {y : MethodName} {bytes : ByteArray} {maxL : Nat} {ret : Option FieldType} {hh : List (Nat × Nat × Nat × Nat)}
    (hown : s.vm.findClass own = some m.cls) (hlink : (Cond.methodLink own index y).before args s = true) (hstat : (Cond.static y).before args s = true) (hinit : (Cond.initialized y.cls).before args s = true)
    (hcode : (Cond.codeWith y bytes maxL ret hh).before args s = true) (hy : y.cls ≠ "java/lang/invoke/MethodHandle" ∧ y.cls ≠ "java/lang/invoke/VarHandle")
    {W9 : Nat} {Pre : Pt → Array Value → Prop} {Post : Pt → Array Value → Option Value → Pt → Prop} {PostX : Pt → Array Value → Addr → Pt → Prop} (hK : vx_Back l R p e below s args y 3 W9 Pre Post PostX)
    {g : JFrame} (hg : g.method = m) (hsize : g.locals.size = c.maxLocals) {argsL rest : List Value} (hlen : ∀ sig, parseMethodDescriptor y.desc = some sig → argsL.length = sig.parameters.length)
    (hstack : g.stack = argsL.reverse ++ rest) (hW : 2 * g.monitorRoom + (rest.map fun v => v.category).sum ≤ W9) (hdg : decode c.code g.pc = .ok (.invokestatic index, 3))
    (hpre : ∀ vm₁, s.WarmedH vm₁ → Pre ⟨T.setVm vm₁, locs, cells, slots⟩ argsL.toArray) :
    (∃ (v : Option Value) (vm₁ : Vm) (B : Pt), s.WarmedH vm₁ ∧ Stand p l e R s m args below meth c B.U B.locs B.cells B.slots ∧ Post ⟨T.setVm vm₁, locs, cells, slots⟩ argsL.toArray v B ∧
      ∀ target, Steps p.tables e below (B.U.setTop { g with pc := g.pc + 3, stack := v.toList ++ rest }) target → Steps p.tables e below (T.setTop g) target) ∨
    (∃ (q : Addr) (vm₁ : Vm) (B : Pt), s.WarmedH vm₁ ∧ Stand p l e R s m args below meth c B.U B.locs B.cells B.slots ∧ PostX ⟨T.setVm vm₁, locs, cells, slots⟩ argsL.toArray q B ∧
      Steps p.tables e below (T.setTop g) ((B.U.setTop { g with stack := rest }).pushFrame (.throwing q))) := by
  obtain ⟨mk, methM, cM, hnamed, hmethM, -, -, -, -, -, -, hsigM⟩ := Cond.codeWith_spec hcode
  have hstatic : methM.isStatic = true := Cond.static_spec hnamed hmethM hstat
  obtain ⟨kP, hkP, -⟩ := className_of_methodNamed hnamed
  have hinitP : kP.init = .initialized := Cond.initialized_spec (findClass_of_methodNamed hnamed) hkP hinit
  obtain ⟨vm₁, X₁, hstep₁⟩ := X.invokestatic hexec hown hlink hnamed hmethM hstatic hkP hinitP hy (g := g) hg (argsL := argsL) (rest := rest) (hlen _ hsigM) hstack hdg
  rcases hK m meth c ⟨T.setVm vm₁, locs, cells, slots⟩ { g with stack := rest } (.invokestatic index) mk argsL.toArray X₁ hg hsize hdg hW (X₁.named hnamed) (hpre vm₁ X₁.warmed) with ⟨v, B, X', hpost, hsteps⟩ | ⟨q, B, X', hpost, hsteps⟩
  · exact Or.inl ⟨v, vm₁, B, X₁.warmed, X', hpost, fun target h => hstep₁ _ fun acts => by rw [doInvoke_state]; exact hsteps.trans h⟩
  · exact Or.inr ⟨q, vm₁, B, X₁.warmed, X', hpost, hstep₁ _ fun acts => by rw [doInvoke_state]; exact hsteps⟩
theorem vx_callVW (X : Stand p l e R s m args below meth c T locs cells slots) (hexec : p.tables.exec = Jvm.exec) {own C : String} {index : Nat} {y : MethodName} {bytes : ByteArray} {maxL : Nat} {ret : Option FieldType} {hh : List (Nat × Nat × Nat × Nat)}
    (hown : s.vm.findClass own = some m.cls) (hlink : (Cond.methodLink own index y).before args s = true) (hinst : (Cond.instanceMethod y).before args s = true) (hsel : (Cond.selects C y y).before args s = true)
    (hcode : (Cond.codeWith y bytes maxL ret hh).before args s = true) (hy : y.cls ≠ "java/lang/invoke/MethodHandle" ∧ y.cls ≠ "java/lang/invoke/VarHandle")
    {W9 : Nat} {Pre : Pt → Array Value → Prop} {Post : Pt → Array Value → Option Value → Pt → Prop} (hK : Back l R p e below s args y 3 W9 Pre Post)
    {b : Addr} {cellB : Cell} (hcell : T.heap[b]? = some cellB) (hobj : cellB.vm.isStatics = false) (hcls : s.vm.findClass C = some cellB.cls)
    {g : JFrame} (hg : g.method = m) (hsize : g.locals.size = c.maxLocals) {argsL rest : List Value} (hlen : ∀ sig, parseMethodDescriptor y.desc = some sig → argsL.length = sig.parameters.length)
    (hstack : g.stack = argsL.reverse ++ .ref b :: rest) (hW : 2 * g.monitorRoom + (rest.map fun v => v.category).sum ≤ W9) (hdg : decode c.code g.pc = .ok (.invokevirtual index, 3))
    (hpre : ∀ vm₁, s.WarmedH vm₁ → Pre ⟨T.setVm vm₁, locs, cells, slots⟩ (Value.ref b :: argsL).toArray) :
    ∃ (v : Option Value) (vm₁ : Vm) (B : Pt), s.WarmedH vm₁ ∧ Stand p l e R s m args below meth c B.U B.locs B.cells B.slots ∧ Post ⟨T.setVm vm₁, locs, cells, slots⟩ (Value.ref b :: argsL).toArray v B ∧
      ∀ target, Steps p.tables e below (B.U.setTop { g with pc := g.pc + 3, stack := v.toList ++ rest }) target → Steps p.tables e below (T.setTop g) target := by
  obtain ⟨mk, methM, hnamed, hmethM, hstM, habM⟩ := Cond.instanceMethod_spec hinst
  obtain ⟨m8, methM', cM, hn8, hmethM', -, -, -, -, -, -, hsigM⟩ := Cond.codeWith_spec hcode
  cases Option.some.inj (hn8.symm.trans hnamed)
  cases hmethM.symm.trans hmethM'
  obtain ⟨c2, r2, m2, q1, q2, q3, q4, kP, hkP, hkPi⟩ := Cond.selects_spec hsel
  cases hcls.symm.trans q1
  cases (State.methodFound?_of_named hnamed hy).symm.trans q2
  cases hnamed.symm.trans q3
  have hselP : selectMethod e.platform s.vm cellB.cls mk = .method mk := by rw [Launch.admits_selectMethod X.admits]; exact q4
  obtain ⟨vm₁, X₁, hstep₁⟩ := X.invokevirtual hexec hown hlink hnamed hmethM hstM hkP hkPi hy (a := b) (cell := cellB) hcell
    (fun z h => by rw [h] at hobj; cases hobj) hselP hmethM habM hkP hkPi (g := g) hg (argsL := argsL) (rest := rest) (hlen _ hsigM) hstack hdg
  obtain ⟨v, B, X', hpost, hsteps⟩ := hK m meth c ⟨T.setVm vm₁, locs, cells, slots⟩ { g with stack := rest } (.invokevirtual index) mk (Value.ref b :: argsL).toArray X₁ hg hsize hdg hW (X₁.named hnamed) (hpre vm₁ X₁.warmed)
  exact ⟨v, vm₁, B, X₁.warmed, X', hpost, fun target h => hstep₁ _ fun acts => by rw [doInvoke_state]; exact hsteps.trans h⟩
abbrev vx_CVW (R : Room) (s : State) (args : Array Value) (own C : String) (index : Nat) (y : MethodName) (bytes : ByteArray) (maxL : Nat) (ret : Option FieldType) (hh : List (Nat × Nat × Nat × Nat)) (ws : List Cond) (rm : Room) (mc ms n : Nat) : Prop :=
  (rm.cells = mc ∧ rm.slots = ms ∧ rm.frames + 1 ≤ R.frames ∧ 8 + (maxL + 11) + rm.locals ≤ R.locals ∧ (∀ w ∈ ws, ∀ (a' : Array Value) (U : State), s.WarmedH U.vm → w.before a' U = true) ∧ Cond.codeWith y bytes maxL ret hh ∈ ws) ∧
  (Cond.codeWith y bytes maxL ret hh).before args s = true ∧ (Cond.initialized y.cls).before args s = true ∧ (y.cls ≠ "java/lang/invoke/MethodHandle" ∧ y.cls ≠ "java/lang/invoke/VarHandle") ∧
  (∀ sig, parseMethodDescriptor y.desc = some sig → n = sig.parameters.length) ∧ (Cond.methodLink own index y).before args s = true ∧ (Cond.instanceMethod y).before args s = true ∧ (Cond.selects C y y).before args s = true
theorem vx_cwVW {own C : String} {index maxL mc ms : Nat} {y : MethodName} {bytes : ByteArray} {ret : Option FieldType} {hh : List (Nat × Nat × Nat × Nat)} {Ts ws ws' : List Cond} {rm : Room} (n : Nat) (ht : ∀ w ∈ Ts, w.before args s = true) (hT : GoodIn Ts (wsV own index C y ws)) (hw : ws = Cond.codeWith y bytes maxL ret hh :: ws') (hrc : rm.cells = mc) (hrs : rm.slots = ms)
    (hd : y.cls = C ∧ y.cls ≠ "java/lang/invoke/MethodHandle" ∧ y.cls ≠ "java/lang/invoke/VarHandle" ∧ (parseMethodDescriptor y.desc).map (fun d => d.parameters.length) = some n) (hR : rm.frames + 1 ≤ R.frames ∧ 8 + (maxL + 11) + rm.locals ≤ R.locals) :
    vx_CVW R s args own C index y bytes maxL ret hh ws rm mc ms n := by
  obtain ⟨hC, hd⟩ := hd
  subst hC
  have ok : ∀ w ∈ wsV own index y.cls y ws, w.before args s = true := fun w h => ht w (hT w h).1
  have hG : GoodIn Ts ws := fun w h => hT w (by unfold wsV; exact List.mem_append_right _ h)
  have hc : Cond.codeWith y bytes maxL ret hh ∈ ws := by rw [hw]; exact List.mem_cons_self
  refine ⟨⟨hrc, hrs, hR.1, hR.2, pay_in ht hG, hc⟩, ht _ (hG _ hc).1, ok _ (by simp [wsV]), ⟨hd.1, hd.2.1⟩, fun sig h => ?_, ok _ (by simp [wsV]), ok _ (by simp [wsV]), ok _ (by simp [wsV])⟩
  have h2 := hd.2.2
  rw [h] at h2
  exact (Option.some.inj h2).symm
theorem vx_runVW {y : MethodName} {bytes cc : ByteArray} {maxL nL mc ms n index : Nat} {ret : Option FieldType} {hh : List (Nat × Nat × Nat × Nat)} {ws : List Cond} {rm : Room} {Pc : Array Value → State → Prop} {Qc : Array Value → State → Outcome → State → Prop} {free : Addr → Prop} {Ts : List Cond} {own C : String} {b : Addr} {As rest : List Value} {g : JFrame}
    (S : CallFix p m c cc nL s args Ts own) (hM : Met l y ws rm Pc Qc mc ms free) (cw : vx_CVW R s args own C index y bytes maxL ret hh ws rm mc ms n) (hp : PreV s H C b Pc As)
    (hg : g.method = m) (hn : As.length = n) (hsize : g.locals.size = nL) (hstack : g.stack = As.reverse ++ .ref b :: rest) (hW : 2 * g.monitorRoom + (rest.map fun v => v.category).sum ≤ 8) (hdg : decode cc g.pc = .ok (.invokevirtual index, 3)) (hf : cells + mc ≤ R.cells ∧ slots + ms ≤ R.slots) :
    va_Run p l e R s m args below meth c H locs cells slots mc ms g rest (Qc (Value.ref b :: As).toArray) free := by
  obtain ⟨⟨hrc, hrs, hfr, hlo, hws, hcw⟩, hcode, hini, hy, hlen, hl, hin, hse⟩ := cw
  have hK : Back l R p e below s args y 3 8 (PreOf R mc ms Pc) (PostOf Qc mc ms free) := va_backW (hh := hh) (bytes := bytes) (maxL := maxL) (ret := ret) hM hp.1 hrc hrs hfr hlo hws hcw (fun a' U hW => word_at hW (Or.inl (by first | rfl | simp [Cond.onTables, Cond.keeps, Cond.steady])) hini)
  obtain ⟨hx, hb, hml, ho, -⟩ := S
  obtain ⟨-, ⟨cellB, hcB, hoB, hclB⟩, hPc⟩ := hp
  intro T hT X
  obtain ⟨v, vm₁, ⟨U', l2, c2, s2⟩, hW₁, X', ⟨g', mk, t, L, e1, e2, hq, h1, hL, h2, h3⟩, st⟩ := vx_callVW X hx (C := C) (hh := hh) (bytes := bytes) (maxL := maxL) (ret := ret) ho hl hin hse hcode hy hK (by rw [hT]; exact hcB) hoB hclB hg (hsize.trans hml.symm) (argsL := As) (rest := rest) (fun sig h => hn.trans (hlen sig h)) hstack hW (by rw [hb]; exact hdg)
    (fun vm₁ hW₁ => ⟨hf.1, hf.2, hPc (T.setVm vm₁) hT hW₁⟩)
  dsimp only [Pt.U, Pt.locs, Pt.cells, Pt.slots] at X' e1 e2 h1 h2 h3 st
  subst h1; subst h2; subst h3
  exact ⟨v, (T.setVm vm₁).calling g' mk (Value.ref b :: As).toArray, t, U', L, hT, X', hL, e1, e2, hq, st⟩
section
variable {y : MethodName} {bytes cc : ByteArray} {maxL nL mc ms n index : Nat} {ret : Option FieldType} {ws : List Cond} {rm : Room} {Pc : Array Value → State → Prop} {Qc : Array Value → State → Outcome → State → Prop} {XC : String → State → State → Prop} {free : Addr → Prop} {Ts : List Cond} {own C : String} {b : Addr} {As rest : List Value} {g : JFrame}
theorem vx_runVX {hh : List (Nat × Nat × Nat × Nat)} (S : CallFix p m c cc nL s args Ts own) (hM : vx_Met l y ws rm Pc Qc XC mc ms free) (cw : vx_CVW R s args own C index y bytes maxL ret hh ws rm mc ms n) (hp : PreV s H C b Pc As)
    (hg : g.method = m) (hn : As.length = n) (hsize : g.locals.size = nL) (hstack : g.stack = As.reverse ++ .ref b :: rest) (hW : 2 * g.monitorRoom + (rest.map fun v => v.category).sum ≤ 8) (hdg : decode cc g.pc = .ok (.invokevirtual index, 3)) (hf : cells + mc ≤ R.cells ∧ slots + ms ≤ R.slots) :
    vx_Run p l e R s m args below meth c H locs cells slots mc ms g rest (Qc (Value.ref b :: As).toArray) XC free := by
  obtain ⟨⟨hrc, hrs, hfr, hlo, hws, hcw⟩, hcode, hini, hy, hlen, hl, hin, hse⟩ := cw
  have hK : vx_Back l R p e below s args y 3 8 (PreOf R mc ms Pc) (PostOf Qc mc ms free) (vx_Post XC mc ms free) := vx_backW (hh := hh) (bytes := bytes) (maxL := maxL) (ret := ret) hM hp.1 hrc hrs hfr hlo hws hcw (fun a' U hW => word_at hW (Or.inl (by first | rfl | simp [Cond.onTables, Cond.keeps, Cond.steady])) hini)
  obtain ⟨hx, hb, hml, ho, -⟩ := S
  obtain ⟨-, ⟨cellB, hcB, hoB, hclB⟩, hPc⟩ := hp
  intro T hT X
  rcases vx_callVX X hx (C := C) (hh := hh) (bytes := bytes) (maxL := maxL) (ret := ret) ho hl hin hse hcode hy hK (by rw [hT]; exact hcB) hoB hclB hg (hsize.trans hml.symm) (argsL := As) (rest := rest) (fun sig h => hn.trans (hlen sig h)) hstack hW (by rw [hb]; exact hdg)
    (fun vm₁ hW₁ => ⟨hf.1, hf.2, hPc (T.setVm vm₁) hT hW₁⟩) with ⟨v, vm₁, ⟨U', l2, c2, s2⟩, hW₁, X', ⟨g', mk, t, L, e1, e2, hq, h1, hL, h2, h3⟩, st⟩ | ⟨q, vm₁, ⟨U', l2, c2, s2⟩, hW₁, X', ⟨g', mk, t, L, E, ce, e1, e2, hq, hce, hcv, hcl, h1, hL, h2, h3⟩, st⟩
  · dsimp only [Pt.U, Pt.locs, Pt.cells, Pt.slots] at X' e1 e2 h1 h2 h3 st
    subst h1; subst h2; subst h3
    exact Or.inl ⟨v, (T.setVm vm₁).calling g' mk (Value.ref b :: As).toArray, t, U', L, hT, X', hL, e1, e2, hq, st⟩
  · dsimp only [Pt.U, Pt.locs, Pt.cells, Pt.slots] at X' e1 e2 h1 h2 h3 st hcl
    subst h1; subst h2; subst h3
    exact Or.inr ⟨q, (T.setVm vm₁).calling g' mk (Value.ref b :: As).toArray, t, U', L, E, ce, hT, X', hL, e1, e2, hq, hce, hcv, vx_cls hW₁ hcl, st⟩
theorem vx_runSX {hh : List (Nat × Nat × Nat × Nat)} (S : CallFix p m c cc nL s args Ts own) (hM : vx_Met l y ws rm Pc Qc XC mc ms free) (cw : vx_CSW R s args own index y bytes maxL ret hh ws rm mc ms n) (hp : PreS s H Pc As)
    (hg : g.method = m) (hn : As.length = n) (hsize : g.locals.size = nL) (hstack : g.stack = As.reverse ++ rest) (hW : 2 * g.monitorRoom + (rest.map fun v => v.category).sum ≤ 8) (hdg : decode cc g.pc = .ok (.invokestatic index, 3)) (hf : cells + mc ≤ R.cells ∧ slots + ms ≤ R.slots) :
    vx_Run p l e R s m args below meth c H locs cells slots mc ms g rest (Qc As.toArray) XC free := by
  obtain ⟨⟨hrc, hrs, hfr, hlo, hws, hcw⟩, hcode, hini, hy, hlen, hl, hstt⟩ := cw
  have hK : vx_Back l R p e below s args y 3 8 (PreOf R mc ms Pc) (PostOf Qc mc ms free) (vx_Post XC mc ms free) := vx_backW (hh := hh) (bytes := bytes) (maxL := maxL) (ret := ret) hM hp.1 hrc hrs hfr hlo hws hcw (fun a' U hW => word_at hW (Or.inl (by first | rfl | simp [Cond.onTables, Cond.keeps, Cond.steady])) hini)
  obtain ⟨hx, hb, hml, ho, -⟩ := S
  intro T hT X
  rcases vx_callSX X hx (hh := hh) (bytes := bytes) (maxL := maxL) (ret := ret) ho hl hstt hini hcode hy hK hg (hsize.trans hml.symm) (argsL := As) (rest := rest) (fun sig h => hn.trans (hlen sig h)) hstack hW (by rw [hb]; exact hdg)
    (fun vm₁ hW₁ => ⟨hf.1, hf.2, hp.2 (T.setVm vm₁) hT hW₁⟩) with ⟨v, vm₁, ⟨U', l2, c2, s2⟩, hW₁, X', ⟨g', mk, t, L, e1, e2, hq, h1, hL, h2, h3⟩, st⟩ | ⟨q, vm₁, ⟨U', l2, c2, s2⟩, hW₁, X', ⟨g', mk, t, L, E, ce, e1, e2, hq, hce, hcv, hcl, h1, hL, h2, h3⟩, st⟩
  · dsimp only [Pt.U, Pt.locs, Pt.cells, Pt.slots] at X' e1 e2 h1 h2 h3 st
    subst h1; subst h2; subst h3
    exact Or.inl ⟨v, (T.setVm vm₁).calling g' mk As.toArray, t, U', L, hT, X', hL, e1, e2, hq, st⟩
  · dsimp only [Pt.U, Pt.locs, Pt.cells, Pt.slots] at X' e1 e2 h1 h2 h3 st hcl
    subst h1; subst h2; subst h3
    exact Or.inr ⟨q, (T.setVm vm₁).calling g' mk As.toArray, t, U', L, E, ce, hT, X', hL, e1, e2, hq, hce, hcv, vx_cls hW₁ hcl, st⟩
end
end VXH
theorem vx_ofWH {l : Launch} {y : MethodName} {ws ws' : List Cond} {rm : Room} {Pc : Array Value → State → Prop} {Qc : Array Value → State → Outcome → State → Prop} {XC : String → State → State → Prop} {mc ms : Nat} {free : Addr → Prop} {cc : ByteArray} {maxL : Nat} {ret : Option FieldType} {hh : List (Nat × Nat × Nat × Nat)}
    (hy : plainName y.cls = true) (hw : ws = Cond.codeWith y cc maxL ret hh :: ws')
    (body : ∀ p e s m args below meth c s₁, BodyLoose p l y (headSpec ws rm) cc maxL ret e s m args below meth c s₁ → c.maxLocals = maxL → Pc args s →
      W p l e (headSpec ws rm).room s m args below meth c s.heap [] 0 0 (vx_MQ below Qc XC args s mc ms free) (entryFrame m args maxL)) : vx_Met l y ws rm Pc Qc XC mc ms free := by
  refine MetFree.of_bodyS (code := cc) (maxLocals := maxL) (ret := ret) hy ?_ ?_
  · intro args s m h hn
    obtain ⟨m9, meth, c, hn9, h1, h2, h3, h4, -, h5, h6, -⟩ := Cond.codeWith_spec (atoms_spec (ws := ws) h _ (by rw [hw]; exact List.mem_cons_self))
    cases hn.symm.trans hn9
    exact ⟨meth, c, h1, h2, h3, h4, h5, h6⟩
  · intro p e s m args below meth c s₁ B hml hP _
    have hh0 : s₁.heap = s.heap := by rw [B.state]; rfl
    obtain ⟨t, a1, o, b1, b2, b3⟩ := body p e s m args below meth c s₁ B hml hP s₁ hh0 (Stand.of_body B)
    exact ⟨t, o, a1, b1, b2, b3⟩
/-! ===== END ===== -/
end
section
def RX0 : String := "DialectAtlas$Interview"
def TX0 : u_T := fun k => match k with
  | 0 => ("DialectAtlas$Interview", "bit", "J", true)
  | 1 => ("DialectAtlas$Interview", "informant", "I", true)
  | 2 => ("DialectAtlas$Interview", "place", "I", true)
  | 3 => ("DialectAtlas$Interview", "year", "I", true)
  | 4 => ("DialectAtlas$Interview", "word", "I", true)
  | _ => ("DialectAtlas$Interview", "form", "I", true)
def tyX0 : Nat → FieldType := fun k => match k with
  | 0 => .long
  | 1 => .int
  | 2 => .int
  | 3 => .int
  | 4 => .int
  | _ => .int
theorem nmX0 : ∀ a, a < 6 → ∀ b, b < 6 → a ≠ b → (TX0 a).2.1 ≠ (TX0 b).2.1 := by decide +kernel
theorem tyX0_ok : ∀ k, k < 6 → parseFieldDescriptor (TX0 k).2.2.1 = some (tyX0 k) := by decide +kernel
abbrev cX0_init : ByteArray := prog_2_method_1_code
def yX0_init : MethodName := ⟨RX0, "<init>", "(JIIIII)V"⟩
abbrev cX0_isFor : ByteArray := prog_2_method_2_code
def yX0_isFor : MethodName := ⟨RX0, "isFor", "(II)Z"⟩
def RX1 : String := "DialectAtlas$Rule"
def TX1 : u_T := fun k => match k with
  | 0 => ("DialectAtlas$Rule", "sound", "I", true)
  | 1 => ("DialectAtlas$Rule", "to", "I", true)
  | 2 => ("DialectAtlas$Rule", "behind", "I", true)
  | 3 => ("DialectAtlas$Rule", "first", "I", true)
  | 4 => ("DialectAtlas$Rule", "last", "I", true)
  | 5 => ("DialectAtlas$Rule", "year", "I", true)
  | 6 => ("DialectAtlas$Rule", "grounds", "J", false)
  | _ => ("DialectAtlas$Rule", "fallen", "Z", false)
def tyX1 : Nat → FieldType := fun k => match k with
  | 0 => .int
  | 1 => .int
  | 2 => .int
  | 3 => .int
  | 4 => .int
  | 5 => .int
  | 6 => .long
  | _ => .boolean
theorem nmX1 : ∀ a, a < 8 → ∀ b, b < 8 → a ≠ b → (TX1 a).2.1 ≠ (TX1 b).2.1 := by decide +kernel
theorem tyX1_ok : ∀ k, k < 8 → parseFieldDescriptor (TX1 k).2.2.1 = some (tyX1 k) := by decide +kernel
abbrev cX1_init : ByteArray := prog_3_method_1_code
def yX1_init : MethodName := ⟨RX1, "<init>", "(IIIIII)V"⟩
abbrev cX1_restsOn : ByteArray := prog_3_method_2_code
def yX1_restsOn : MethodName := ⟨RX1, "restsOn", "(LDialectAtlas$Interview;)Z"⟩
abbrev cX1_restNoMoreOn : ByteArray := prog_3_method_3_code
def yX1_restNoMoreOn : MethodName := ⟨RX1, "restNoMoreOn", "(J)V"⟩
abbrev cX1_goesAt : ByteArray := prog_3_method_4_code
def yX1_goesAt : MethodName := ⟨RX1, "goesAt", "(II)Z"⟩
abbrev cX1_changes : ByteArray := prog_3_method_5_code
def yX1_changes : MethodName := ⟨RX1, "changes", "(II)Z"⟩
abbrev cX1_applyTo : ByteArray := prog_3_method_6_code
def yX1_applyTo : MethodName := ⟨RX1, "applyTo", "(I)I"⟩
def RX2 : String := "DialectAtlas$StepCounter"
def TX2 : u_T := fun k => match k with
  | _ => ("DialectAtlas$StepCounter", "row", "[I", true)
def tyX2 : Nat → FieldType := fun k => match k with
  | _ => .array .int
theorem nmX2 : ∀ a, a < 1 → ∀ b, b < 1 → a ≠ b → (TX2 a).2.1 ≠ (TX2 b).2.1 := by decide +kernel
theorem tyX2_ok : ∀ k, k < 1 → parseFieldDescriptor (TX2 k).2.2.1 = some (tyX2 k) := by decide +kernel
abbrev cX2_init : ByteArray := prog_4_method_1_code
def yX2_init : MethodName := ⟨RX2, "<init>", "()V"⟩
abbrev cX2_countSteps : ByteArray := prog_4_method_2_code
def yX2_countSteps : MethodName := ⟨RX2, "countSteps", "(II)I"⟩
abbrev cX2_goThrough : ByteArray := prog_4_method_3_code
def yX2_goThrough : MethodName := ⟨RX2, "goThrough", "(II)I"⟩
def RX3 : String := "DialectAtlas"
def TX3 : u_T := fun k => match k with
  | 0 => ("DialectAtlas", "interviews", "Ljava/util/ArrayList;", true)
  | 1 => ("DialectAtlas", "rules", "Ljava/util/ArrayList;", true)
  | 2 => ("DialectAtlas", "quotes", "Ljava/util/ArrayList;", true)
  | 3 => ("DialectAtlas", "roots", "[I", true)
  | 4 => ("DialectAtlas", "keptLines", "[I", true)
  | 5 => ("DialectAtlas", "knownAt", "[J", true)
  | 6 => ("DialectAtlas", "stepCounter", "LDialectAtlas$StepCounter;", true)
  | 7 => ("DialectAtlas", "there", "J", false)
  | 8 => ("DialectAtlas", "draft", "I", false)
  | _ => ("DialectAtlas", "draftLength", "I", false)
def tyX3 : Nat → FieldType := fun k => match k with
  | 0 => .object "java/util/ArrayList"
  | 1 => .object "java/util/ArrayList"
  | 2 => .object "java/util/ArrayList"
  | 3 => .array .int
  | 4 => .array .int
  | 5 => .array .long
  | 6 => .object "DialectAtlas$StepCounter"
  | 7 => .long
  | 8 => .int
  | _ => .int
theorem nmX3 : ∀ a, a < 10 → ∀ b, b < 10 → a ≠ b → (TX3 a).2.1 ≠ (TX3 b).2.1 := by decide +kernel
theorem tyX3_ok : ∀ k, k < 10 → parseFieldDescriptor (TX3 k).2.2.1 = some (tyX3 k) := by decide +kernel
abbrev cX3_init : ByteArray := prog_1_method_1_code
def yX3_init : MethodName := ⟨RX3, "<init>", "()V"⟩
abbrev cX3_sound : ByteArray := prog_1_method_2_code
def yX3_sound : MethodName := ⟨RX3, "sound", "(I)I"⟩
abbrev cX3_interview : ByteArray := prog_1_method_3_code
def yX3_interview : MethodName := ⟨RX3, "interview", "(IIII)I"⟩
abbrev cX3_setRoot : ByteArray := prog_1_method_4_code
def yX3_setRoot : MethodName := ⟨RX3, "setRoot", "(I)I"⟩
abbrev cX3_form : ByteArray := prog_1_method_5_code
def yX3_form : MethodName := ⟨RX3, "form", "(I)I"⟩
abbrev cX3_rule : ByteArray := prog_1_method_6_code
def yX3_rule : MethodName := ⟨RX3, "rule", "(IIIIII)I"⟩
abbrev cX3_rest : ByteArray := prog_1_method_7_code
def yX3_rest : MethodName := ⟨RX3, "rest", "(II)I"⟩
abbrev cX3_stands : ByteArray := prog_1_method_8_code
def yX3_stands : MethodName := ⟨RX3, "stands", "(I)Z"⟩
abbrev cX3_expected : ByteArray := prog_1_method_9_code
def yX3_expected : MethodName := ⟨RX3, "expected", "(III)I"⟩
abbrev cX3_far : ByteArray := prog_1_method_10_code
def yX3_far : MethodName := ⟨RX3, "far", "(I)I"⟩
abbrev cX3_formAt : ByteArray := prog_1_method_11_code
def yX3_formAt : MethodName := ⟨RX3, "formAt", "(II)I"⟩
abbrev cX3_lines : ByteArray := prog_1_method_12_code
def yX3_lines : MethodName := ⟨RX3, "lines", "(I)I"⟩
abbrev cX3_linesByForms : ByteArray := prog_1_method_13_code
def yX3_linesByForms : MethodName := ⟨RX3, "linesByForms", "(I)I"⟩
abbrev cX3_forget : ByteArray := prog_1_method_14_code
def yX3_forget : MethodName := ⟨RX3, "forget", "(I)I"⟩
abbrev cX3_copy : ByteArray := prog_1_method_15_code
def yX3_copy : MethodName := ⟨RX3, "copy", "(I)I"⟩
abbrev cX3_tell : ByteArray := prog_1_method_16_code
def yX3_tell : MethodName := ⟨RX3, "tell", "(I)I"⟩
abbrev cX3_owed : ByteArray := prog_1_method_17_code
def yX3_owed : MethodName := ⟨RX3, "owed", "(I)I"⟩
abbrev cX3_quote : ByteArray := prog_1_method_18_code
def yX3_quote : MethodName := ⟨RX3, "quote", "(I)I"⟩
abbrev cX3_quoted : ByteArray := prog_1_method_19_code
def yX3_quoted : MethodName := ⟨RX3, "quoted", "(I)I"⟩
abbrev cX3_isOutside : ByteArray := prog_1_method_20_code
def yX3_isOutside : MethodName := ⟨RX3, "isOutside", "(II)Z"⟩
abbrev cX3_canStandBehind : ByteArray := prog_1_method_21_code
def yX3_canStandBehind : MethodName := ⟨RX3, "canStandBehind", "(I)Z"⟩
abbrev cX3_takeDraft : ByteArray := prog_1_method_22_code
def yX3_takeDraft : MethodName := ⟨RX3, "takeDraft", "()I"⟩
abbrev cX3_isThere : ByteArray := prog_1_method_23_code
def yX3_isThere : MethodName := ⟨RX3, "isThere", "(LDialectAtlas$Interview;)Z"⟩
abbrev cX3_formIfThere : ByteArray := prog_1_method_24_code
def yX3_formIfThere : MethodName := ⟨RX3, "formIfThere", "(LDialectAtlas$Interview;)I"⟩
abbrev cX3_interviewsOf : ByteArray := prog_1_method_25_code
def yX3_interviewsOf : MethodName := ⟨RX3, "interviewsOf", "(I)J"⟩
abbrev cX3_applyRules : ByteArray := prog_1_method_26_code
def yX3_applyRules : MethodName := ⟨RX3, "applyRules", "(III)I"⟩
abbrev cX3_mostToldForm : ByteArray := prog_1_method_27_code
def yX3_mostToldForm : MethodName := ⟨RX3, "mostToldForm", "(II)I"⟩
abbrev cX3_countLike : ByteArray := prog_1_method_28_code
def yX3_countLike : MethodName := ⟨RX3, "countLike", "(LDialectAtlas$Interview;)I"⟩
abbrev cX3_drawLines : ByteArray := prog_1_method_29_code
def yX3_drawLines : MethodName := ⟨RX3, "drawLines", "(I)I"⟩
def RX4 : String := "DialectAtlasModel"
def TX4 : u_T := fun k => match k with
  | 0 => ("DialectAtlasModel", "thrown", "I", false)
  | 1 => ("DialectAtlasModel", "many", "I", false)
  | 2 => ("DialectAtlasModel", "draft", "[I", true)
  | 3 => ("DialectAtlasModel", "interviews", "I", false)
  | 4 => ("DialectAtlasModel", "informant", "[I", true)
  | 5 => ("DialectAtlasModel", "place", "[I", true)
  | 6 => ("DialectAtlasModel", "year", "[I", true)
  | 7 => ("DialectAtlasModel", "word", "[I", true)
  | 8 => ("DialectAtlasModel", "told", "[I", true)
  | 9 => ("DialectAtlasModel", "gone", "[Z", true)
  | 10 => ("DialectAtlasModel", "root", "[I", true)
  | 11 => ("DialectAtlasModel", "rules", "I", false)
  | 12 => ("DialectAtlasModel", "from", "[I", true)
  | 13 => ("DialectAtlasModel", "to", "[I", true)
  | 14 => ("DialectAtlasModel", "behind", "[I", true)
  | 15 => ("DialectAtlasModel", "first", "[I", true)
  | 16 => ("DialectAtlasModel", "last", "[I", true)
  | 17 => ("DialectAtlasModel", "since", "[I", true)
  | 18 => ("DialectAtlasModel", "fallen", "[Z", true)
  | 19 => ("DialectAtlasModel", "rests", "[J", true)
  | 20 => ("DialectAtlasModel", "copies", "[J", true)
  | 21 => ("DialectAtlasModel", "quotes", "I", false)
  | 22 => ("DialectAtlasModel", "quote", "[I", true)
  | 23 => ("DialectAtlasModel", "row", "[I", true)
  | 24 => ("DialectAtlasModel", "next", "[I", true)
  | 25 => ("DialectAtlasModel", "other", "[I", true)
  | _ => ("DialectAtlasModel", "steps", "[I", true)
def tyX4 : Nat → FieldType := fun k => match k with
  | 0 => .int
  | 1 => .int
  | 2 => .array .int
  | 3 => .int
  | 4 => .array .int
  | 5 => .array .int
  | 6 => .array .int
  | 7 => .array .int
  | 8 => .array .int
  | 9 => .array .boolean
  | 10 => .array .int
  | 11 => .int
  | 12 => .array .int
  | 13 => .array .int
  | 14 => .array .int
  | 15 => .array .int
  | 16 => .array .int
  | 17 => .array .int
  | 18 => .array .boolean
  | 19 => .array .long
  | 20 => .array .long
  | 21 => .int
  | 22 => .array .int
  | 23 => .array .int
  | 24 => .array .int
  | 25 => .array .int
  | _ => .array .int
theorem nmX4 : ∀ a, a < 27 → ∀ b, b < 27 → a ≠ b → (TX4 a).2.1 ≠ (TX4 b).2.1 := by decide +kernel
theorem tyX4_ok : ∀ k, k < 27 → parseFieldDescriptor (TX4 k).2.2.1 = some (tyX4 k) := by decide +kernel
abbrev cX4_init : ByteArray := prog_6_method_1_code
def yX4_init : MethodName := ⟨RX4, "<init>", "()V"⟩
abbrev cX4_thrown : ByteArray := prog_6_method_2_code
def yX4_thrown : MethodName := ⟨RX4, "thrown", "()I"⟩
abbrev cX4_fails : ByteArray := prog_6_method_3_code
def yX4_fails : MethodName := ⟨RX4, "fails", "(I)I"⟩
abbrev cX4_in : ByteArray := prog_6_method_4_code
def yX4_in : MethodName := ⟨RX4, "in", "(III)Z"⟩
abbrev cX4_isPlace : ByteArray := prog_6_method_5_code
def yX4_isPlace : MethodName := ⟨RX4, "isPlace", "(I)Z"⟩
abbrev cX4_isWord : ByteArray := prog_6_method_6_code
def yX4_isWord : MethodName := ⟨RX4, "isWord", "(I)Z"⟩
abbrev cX4_isSound : ByteArray := prog_6_method_7_code
def yX4_isSound : MethodName := ⟨RX4, "isSound", "(I)Z"⟩
abbrev cX4_isSchool : ByteArray := prog_6_method_8_code
def yX4_isSchool : MethodName := ⟨RX4, "isSchool", "(I)Z"⟩
abbrev cX4_isInterview : ByteArray := prog_6_method_9_code
def yX4_isInterview : MethodName := ⟨RX4, "isInterview", "(I)Z"⟩
abbrev cX4_isRule : ByteArray := prog_6_method_10_code
def yX4_isRule : MethodName := ⟨RX4, "isRule", "(I)Z"⟩
abbrev cX4_number : ByteArray := prog_6_method_11_code
def yX4_number : MethodName := ⟨RX4, "number", "([II)I"⟩
abbrev cX4_lays : ByteArray := prog_6_method_12_code
def yX4_lays : MethodName := ⟨RX4, "lays", "(I[I)I"⟩
abbrev cX4_drafted : ByteArray := prog_6_method_13_code
def yX4_drafted : MethodName := ⟨RX4, "drafted", "()I"⟩
abbrev cX4_sound : ByteArray := prog_6_method_14_code
def yX4_sound : MethodName := ⟨RX4, "sound", "(I)I"⟩
abbrev cX4_interview : ByteArray := prog_6_method_15_code
def yX4_interview : MethodName := ⟨RX4, "interview", "(IIII)I"⟩
abbrev cX4_setRoot : ByteArray := prog_6_method_16_code
def yX4_setRoot : MethodName := ⟨RX4, "setRoot", "(I)I"⟩
abbrev cX4_form : ByteArray := prog_6_method_17_code
def yX4_form : MethodName := ⟨RX4, "form", "(I)I"⟩
abbrev cX4_rule : ByteArray := prog_6_method_18_code
def yX4_rule : MethodName := ⟨RX4, "rule", "(IIIIII)I"⟩
abbrev cX4_count : ByteArray := prog_6_method_19_code
def yX4_count : MethodName := ⟨RX4, "count", "(J)I"⟩
abbrev cX4_rest : ByteArray := prog_6_method_20_code
def yX4_rest : MethodName := ⟨RX4, "rest", "(II)I"⟩
abbrev cX4_stands : ByteArray := prog_6_method_21_code
def yX4_stands : MethodName := ⟨RX4, "stands", "(I)Z"⟩
abbrev cX4_applies : ByteArray := prog_6_method_22_code
def yX4_applies : MethodName := ⟨RX4, "applies", "(II)I"⟩
abbrev cX4_expects : ByteArray := prog_6_method_23_code
def yX4_expects : MethodName := ⟨RX4, "expects", "(III)I"⟩
abbrev cX4_expected : ByteArray := prog_6_method_24_code
def yX4_expected : MethodName := ⟨RX4, "expected", "(III)I"⟩
abbrev cX4_distance : ByteArray := prog_6_method_25_code
def yX4_distance : MethodName := ⟨RX4, "distance", "(II)I"⟩
abbrev cX4_far : ByteArray := prog_6_method_26_code
def yX4_far : MethodName := ⟨RX4, "far", "(I)I"⟩
abbrev cX4_most : ByteArray := prog_6_method_27_code
def yX4_most : MethodName := ⟨RX4, "most", "(II)I"⟩
abbrev cX4_formAt : ByteArray := prog_6_method_28_code
def yX4_formAt : MethodName := ⟨RX4, "formAt", "(II)I"⟩
abbrev cX4_drawn : ByteArray := prog_6_method_29_code
def yX4_drawn : MethodName := ⟨RX4, "drawn", "(I)I"⟩
abbrev cX4_lines : ByteArray := prog_6_method_30_code
def yX4_lines : MethodName := ⟨RX4, "lines", "(I)I"⟩
abbrev cX4_linesByForms : ByteArray := prog_6_method_31_code
def yX4_linesByForms : MethodName := ⟨RX4, "linesByForms", "(I)I"⟩
abbrev cX4_forget : ByteArray := prog_6_method_32_code
def yX4_forget : MethodName := ⟨RX4, "forget", "(I)I"⟩
abbrev cX4_there : ByteArray := prog_6_method_33_code
def yX4_there : MethodName := ⟨RX4, "there", "()J"⟩
abbrev cX4_copy : ByteArray := prog_6_method_34_code
def yX4_copy : MethodName := ⟨RX4, "copy", "(I)I"⟩
abbrev cX4_tell : ByteArray := prog_6_method_35_code
def yX4_tell : MethodName := ⟨RX4, "tell", "(I)I"⟩
abbrev cX4_owed : ByteArray := prog_6_method_36_code
def yX4_owed : MethodName := ⟨RX4, "owed", "(I)I"⟩
abbrev cX4_quote : ByteArray := prog_6_method_37_code
def yX4_quote : MethodName := ⟨RX4, "quote", "(I)I"⟩
abbrev cX4_quoted : ByteArray := prog_6_method_38_code
def yX4_quoted : MethodName := ⟨RX4, "quoted", "(I)I"⟩
def RJx145de : String := "java/io/Serializable"
def TJx145de : u_T := fun k => match k with
  | _ => ("", "", "", false)
def tyJx145de : Nat → FieldType := fun k => match k with
  | _ => .int
theorem nmJx145de : ∀ a, a < 0 → ∀ b, b < 0 → a ≠ b → (TJx145de a).2.1 ≠ (TJx145de b).2.1 := by decide +kernel
theorem tyJx145de_ok : ∀ k, k < 0 → parseFieldDescriptor (TJx145de k).2.2.1 = some (tyJx145de k) := by decide +kernel
def RJx8e188 : String := "java/lang/Cloneable"
def TJx8e188 : u_T := fun k => match k with
  | _ => ("", "", "", false)
def tyJx8e188 : Nat → FieldType := fun k => match k with
  | _ => .int
theorem nmJx8e188 : ∀ a, a < 0 → ∀ b, b < 0 → a ≠ b → (TJx8e188 a).2.1 ≠ (TJx8e188 b).2.1 := by decide +kernel
theorem tyJx8e188_ok : ∀ k, k < 0 → parseFieldDescriptor (TJx8e188 k).2.2.1 = some (tyJx8e188 k) := by decide +kernel
def RJxab1ab : String := "java/lang/Iterable"
def TJxab1ab : u_T := fun k => match k with
  | _ => ("", "", "", false)
def tyJxab1ab : Nat → FieldType := fun k => match k with
  | _ => .int
theorem nmJxab1ab : ∀ a, a < 0 → ∀ b, b < 0 → a ≠ b → (TJxab1ab a).2.1 ≠ (TJxab1ab b).2.1 := by decide +kernel
theorem tyJxab1ab_ok : ∀ k, k < 0 → parseFieldDescriptor (TJxab1ab k).2.2.1 = some (tyJxab1ab k) := by decide +kernel
def RJ13 : String := "java/lang/Long"
def TJ13 : u_T := fun k => match k with
  | _ => ("", "", "", false)
def tyJ13 : Nat → FieldType := fun k => match k with
  | _ => .int
theorem nmJ13 : ∀ a, a < 0 → ∀ b, b < 0 → a ≠ b → (TJ13 a).2.1 ≠ (TJ13 b).2.1 := by decide +kernel
theorem tyJ13_ok : ∀ k, k < 0 → parseFieldDescriptor (TJ13 k).2.2.1 = some (tyJ13 k) := by decide +kernel
abbrev cJ13_bitCount_95d88 : ByteArray := prog_14_method_50_code
def yJ13_bitCount_95d88 : MethodName := ⟨RJ13, "bitCount", "(J)I"⟩
def RJ9 : String := "java/lang/Math"
def TJ9 : u_T := fun k => match k with
  | _ => ("", "", "", false)
def tyJ9 : Nat → FieldType := fun k => match k with
  | _ => .int
theorem nmJ9 : ∀ a, a < 0 → ∀ b, b < 0 → a ≠ b → (TJ9 a).2.1 ≠ (TJ9 b).2.1 := by decide +kernel
theorem tyJ9_ok : ∀ k, k < 0 → parseFieldDescriptor (TJ9 k).2.2.1 = some (tyJ9 k) := by decide +kernel
abbrev cJ9_max_7cf53 : ByteArray := prog_15_method_65_code
def yJ9_max_7cf53 : MethodName := ⟨RJ9, "max", "(II)I"⟩
abbrev cJ9_min_7cf53 : ByteArray := prog_15_method_69_code
def yJ9_min_7cf53 : MethodName := ⟨RJ9, "min", "(II)I"⟩
def RJ0 : String := "java/lang/String"
def TJ0 : u_T := fun k => match k with
  | _ => ("", "", "", false)
def tyJ0 : Nat → FieldType := fun k => match k with
  | _ => .int
theorem nmJ0 : ∀ a, a < 0 → ∀ b, b < 0 → a ≠ b → (TJ0 a).2.1 ≠ (TJ0 b).2.1 := by decide +kernel
theorem tyJ0_ok : ∀ k, k < 0 → parseFieldDescriptor (TJ0 k).2.2.1 = some (tyJ0 k) := by decide +kernel
def RJ10 : String := "java/lang/System"
def TJ10 : u_T := fun k => match k with
  | _ => ("", "", "", false)
def tyJ10 : Nat → FieldType := fun k => match k with
  | _ => .int
theorem nmJ10 : ∀ a, a < 0 → ∀ b, b < 0 → a ≠ b → (TJ10 a).2.1 ≠ (TJ10 b).2.1 := by decide +kernel
theorem tyJ10_ok : ∀ k, k < 0 → parseFieldDescriptor (TJ10 k).2.2.1 = some (tyJ10 k) := by decide +kernel
def RJxa1e45 : String := "java/util/AbstractCollection"
def TJxa1e45 : u_T := fun k => match k with
  | _ => ("", "", "", false)
def tyJxa1e45 : Nat → FieldType := fun k => match k with
  | _ => .int
theorem nmJxa1e45 : ∀ a, a < 0 → ∀ b, b < 0 → a ≠ b → (TJxa1e45 a).2.1 ≠ (TJxa1e45 b).2.1 := by decide +kernel
theorem tyJxa1e45_ok : ∀ k, k < 0 → parseFieldDescriptor (TJxa1e45 k).2.2.1 = some (tyJxa1e45 k) := by decide +kernel
abbrev cJxa1e45_init_da8c8 : ByteArray := prog_20_method_1_code
def yJxa1e45_init_da8c8 : MethodName := ⟨RJxa1e45, "<init>", "()V"⟩
def RJxc12de : String := "java/util/AbstractList"
def TJxc12de : u_T := fun k => match k with
  | _ => ("", "", "", false)
def tyJxc12de : Nat → FieldType := fun k => match k with
  | _ => .int
theorem nmJxc12de : ∀ a, a < 0 → ∀ b, b < 0 → a ≠ b → (TJxc12de a).2.1 ≠ (TJxc12de b).2.1 := by decide +kernel
theorem tyJxc12de_ok : ∀ k, k < 0 → parseFieldDescriptor (TJxc12de k).2.2.1 = some (tyJxc12de k) := by decide +kernel
abbrev cJxc12de_init_da8c8 : ByteArray := prog_21_method_1_code
def yJxc12de_init_da8c8 : MethodName := ⟨RJxc12de, "<init>", "()V"⟩
def RJx4a65c : String := "java/util/ArrayList"
def TJx4a65c : u_T := fun k => match k with
  | 0 => ("java/util/AbstractList", "modCount", "I", false)
  | 1 => ("java/util/ArrayList", "elementData", "[Ljava/lang/Object;", false)
  | _ => ("java/util/ArrayList", "size", "I", false)
def tyJx4a65c : Nat → FieldType := fun k => match k with
  | 0 => .int
  | 1 => .array (.object "java/lang/Object")
  | _ => .int
theorem nmJx4a65c : ∀ a, a < 3 → ∀ b, b < 3 → a ≠ b → (TJx4a65c a).2.1 ≠ (TJx4a65c b).2.1 := by decide +kernel
theorem tyJx4a65c_ok : ∀ k, k < 3 → parseFieldDescriptor (TJx4a65c k).2.2.1 = some (tyJx4a65c k) := by decide +kernel
abbrev cJx4a65c_init_da8c8 : ByteArray := prog_22_method_2_code
def yJx4a65c_init_da8c8 : MethodName := ⟨RJx4a65c, "<init>", "()V"⟩
abbrev cJx4a65c_grow_92f84 : ByteArray := prog_22_method_6_code
def yJx4a65c_grow_92f84 : MethodName := ⟨RJx4a65c, "grow", "(I)[Ljava/lang/Object;"⟩
abbrev cJx4a65c_grow_d5877 : ByteArray := prog_22_method_7_code
def yJx4a65c_grow_d5877 : MethodName := ⟨RJx4a65c, "grow", "()[Ljava/lang/Object;"⟩
abbrev cJx4a65c_size_8abf5 : ByteArray := prog_22_method_8_code
def yJx4a65c_size_8abf5 : MethodName := ⟨RJx4a65c, "size", "()I"⟩
abbrev cJx4a65c_elementData_915e3 : ByteArray := prog_22_method_18_code
def yJx4a65c_elementData_915e3 : MethodName := ⟨RJx4a65c, "elementData", "(I)Ljava/lang/Object;"⟩
abbrev cJx4a65c_get_915e3 : ByteArray := prog_22_method_20_code
def yJx4a65c_get_915e3 : MethodName := ⟨RJx4a65c, "get", "(I)Ljava/lang/Object;"⟩
abbrev cJx4a65c_add_72be8 : ByteArray := prog_22_method_24_code
def yJx4a65c_add_72be8 : MethodName := ⟨RJx4a65c, "add", "(Ljava/lang/Object;[Ljava/lang/Object;I)V"⟩
abbrev cJx4a65c_add_9ea2d : ByteArray := prog_22_method_25_code
def yJx4a65c_add_9ea2d : MethodName := ⟨RJx4a65c, "add", "(Ljava/lang/Object;)Z"⟩
def RJ7 : String := "java/util/Arrays"
def TJ7 : u_T := fun k => match k with
  | _ => ("", "", "", false)
def tyJ7 : Nat → FieldType := fun k => match k with
  | _ => .int
theorem nmJ7 : ∀ a, a < 0 → ∀ b, b < 0 → a ≠ b → (TJ7 a).2.1 ≠ (TJ7 b).2.1 := by decide +kernel
theorem tyJ7_ok : ∀ k, k < 0 → parseFieldDescriptor (TJ7 k).2.2.1 = some (tyJ7 k) := by decide +kernel
abbrev cJ7_fill_53178 : ByteArray := prog_23_method_103_code
def yJ7_fill_53178 : MethodName := ⟨RJ7, "fill", "([II)V"⟩
abbrev cJ7_copyOf_1904c : ByteArray := prog_23_method_119_code
def yJ7_copyOf_1904c : MethodName := ⟨RJ7, "copyOf", "([Ljava/lang/Object;I)[Ljava/lang/Object;"⟩
abbrev cJ7_copyOf_6403c : ByteArray := prog_23_method_120_code
def yJ7_copyOf_6403c : MethodName := ⟨RJ7, "copyOf", "([Ljava/lang/Object;ILjava/lang/Class;)[Ljava/lang/Object;"⟩
def RJx5ef63 : String := "java/util/Collection"
def TJx5ef63 : u_T := fun k => match k with
  | _ => ("", "", "", false)
def tyJx5ef63 : Nat → FieldType := fun k => match k with
  | _ => .int
theorem nmJx5ef63 : ∀ a, a < 0 → ∀ b, b < 0 → a ≠ b → (TJx5ef63 a).2.1 ≠ (TJx5ef63 b).2.1 := by decide +kernel
theorem tyJx5ef63_ok : ∀ k, k < 0 → parseFieldDescriptor (TJx5ef63 k).2.2.1 = some (tyJx5ef63 k) := by decide +kernel
def RJxbd725 : String := "java/util/List"
def TJxbd725 : u_T := fun k => match k with
  | _ => ("", "", "", false)
def tyJxbd725 : Nat → FieldType := fun k => match k with
  | _ => .int
theorem nmJxbd725 : ∀ a, a < 0 → ∀ b, b < 0 → a ≠ b → (TJxbd725 a).2.1 ≠ (TJxbd725 b).2.1 := by decide +kernel
theorem tyJxbd725_ok : ∀ k, k < 0 → parseFieldDescriptor (TJxbd725 k).2.2.1 = some (tyJxbd725 k) := by decide +kernel
def RJ15 : String := "java/util/Objects"
def TJ15 : u_T := fun k => match k with
  | _ => ("", "", "", false)
def tyJ15 : Nat → FieldType := fun k => match k with
  | _ => .int
theorem nmJ15 : ∀ a, a < 0 → ∀ b, b < 0 → a ≠ b → (TJ15 a).2.1 ≠ (TJ15 b).2.1 := by decide +kernel
theorem tyJ15_ok : ∀ k, k < 0 → parseFieldDescriptor (TJ15 k).2.2.1 = some (tyJ15 k) := by decide +kernel
abbrev cJ15_checkIndex_7cf53 : ByteArray := prog_26_method_17_code
def yJ15_checkIndex_7cf53 : MethodName := ⟨RJ15, "checkIndex", "(II)I"⟩
def RJxf0a74 : String := "java/util/RandomAccess"
def TJxf0a74 : u_T := fun k => match k with
  | _ => ("", "", "", false)
def tyJxf0a74 : Nat → FieldType := fun k => match k with
  | _ => .int
theorem nmJxf0a74 : ∀ a, a < 0 → ∀ b, b < 0 → a ≠ b → (TJxf0a74 a).2.1 ≠ (TJxf0a74 b).2.1 := by decide +kernel
theorem tyJxf0a74_ok : ∀ k, k < 0 → parseFieldDescriptor (TJxf0a74 k).2.2.1 = some (tyJxf0a74 k) := by decide +kernel
def RJxa66e6 : String := "java/util/SequencedCollection"
def TJxa66e6 : u_T := fun k => match k with
  | _ => ("", "", "", false)
def tyJxa66e6 : Nat → FieldType := fun k => match k with
  | _ => .int
theorem nmJxa66e6 : ∀ a, a < 0 → ∀ b, b < 0 → a ≠ b → (TJxa66e6 a).2.1 ≠ (TJxa66e6 b).2.1 := by decide +kernel
theorem tyJxa66e6_ok : ∀ k, k < 0 → parseFieldDescriptor (TJxa66e6 k).2.2.1 = some (tyJxa66e6 k) := by decide +kernel
def RJ8 : String := "jdk/internal/util/ArraysSupport"
def TJ8 : u_T := fun k => match k with
  | _ => ("", "", "", false)
def tyJ8 : Nat → FieldType := fun k => match k with
  | _ => .int
theorem nmJ8 : ∀ a, a < 0 → ∀ b, b < 0 → a ≠ b → (TJ8 a).2.1 ≠ (TJ8 b).2.1 := by decide +kernel
theorem tyJ8_ok : ∀ k, k < 0 → parseFieldDescriptor (TJ8 k).2.2.1 = some (tyJ8 k) := by decide +kernel
abbrev cJ8_newLength_cabcc : ByteArray := prog_29_method_27_code
def yJ8_newLength_cabcc : MethodName := ⟨RJ8, "newLength", "(III)I"⟩
abbrev cJ8_hugeLength_7cf53 : ByteArray := prog_29_method_28_code
def yJ8_hugeLength_7cf53 : MethodName := ⟨RJ8, "hugeLength", "(II)I"⟩
def RJ3 : String := "jdk/internal/util/Preconditions"
def TJ3 : u_T := fun k => match k with
  | _ => ("", "", "", false)
def tyJ3 : Nat → FieldType := fun k => match k with
  | _ => .int
theorem nmJ3 : ∀ a, a < 0 → ∀ b, b < 0 → a ≠ b → (TJ3 a).2.1 ≠ (TJ3 b).2.1 := by decide +kernel
theorem tyJ3_ok : ∀ k, k < 0 → parseFieldDescriptor (TJ3 k).2.2.1 = some (tyJ3 k) := by decide +kernel
abbrev cJ3_checkIndex_8e157 : ByteArray := prog_30_method_11_code
def yJ3_checkIndex_8e157 : MethodName := ⟨RJ3, "checkIndex", "(IILjava/util/function/BiFunction;)I"⟩
def RL : String := "DialectAtlasLaw"
abbrev cL_sound : ByteArray := method_3_code
def yL_sound : MethodName := ⟨RL, "sound", "(LDialectAtlas;I[J)I"⟩
abbrev cL_interview : ByteArray := method_4_code
def yL_interview : MethodName := ⟨RL, "interview", "(LDialectAtlas;IIII[J)I"⟩
abbrev cL_setRoot : ByteArray := method_5_code
def yL_setRoot : MethodName := ⟨RL, "setRoot", "(LDialectAtlas;I[J)I"⟩
abbrev cL_form : ByteArray := method_6_code
def yL_form : MethodName := ⟨RL, "form", "(LDialectAtlas;I[J)I"⟩
abbrev cL_rule : ByteArray := method_7_code
def yL_rule : MethodName := ⟨RL, "rule", "(LDialectAtlas;IIIIII[J)I"⟩
abbrev cL_rest : ByteArray := method_8_code
def yL_rest : MethodName := ⟨RL, "rest", "(LDialectAtlas;II[J)I"⟩
abbrev cL_stands : ByteArray := method_9_code
def yL_stands : MethodName := ⟨RL, "stands", "(LDialectAtlas;I[J)I"⟩
abbrev cL_expected : ByteArray := method_10_code
def yL_expected : MethodName := ⟨RL, "expected", "(LDialectAtlas;III[J)I"⟩
abbrev cL_far : ByteArray := method_11_code
def yL_far : MethodName := ⟨RL, "far", "(LDialectAtlas;I[J)I"⟩
abbrev cL_formAt : ByteArray := method_12_code
def yL_formAt : MethodName := ⟨RL, "formAt", "(LDialectAtlas;II[J)I"⟩
abbrev cL_lines : ByteArray := method_13_code
def yL_lines : MethodName := ⟨RL, "lines", "(LDialectAtlas;I[J)I"⟩
abbrev cL_linesByForms : ByteArray := method_14_code
def yL_linesByForms : MethodName := ⟨RL, "linesByForms", "(LDialectAtlas;I[J)I"⟩
abbrev cL_forget : ByteArray := method_15_code
def yL_forget : MethodName := ⟨RL, "forget", "(LDialectAtlas;I[J)I"⟩
abbrev cL_copy : ByteArray := method_16_code
def yL_copy : MethodName := ⟨RL, "copy", "(LDialectAtlas;I[J)I"⟩
abbrev cL_tell : ByteArray := method_17_code
def yL_tell : MethodName := ⟨RL, "tell", "(LDialectAtlas;I[J)I"⟩
abbrev cL_owed : ByteArray := method_18_code
def yL_owed : MethodName := ⟨RL, "owed", "(LDialectAtlas;I[J)I"⟩
abbrev cL_quote : ByteArray := method_19_code
def yL_quote : MethodName := ⟨RL, "quote", "(LDialectAtlas;I[J)I"⟩
abbrev cL_quoted : ByteArray := method_20_code
def yL_quoted : MethodName := ⟨RL, "quoted", "(LDialectAtlas;I[J)I"⟩
abbrev cL_law : ByteArray := code
def yL_law : MethodName := ⟨RL, "law", "([I)Z"⟩
abbrev vwCl : List vw_C := [(RJx4a65c, TJx4a65c, 3), (RX0, TX0, 6), (RX1, TX1, 8), (RX2, TX2, 1), (RX3, TX3, 10), (RX4, TX4, 27)]
end
section
theorem dX0_init_0 : decode cX0_init 0 = .ok (.aload_n 0, 1) := by decide +kernel
theorem dX0_init_1 : decode cX0_init 1 = .ok (.invokespecial 1, 3) := by decide +kernel
theorem dX0_init_4 : decode cX0_init 4 = .ok (.aload_n 0, 1) := by decide +kernel
theorem dX0_init_5 : decode cX0_init 5 = .ok (.lload_n 1, 1) := by decide +kernel
theorem dX0_init_6 : decode cX0_init 6 = .ok (.putfield 7, 3) := by decide +kernel
theorem dX0_init_9 : decode cX0_init 9 = .ok (.aload_n 0, 1) := by decide +kernel
theorem dX0_init_10 : decode cX0_init 10 = .ok (.iload_n 3, 1) := by decide +kernel
theorem dX0_init_11 : decode cX0_init 11 = .ok (.putfield 13, 3) := by decide +kernel
theorem dX0_init_14 : decode cX0_init 14 = .ok (.aload_n 0, 1) := by decide +kernel
theorem dX0_init_15 : decode cX0_init 15 = .ok (.iload 4, 2) := by decide +kernel
theorem dX0_init_17 : decode cX0_init 17 = .ok (.putfield 17, 3) := by decide +kernel
theorem dX0_init_20 : decode cX0_init 20 = .ok (.aload_n 0, 1) := by decide +kernel
theorem dX0_init_21 : decode cX0_init 21 = .ok (.iload 5, 2) := by decide +kernel
theorem dX0_init_23 : decode cX0_init 23 = .ok (.putfield 20, 3) := by decide +kernel
theorem dX0_init_26 : decode cX0_init 26 = .ok (.aload_n 0, 1) := by decide +kernel
theorem dX0_init_27 : decode cX0_init 27 = .ok (.iload 6, 2) := by decide +kernel
theorem dX0_init_29 : decode cX0_init 29 = .ok (.putfield 23, 3) := by decide +kernel
theorem dX0_init_32 : decode cX0_init 32 = .ok (.aload_n 0, 1) := by decide +kernel
theorem dX0_init_33 : decode cX0_init 33 = .ok (.iload 7, 2) := by decide +kernel
theorem dX0_init_35 : decode cX0_init 35 = .ok (.putfield 26, 3) := by decide +kernel
theorem dX0_init_38 : decode cX0_init 38 = .ok (.return_, 1) := by decide +kernel
theorem dX0_isFor_0 : decode cX0_isFor 0 = .ok (.aload_n 0, 1) := by decide +kernel
theorem dX0_isFor_1 : decode cX0_isFor 1 = .ok (.getfield 23, 3) := by decide +kernel
theorem dX0_isFor_4 : decode cX0_isFor 4 = .ok (.iload_n 1, 1) := by decide +kernel
theorem dX0_isFor_5 : decode cX0_isFor 5 = .ok (.if_icmp .ne 15, 3) := by decide +kernel
theorem dX0_isFor_8 : decode cX0_isFor 8 = .ok (.aload_n 0, 1) := by decide +kernel
theorem dX0_isFor_9 : decode cX0_isFor 9 = .ok (.getfield 17, 3) := by decide +kernel
theorem dX0_isFor_12 : decode cX0_isFor 12 = .ok (.iload_n 2, 1) := by decide +kernel
theorem dX0_isFor_13 : decode cX0_isFor 13 = .ok (.if_icmp .ne 7, 3) := by decide +kernel
theorem dX0_isFor_16 : decode cX0_isFor 16 = .ok (.iconst 1, 1) := by decide +kernel
theorem dX0_isFor_17 : decode cX0_isFor 17 = .ok (.goto 4, 3) := by decide +kernel
theorem dX0_isFor_20 : decode cX0_isFor 20 = .ok (.iconst 0, 1) := by decide +kernel
theorem dX0_isFor_21 : decode cX0_isFor 21 = .ok (.ireturn, 1) := by decide +kernel
theorem dX1_init_0 : decode cX1_init 0 = .ok (.aload_n 0, 1) := by decide +kernel
theorem dX1_init_1 : decode cX1_init 1 = .ok (.invokespecial 3, 3) := by decide +kernel
theorem dX1_init_4 : decode cX1_init 4 = .ok (.aload_n 0, 1) := by decide +kernel
theorem dX1_init_5 : decode cX1_init 5 = .ok (.lconst 0, 1) := by decide +kernel
theorem dX1_init_6 : decode cX1_init 6 = .ok (.putfield 9, 3) := by decide +kernel
theorem dX1_init_9 : decode cX1_init 9 = .ok (.aload_n 0, 1) := by decide +kernel
theorem dX1_init_10 : decode cX1_init 10 = .ok (.iconst 0, 1) := by decide +kernel
theorem dX1_init_11 : decode cX1_init 11 = .ok (.putfield 15, 3) := by decide +kernel
theorem dX1_init_14 : decode cX1_init 14 = .ok (.aload_n 0, 1) := by decide +kernel
theorem dX1_init_15 : decode cX1_init 15 = .ok (.iload_n 1, 1) := by decide +kernel
theorem dX1_init_16 : decode cX1_init 16 = .ok (.putfield 19, 3) := by decide +kernel
theorem dX1_init_19 : decode cX1_init 19 = .ok (.aload_n 0, 1) := by decide +kernel
theorem dX1_init_20 : decode cX1_init 20 = .ok (.iload_n 2, 1) := by decide +kernel
theorem dX1_init_21 : decode cX1_init 21 = .ok (.putfield 23, 3) := by decide +kernel
theorem dX1_init_24 : decode cX1_init 24 = .ok (.aload_n 0, 1) := by decide +kernel
theorem dX1_init_25 : decode cX1_init 25 = .ok (.iload_n 3, 1) := by decide +kernel
theorem dX1_init_26 : decode cX1_init 26 = .ok (.putfield 26, 3) := by decide +kernel
theorem dX1_init_29 : decode cX1_init 29 = .ok (.aload_n 0, 1) := by decide +kernel
theorem dX1_init_30 : decode cX1_init 30 = .ok (.iload 4, 2) := by decide +kernel
theorem dX1_init_32 : decode cX1_init 32 = .ok (.putfield 29, 3) := by decide +kernel
theorem dX1_init_35 : decode cX1_init 35 = .ok (.aload_n 0, 1) := by decide +kernel
theorem dX1_init_36 : decode cX1_init 36 = .ok (.iload 5, 2) := by decide +kernel
theorem dX1_init_38 : decode cX1_init 38 = .ok (.putfield 32, 3) := by decide +kernel
theorem dX1_init_41 : decode cX1_init 41 = .ok (.aload_n 0, 1) := by decide +kernel
theorem dX1_init_42 : decode cX1_init 42 = .ok (.iload 6, 2) := by decide +kernel
theorem dX1_init_44 : decode cX1_init 44 = .ok (.putfield 35, 3) := by decide +kernel
theorem dX1_init_47 : decode cX1_init 47 = .ok (.return_, 1) := by decide +kernel
theorem dX1_restsOn_0 : decode cX1_restsOn 0 = .ok (.aload_n 0, 1) := by decide +kernel
theorem dX1_restsOn_1 : decode cX1_restsOn 1 = .ok (.getfield 9, 3) := by decide +kernel
theorem dX1_restsOn_4 : decode cX1_restsOn 4 = .ok (.aload_n 1, 1) := by decide +kernel
theorem dX1_restsOn_5 : decode cX1_restsOn 5 = .ok (.getfield 38, 3) := by decide +kernel
theorem dX1_restsOn_8 : decode cX1_restsOn 8 = .ok (.land, 1) := by decide +kernel
theorem dX1_restsOn_9 : decode cX1_restsOn 9 = .ok (.lconst 0, 1) := by decide +kernel
theorem dX1_restsOn_10 : decode cX1_restsOn 10 = .ok (.lcmp, 1) := by decide +kernel
theorem dX1_restsOn_11 : decode cX1_restsOn 11 = .ok (.ifCond .eq 7, 3) := by decide +kernel
theorem dX1_restsOn_14 : decode cX1_restsOn 14 = .ok (.iconst 1, 1) := by decide +kernel
theorem dX1_restsOn_15 : decode cX1_restsOn 15 = .ok (.goto 4, 3) := by decide +kernel
theorem dX1_restsOn_18 : decode cX1_restsOn 18 = .ok (.iconst 0, 1) := by decide +kernel
theorem dX1_restsOn_19 : decode cX1_restsOn 19 = .ok (.ireturn, 1) := by decide +kernel
theorem dX1_restNoMoreOn_0 : decode cX1_restNoMoreOn 0 = .ok (.aload_n 0, 1) := by decide +kernel
theorem dX1_restNoMoreOn_1 : decode cX1_restNoMoreOn 1 = .ok (.getfield 9, 3) := by decide +kernel
theorem dX1_restNoMoreOn_4 : decode cX1_restNoMoreOn 4 = .ok (.lload_n 1, 1) := by decide +kernel
theorem dX1_restNoMoreOn_5 : decode cX1_restNoMoreOn 5 = .ok (.land, 1) := by decide +kernel
theorem dX1_restNoMoreOn_6 : decode cX1_restNoMoreOn 6 = .ok (.lconst 0, 1) := by decide +kernel
theorem dX1_restNoMoreOn_7 : decode cX1_restNoMoreOn 7 = .ok (.lcmp, 1) := by decide +kernel
theorem dX1_restNoMoreOn_8 : decode cX1_restNoMoreOn 8 = .ok (.ifCond .eq 35, 3) := by decide +kernel
theorem dX1_restNoMoreOn_11 : decode cX1_restNoMoreOn 11 = .ok (.aload_n 0, 1) := by decide +kernel
theorem dX1_restNoMoreOn_12 : decode cX1_restNoMoreOn 12 = .ok (.dup, 1) := by decide +kernel
theorem dX1_restNoMoreOn_13 : decode cX1_restNoMoreOn 13 = .ok (.getfield 9, 3) := by decide +kernel
theorem dX1_restNoMoreOn_16 : decode cX1_restNoMoreOn 16 = .ok (.lload_n 1, 1) := by decide +kernel
theorem dX1_restNoMoreOn_17 : decode cX1_restNoMoreOn 17 = .ok (.ldc2_w 43, 3) := by decide +kernel
theorem dX1_restNoMoreOn_20 : decode cX1_restNoMoreOn 20 = .ok (.lxor, 1) := by decide +kernel
theorem dX1_restNoMoreOn_21 : decode cX1_restNoMoreOn 21 = .ok (.land, 1) := by decide +kernel
theorem dX1_restNoMoreOn_22 : decode cX1_restNoMoreOn 22 = .ok (.putfield 9, 3) := by decide +kernel
theorem dX1_restNoMoreOn_25 : decode cX1_restNoMoreOn 25 = .ok (.aload_n 0, 1) := by decide +kernel
theorem dX1_restNoMoreOn_26 : decode cX1_restNoMoreOn 26 = .ok (.aload_n 0, 1) := by decide +kernel
theorem dX1_restNoMoreOn_27 : decode cX1_restNoMoreOn 27 = .ok (.getfield 9, 3) := by decide +kernel
theorem dX1_restNoMoreOn_30 : decode cX1_restNoMoreOn 30 = .ok (.lconst 0, 1) := by decide +kernel
theorem dX1_restNoMoreOn_31 : decode cX1_restNoMoreOn 31 = .ok (.lcmp, 1) := by decide +kernel
theorem dX1_restNoMoreOn_32 : decode cX1_restNoMoreOn 32 = .ok (.ifCond .ne 7, 3) := by decide +kernel
theorem dX1_restNoMoreOn_35 : decode cX1_restNoMoreOn 35 = .ok (.iconst 1, 1) := by decide +kernel
theorem dX1_restNoMoreOn_36 : decode cX1_restNoMoreOn 36 = .ok (.goto 4, 3) := by decide +kernel
theorem dX1_restNoMoreOn_39 : decode cX1_restNoMoreOn 39 = .ok (.iconst 0, 1) := by decide +kernel
theorem dX1_restNoMoreOn_40 : decode cX1_restNoMoreOn 40 = .ok (.putfield 15, 3) := by decide +kernel
theorem dX1_restNoMoreOn_43 : decode cX1_restNoMoreOn 43 = .ok (.return_, 1) := by decide +kernel
theorem dX1_goesAt_0 : decode cX1_goesAt 0 = .ok (.aload_n 0, 1) := by decide +kernel
theorem dX1_goesAt_1 : decode cX1_goesAt 1 = .ok (.getfield 15, 3) := by decide +kernel
theorem dX1_goesAt_4 : decode cX1_goesAt 4 = .ok (.ifCond .ne 31, 3) := by decide +kernel
theorem dX1_goesAt_7 : decode cX1_goesAt 7 = .ok (.aload_n 0, 1) := by decide +kernel
theorem dX1_goesAt_8 : decode cX1_goesAt 8 = .ok (.getfield 29, 3) := by decide +kernel
theorem dX1_goesAt_11 : decode cX1_goesAt 11 = .ok (.iload_n 1, 1) := by decide +kernel
theorem dX1_goesAt_12 : decode cX1_goesAt 12 = .ok (.if_icmp .gt 23, 3) := by decide +kernel
theorem dX1_goesAt_15 : decode cX1_goesAt 15 = .ok (.iload_n 1, 1) := by decide +kernel
theorem dX1_goesAt_16 : decode cX1_goesAt 16 = .ok (.aload_n 0, 1) := by decide +kernel
theorem dX1_goesAt_17 : decode cX1_goesAt 17 = .ok (.getfield 32, 3) := by decide +kernel
theorem dX1_goesAt_20 : decode cX1_goesAt 20 = .ok (.if_icmp .gt 15, 3) := by decide +kernel
theorem dX1_goesAt_23 : decode cX1_goesAt 23 = .ok (.aload_n 0, 1) := by decide +kernel
theorem dX1_goesAt_24 : decode cX1_goesAt 24 = .ok (.getfield 35, 3) := by decide +kernel
theorem dX1_goesAt_27 : decode cX1_goesAt 27 = .ok (.iload_n 2, 1) := by decide +kernel
theorem dX1_goesAt_28 : decode cX1_goesAt 28 = .ok (.if_icmp .gt 7, 3) := by decide +kernel
theorem dX1_goesAt_31 : decode cX1_goesAt 31 = .ok (.iconst 1, 1) := by decide +kernel
theorem dX1_goesAt_32 : decode cX1_goesAt 32 = .ok (.goto 4, 3) := by decide +kernel
theorem dX1_goesAt_35 : decode cX1_goesAt 35 = .ok (.iconst 0, 1) := by decide +kernel
theorem dX1_goesAt_36 : decode cX1_goesAt 36 = .ok (.ireturn, 1) := by decide +kernel
theorem dX1_changes_0 : decode cX1_changes 0 = .ok (.iload_n 1, 1) := by decide +kernel
theorem dX1_changes_1 : decode cX1_changes 1 = .ok (.aload_n 0, 1) := by decide +kernel
theorem dX1_changes_2 : decode cX1_changes 2 = .ok (.getfield 19, 3) := by decide +kernel
theorem dX1_changes_5 : decode cX1_changes 5 = .ok (.if_icmp .ne 24, 3) := by decide +kernel
theorem dX1_changes_8 : decode cX1_changes 8 = .ok (.aload_n 0, 1) := by decide +kernel
theorem dX1_changes_9 : decode cX1_changes 9 = .ok (.getfield 26, 3) := by decide +kernel
theorem dX1_changes_12 : decode cX1_changes 12 = .ok (.bipush 9, 2) := by decide +kernel
theorem dX1_changes_14 : decode cX1_changes 14 = .ok (.if_icmp .eq 11, 3) := by decide +kernel
theorem dX1_changes_17 : decode cX1_changes 17 = .ok (.aload_n 0, 1) := by decide +kernel
theorem dX1_changes_18 : decode cX1_changes 18 = .ok (.getfield 26, 3) := by decide +kernel
theorem dX1_changes_21 : decode cX1_changes 21 = .ok (.iload_n 2, 1) := by decide +kernel
theorem dX1_changes_22 : decode cX1_changes 22 = .ok (.if_icmp .ne 7, 3) := by decide +kernel
theorem dX1_changes_25 : decode cX1_changes 25 = .ok (.iconst 1, 1) := by decide +kernel
theorem dX1_changes_26 : decode cX1_changes 26 = .ok (.goto 4, 3) := by decide +kernel
theorem dX1_changes_29 : decode cX1_changes 29 = .ok (.iconst 0, 1) := by decide +kernel
theorem dX1_changes_30 : decode cX1_changes 30 = .ok (.ireturn, 1) := by decide +kernel
theorem dX1_applyTo_0 : decode cX1_applyTo 0 = .ok (.iconst 0, 1) := by decide +kernel
theorem dX1_applyTo_1 : decode cX1_applyTo 1 = .ok (.istore_n 2, 1) := by decide +kernel
theorem dX1_applyTo_2 : decode cX1_applyTo 2 = .ok (.iconst 1, 1) := by decide +kernel
theorem dX1_applyTo_3 : decode cX1_applyTo 3 = .ok (.istore_n 3, 1) := by decide +kernel
theorem dX1_applyTo_4 : decode cX1_applyTo 4 = .ok (.iload_n 1, 1) := by decide +kernel
theorem dX1_applyTo_5 : decode cX1_applyTo 5 = .ok (.istore 4, 2) := by decide +kernel
theorem dX1_applyTo_7 : decode cX1_applyTo 7 = .ok (.bipush 8, 2) := by decide +kernel
theorem dX1_applyTo_9 : decode cX1_applyTo 9 = .ok (.istore 5, 2) := by decide +kernel
theorem dX1_applyTo_11 : decode cX1_applyTo 11 = .ok (.iconst 0, 1) := by decide +kernel
theorem dX1_applyTo_12 : decode cX1_applyTo 12 = .ok (.istore 6, 2) := by decide +kernel
theorem dX1_applyTo_14 : decode cX1_applyTo 14 = .ok (.iload 6, 2) := by decide +kernel
theorem dX1_applyTo_16 : decode cX1_applyTo 16 = .ok (.bipush 8, 2) := by decide +kernel
theorem dX1_applyTo_18 : decode cX1_applyTo 18 = .ok (.if_icmp .ge 76, 3) := by decide +kernel
theorem dX1_applyTo_21 : decode cX1_applyTo 21 = .ok (.iload 4, 2) := by decide +kernel
theorem dX1_applyTo_23 : decode cX1_applyTo 23 = .ok (.ifCond .le 71, 3) := by decide +kernel
theorem dX1_applyTo_26 : decode cX1_applyTo 26 = .ok (.iload 4, 2) := by decide +kernel
theorem dX1_applyTo_28 : decode cX1_applyTo 28 = .ok (.bipush 9, 2) := by decide +kernel
theorem dX1_applyTo_30 : decode cX1_applyTo 30 = .ok (.irem, 1) := by decide +kernel
theorem dX1_applyTo_31 : decode cX1_applyTo 31 = .ok (.iconst 1, 1) := by decide +kernel
theorem dX1_applyTo_32 : decode cX1_applyTo 32 = .ok (.isub, 1) := by decide +kernel
theorem dX1_applyTo_33 : decode cX1_applyTo 33 = .ok (.istore 7, 2) := by decide +kernel
theorem dX1_applyTo_35 : decode cX1_applyTo 35 = .ok (.aload_n 0, 1) := by decide +kernel
theorem dX1_applyTo_36 : decode cX1_applyTo 36 = .ok (.iload 7, 2) := by decide +kernel
theorem dX1_applyTo_38 : decode cX1_applyTo 38 = .ok (.iload 5, 2) := by decide +kernel
theorem dX1_applyTo_40 : decode cX1_applyTo 40 = .ok (.invokevirtual 45, 3) := by decide +kernel
theorem dX1_applyTo_43 : decode cX1_applyTo 43 = .ok (.ifCond .eq 10, 3) := by decide +kernel
theorem dX1_applyTo_46 : decode cX1_applyTo 46 = .ok (.aload_n 0, 1) := by decide +kernel
theorem dX1_applyTo_47 : decode cX1_applyTo 47 = .ok (.getfield 23, 3) := by decide +kernel
theorem dX1_applyTo_50 : decode cX1_applyTo 50 = .ok (.goto 5, 3) := by decide +kernel
theorem dX1_applyTo_53 : decode cX1_applyTo 53 = .ok (.iload 7, 2) := by decide +kernel
theorem dX1_applyTo_55 : decode cX1_applyTo 55 = .ok (.istore 8, 2) := by decide +kernel
theorem dX1_applyTo_57 : decode cX1_applyTo 57 = .ok (.iload 8, 2) := by decide +kernel
theorem dX1_applyTo_59 : decode cX1_applyTo 59 = .ok (.iconst (-1), 1) := by decide +kernel
theorem dX1_applyTo_60 : decode cX1_applyTo 60 = .ok (.if_icmp .eq 17, 3) := by decide +kernel
theorem dX1_applyTo_63 : decode cX1_applyTo 63 = .ok (.iload_n 2, 1) := by decide +kernel
theorem dX1_applyTo_64 : decode cX1_applyTo 64 = .ok (.iload 8, 2) := by decide +kernel
theorem dX1_applyTo_66 : decode cX1_applyTo 66 = .ok (.iconst 1, 1) := by decide +kernel
theorem dX1_applyTo_67 : decode cX1_applyTo 67 = .ok (.iadd, 1) := by decide +kernel
theorem dX1_applyTo_68 : decode cX1_applyTo 68 = .ok (.iload_n 3, 1) := by decide +kernel
theorem dX1_applyTo_69 : decode cX1_applyTo 69 = .ok (.imul, 1) := by decide +kernel
theorem dX1_applyTo_70 : decode cX1_applyTo 70 = .ok (.iadd, 1) := by decide +kernel
theorem dX1_applyTo_71 : decode cX1_applyTo 71 = .ok (.istore_n 2, 1) := by decide +kernel
theorem dX1_applyTo_72 : decode cX1_applyTo 72 = .ok (.iload_n 3, 1) := by decide +kernel
theorem dX1_applyTo_73 : decode cX1_applyTo 73 = .ok (.bipush 9, 2) := by decide +kernel
theorem dX1_applyTo_75 : decode cX1_applyTo 75 = .ok (.imul, 1) := by decide +kernel
theorem dX1_applyTo_76 : decode cX1_applyTo 76 = .ok (.istore_n 3, 1) := by decide +kernel
theorem dX1_applyTo_77 : decode cX1_applyTo 77 = .ok (.iload 7, 2) := by decide +kernel
theorem dX1_applyTo_79 : decode cX1_applyTo 79 = .ok (.istore 5, 2) := by decide +kernel
theorem dX1_applyTo_81 : decode cX1_applyTo 81 = .ok (.iload 4, 2) := by decide +kernel
theorem dX1_applyTo_83 : decode cX1_applyTo 83 = .ok (.bipush 9, 2) := by decide +kernel
theorem dX1_applyTo_85 : decode cX1_applyTo 85 = .ok (.idiv, 1) := by decide +kernel
theorem dX1_applyTo_86 : decode cX1_applyTo 86 = .ok (.istore 4, 2) := by decide +kernel
theorem dX1_applyTo_88 : decode cX1_applyTo 88 = .ok (.iinc 6 1, 3) := by decide +kernel
theorem dX1_applyTo_91 : decode cX1_applyTo 91 = .ok (.goto (-77), 3) := by decide +kernel
theorem dX1_applyTo_94 : decode cX1_applyTo 94 = .ok (.iload_n 2, 1) := by decide +kernel
theorem dX1_applyTo_95 : decode cX1_applyTo 95 = .ok (.ifCond .ne 7, 3) := by decide +kernel
theorem dX1_applyTo_98 : decode cX1_applyTo 98 = .ok (.iload_n 1, 1) := by decide +kernel
theorem dX1_applyTo_99 : decode cX1_applyTo 99 = .ok (.goto 4, 3) := by decide +kernel
theorem dX1_applyTo_102 : decode cX1_applyTo 102 = .ok (.iload_n 2, 1) := by decide +kernel
theorem dX1_applyTo_103 : decode cX1_applyTo 103 = .ok (.ireturn, 1) := by decide +kernel
theorem dX2_init_0 : decode cX2_init 0 = .ok (.aload_n 0, 1) := by decide +kernel
theorem dX2_init_1 : decode cX2_init 1 = .ok (.invokespecial 3, 3) := by decide +kernel
theorem dX2_init_4 : decode cX2_init 4 = .ok (.aload_n 0, 1) := by decide +kernel
theorem dX2_init_5 : decode cX2_init 5 = .ok (.bipush 9, 2) := by decide +kernel
theorem dX2_init_7 : decode cX2_init 7 = .ok (.newarray .int, 2) := by decide +kernel
theorem dX2_init_9 : decode cX2_init 9 = .ok (.putfield 9, 3) := by decide +kernel
theorem dX2_init_12 : decode cX2_init 12 = .ok (.return_, 1) := by decide +kernel
theorem dX2_countSteps_0 : decode cX2_countSteps 0 = .ok (.iconst 0, 1) := by decide +kernel
theorem dX2_countSteps_1 : decode cX2_countSteps 1 = .ok (.istore_n 3, 1) := by decide +kernel
theorem dX2_countSteps_2 : decode cX2_countSteps 2 = .ok (.iload_n 3, 1) := by decide +kernel
theorem dX2_countSteps_3 : decode cX2_countSteps 3 = .ok (.aload_n 0, 1) := by decide +kernel
theorem dX2_countSteps_4 : decode cX2_countSteps 4 = .ok (.getfield 9, 3) := by decide +kernel
theorem dX2_countSteps_7 : decode cX2_countSteps 7 = .ok (.arraylength, 1) := by decide +kernel
theorem dX2_countSteps_8 : decode cX2_countSteps 8 = .ok (.if_icmp .ge 16, 3) := by decide +kernel
theorem dX2_countSteps_11 : decode cX2_countSteps 11 = .ok (.aload_n 0, 1) := by decide +kernel
theorem dX2_countSteps_12 : decode cX2_countSteps 12 = .ok (.getfield 9, 3) := by decide +kernel
theorem dX2_countSteps_15 : decode cX2_countSteps 15 = .ok (.iload_n 3, 1) := by decide +kernel
theorem dX2_countSteps_16 : decode cX2_countSteps 16 = .ok (.iload_n 3, 1) := by decide +kernel
theorem dX2_countSteps_17 : decode cX2_countSteps 17 = .ok (.iastore, 1) := by decide +kernel
theorem dX2_countSteps_18 : decode cX2_countSteps 18 = .ok (.iinc 3 1, 3) := by decide +kernel
theorem dX2_countSteps_21 : decode cX2_countSteps 21 = .ok (.goto (-19), 3) := by decide +kernel
theorem dX2_countSteps_24 : decode cX2_countSteps 24 = .ok (.iload_n 1, 1) := by decide +kernel
theorem dX2_countSteps_25 : decode cX2_countSteps 25 = .ok (.istore_n 3, 1) := by decide +kernel
theorem dX2_countSteps_26 : decode cX2_countSteps 26 = .ok (.aload_n 0, 1) := by decide +kernel
theorem dX2_countSteps_27 : decode cX2_countSteps 27 = .ok (.getfield 9, 3) := by decide +kernel
theorem dX2_countSteps_30 : decode cX2_countSteps 30 = .ok (.iconst 0, 1) := by decide +kernel
theorem dX2_countSteps_31 : decode cX2_countSteps 31 = .ok (.iaload, 1) := by decide +kernel
theorem dX2_countSteps_32 : decode cX2_countSteps 32 = .ok (.istore 4, 2) := by decide +kernel
theorem dX2_countSteps_34 : decode cX2_countSteps 34 = .ok (.iconst 0, 1) := by decide +kernel
theorem dX2_countSteps_35 : decode cX2_countSteps 35 = .ok (.istore 5, 2) := by decide +kernel
theorem dX2_countSteps_37 : decode cX2_countSteps 37 = .ok (.iload 5, 2) := by decide +kernel
theorem dX2_countSteps_39 : decode cX2_countSteps 39 = .ok (.bipush 8, 2) := by decide +kernel
theorem dX2_countSteps_41 : decode cX2_countSteps 41 = .ok (.if_icmp .ge 29, 3) := by decide +kernel
theorem dX2_countSteps_44 : decode cX2_countSteps 44 = .ok (.iload_n 3, 1) := by decide +kernel
theorem dX2_countSteps_45 : decode cX2_countSteps 45 = .ok (.ifCond .le 25, 3) := by decide +kernel
theorem dX2_countSteps_48 : decode cX2_countSteps 48 = .ok (.aload_n 0, 1) := by decide +kernel
theorem dX2_countSteps_49 : decode cX2_countSteps 49 = .ok (.iload_n 3, 1) := by decide +kernel
theorem dX2_countSteps_50 : decode cX2_countSteps 50 = .ok (.bipush 9, 2) := by decide +kernel
theorem dX2_countSteps_52 : decode cX2_countSteps 52 = .ok (.irem, 1) := by decide +kernel
theorem dX2_countSteps_53 : decode cX2_countSteps 53 = .ok (.iload_n 2, 1) := by decide +kernel
theorem dX2_countSteps_54 : decode cX2_countSteps 54 = .ok (.invokevirtual 15, 3) := by decide +kernel
theorem dX2_countSteps_57 : decode cX2_countSteps 57 = .ok (.istore 4, 2) := by decide +kernel
theorem dX2_countSteps_59 : decode cX2_countSteps 59 = .ok (.iload_n 3, 1) := by decide +kernel
theorem dX2_countSteps_60 : decode cX2_countSteps 60 = .ok (.bipush 9, 2) := by decide +kernel
theorem dX2_countSteps_62 : decode cX2_countSteps 62 = .ok (.idiv, 1) := by decide +kernel
theorem dX2_countSteps_63 : decode cX2_countSteps 63 = .ok (.istore_n 3, 1) := by decide +kernel
theorem dX2_countSteps_64 : decode cX2_countSteps 64 = .ok (.iinc 5 1, 3) := by decide +kernel
theorem dX2_countSteps_67 : decode cX2_countSteps 67 = .ok (.goto (-30), 3) := by decide +kernel
theorem dX2_countSteps_70 : decode cX2_countSteps 70 = .ok (.iload 4, 2) := by decide +kernel
theorem dX2_countSteps_72 : decode cX2_countSteps 72 = .ok (.ireturn, 1) := by decide +kernel
theorem dX2_goThrough_0 : decode cX2_goThrough 0 = .ok (.aload_n 0, 1) := by decide +kernel
theorem dX2_goThrough_1 : decode cX2_goThrough 1 = .ok (.getfield 9, 3) := by decide +kernel
theorem dX2_goThrough_4 : decode cX2_goThrough 4 = .ok (.iconst 0, 1) := by decide +kernel
theorem dX2_goThrough_5 : decode cX2_goThrough 5 = .ok (.iaload, 1) := by decide +kernel
theorem dX2_goThrough_6 : decode cX2_goThrough 6 = .ok (.istore_n 3, 1) := by decide +kernel
theorem dX2_goThrough_7 : decode cX2_goThrough 7 = .ok (.aload_n 0, 1) := by decide +kernel
theorem dX2_goThrough_8 : decode cX2_goThrough 8 = .ok (.getfield 9, 3) := by decide +kernel
theorem dX2_goThrough_11 : decode cX2_goThrough 11 = .ok (.iconst 0, 1) := by decide +kernel
theorem dX2_goThrough_12 : decode cX2_goThrough 12 = .ok (.iload_n 3, 1) := by decide +kernel
theorem dX2_goThrough_13 : decode cX2_goThrough 13 = .ok (.iconst 1, 1) := by decide +kernel
theorem dX2_goThrough_14 : decode cX2_goThrough 14 = .ok (.iadd, 1) := by decide +kernel
theorem dX2_goThrough_15 : decode cX2_goThrough 15 = .ok (.iastore, 1) := by decide +kernel
theorem dX2_goThrough_16 : decode cX2_goThrough 16 = .ok (.aload_n 0, 1) := by decide +kernel
theorem dX2_goThrough_17 : decode cX2_goThrough 17 = .ok (.getfield 9, 3) := by decide +kernel
theorem dX2_goThrough_20 : decode cX2_goThrough 20 = .ok (.iconst 0, 1) := by decide +kernel
theorem dX2_goThrough_21 : decode cX2_goThrough 21 = .ok (.iaload, 1) := by decide +kernel
theorem dX2_goThrough_22 : decode cX2_goThrough 22 = .ok (.istore 4, 2) := by decide +kernel
theorem dX2_goThrough_24 : decode cX2_goThrough 24 = .ok (.iload_n 2, 1) := by decide +kernel
theorem dX2_goThrough_25 : decode cX2_goThrough 25 = .ok (.istore 5, 2) := by decide +kernel
theorem dX2_goThrough_27 : decode cX2_goThrough 27 = .ok (.iconst 1, 1) := by decide +kernel
theorem dX2_goThrough_28 : decode cX2_goThrough 28 = .ok (.istore 6, 2) := by decide +kernel
theorem dX2_goThrough_30 : decode cX2_goThrough 30 = .ok (.iload 6, 2) := by decide +kernel
theorem dX2_goThrough_32 : decode cX2_goThrough 32 = .ok (.aload_n 0, 1) := by decide +kernel
theorem dX2_goThrough_33 : decode cX2_goThrough 33 = .ok (.getfield 9, 3) := by decide +kernel
theorem dX2_goThrough_36 : decode cX2_goThrough 36 = .ok (.arraylength, 1) := by decide +kernel
theorem dX2_goThrough_37 : decode cX2_goThrough 37 = .ok (.if_icmp .ge 78, 3) := by decide +kernel
theorem dX2_goThrough_40 : decode cX2_goThrough 40 = .ok (.iload 5, 2) := by decide +kernel
theorem dX2_goThrough_42 : decode cX2_goThrough 42 = .ok (.ifCond .le 73, 3) := by decide +kernel
theorem dX2_goThrough_45 : decode cX2_goThrough 45 = .ok (.iload 5, 2) := by decide +kernel
theorem dX2_goThrough_47 : decode cX2_goThrough 47 = .ok (.bipush 9, 2) := by decide +kernel
theorem dX2_goThrough_49 : decode cX2_goThrough 49 = .ok (.irem, 1) := by decide +kernel
theorem dX2_goThrough_50 : decode cX2_goThrough 50 = .ok (.iload_n 1, 1) := by decide +kernel
theorem dX2_goThrough_51 : decode cX2_goThrough 51 = .ok (.if_icmp .ne 7, 3) := by decide +kernel
theorem dX2_goThrough_54 : decode cX2_goThrough 54 = .ok (.iload_n 3, 1) := by decide +kernel
theorem dX2_goThrough_55 : decode cX2_goThrough 55 = .ok (.goto 6, 3) := by decide +kernel
theorem dX2_goThrough_58 : decode cX2_goThrough 58 = .ok (.iload_n 3, 1) := by decide +kernel
theorem dX2_goThrough_59 : decode cX2_goThrough 59 = .ok (.iconst 1, 1) := by decide +kernel
theorem dX2_goThrough_60 : decode cX2_goThrough 60 = .ok (.iadd, 1) := by decide +kernel
theorem dX2_goThrough_61 : decode cX2_goThrough 61 = .ok (.istore 7, 2) := by decide +kernel
theorem dX2_goThrough_63 : decode cX2_goThrough 63 = .ok (.aload_n 0, 1) := by decide +kernel
theorem dX2_goThrough_64 : decode cX2_goThrough 64 = .ok (.getfield 9, 3) := by decide +kernel
theorem dX2_goThrough_67 : decode cX2_goThrough 67 = .ok (.iload 6, 2) := by decide +kernel
theorem dX2_goThrough_69 : decode cX2_goThrough 69 = .ok (.iaload, 1) := by decide +kernel
theorem dX2_goThrough_70 : decode cX2_goThrough 70 = .ok (.istore_n 3, 1) := by decide +kernel
theorem dX2_goThrough_71 : decode cX2_goThrough 71 = .ok (.iload 7, 2) := by decide +kernel
theorem dX2_goThrough_73 : decode cX2_goThrough 73 = .ok (.iload_n 3, 1) := by decide +kernel
theorem dX2_goThrough_74 : decode cX2_goThrough 74 = .ok (.aload_n 0, 1) := by decide +kernel
theorem dX2_goThrough_75 : decode cX2_goThrough 75 = .ok (.getfield 9, 3) := by decide +kernel
theorem dX2_goThrough_78 : decode cX2_goThrough 78 = .ok (.iload 6, 2) := by decide +kernel
theorem dX2_goThrough_80 : decode cX2_goThrough 80 = .ok (.iconst 1, 1) := by decide +kernel
theorem dX2_goThrough_81 : decode cX2_goThrough 81 = .ok (.isub, 1) := by decide +kernel
theorem dX2_goThrough_82 : decode cX2_goThrough 82 = .ok (.iaload, 1) := by decide +kernel
theorem dX2_goThrough_83 : decode cX2_goThrough 83 = .ok (.invokestatic 19, 3) := by decide +kernel
theorem dX2_goThrough_86 : decode cX2_goThrough 86 = .ok (.iconst 1, 1) := by decide +kernel
theorem dX2_goThrough_87 : decode cX2_goThrough 87 = .ok (.iadd, 1) := by decide +kernel
theorem dX2_goThrough_88 : decode cX2_goThrough 88 = .ok (.invokestatic 19, 3) := by decide +kernel
theorem dX2_goThrough_91 : decode cX2_goThrough 91 = .ok (.istore 4, 2) := by decide +kernel
theorem dX2_goThrough_93 : decode cX2_goThrough 93 = .ok (.aload_n 0, 1) := by decide +kernel
theorem dX2_goThrough_94 : decode cX2_goThrough 94 = .ok (.getfield 9, 3) := by decide +kernel
theorem dX2_goThrough_97 : decode cX2_goThrough 97 = .ok (.iload 6, 2) := by decide +kernel
theorem dX2_goThrough_99 : decode cX2_goThrough 99 = .ok (.iload 4, 2) := by decide +kernel
theorem dX2_goThrough_101 : decode cX2_goThrough 101 = .ok (.iastore, 1) := by decide +kernel
theorem dX2_goThrough_102 : decode cX2_goThrough 102 = .ok (.iload 5, 2) := by decide +kernel
theorem dX2_goThrough_104 : decode cX2_goThrough 104 = .ok (.bipush 9, 2) := by decide +kernel
theorem dX2_goThrough_106 : decode cX2_goThrough 106 = .ok (.idiv, 1) := by decide +kernel
theorem dX2_goThrough_107 : decode cX2_goThrough 107 = .ok (.istore 5, 2) := by decide +kernel
theorem dX2_goThrough_109 : decode cX2_goThrough 109 = .ok (.iinc 6 1, 3) := by decide +kernel
theorem dX2_goThrough_112 : decode cX2_goThrough 112 = .ok (.goto (-82), 3) := by decide +kernel
theorem dX2_goThrough_115 : decode cX2_goThrough 115 = .ok (.iload 4, 2) := by decide +kernel
theorem dX2_goThrough_117 : decode cX2_goThrough 117 = .ok (.ireturn, 1) := by decide +kernel
theorem dX3_init_0 : decode cX3_init 0 = .ok (.aload_n 0, 1) := by decide +kernel
theorem dX3_init_1 : decode cX3_init 1 = .ok (.invokespecial 1, 3) := by decide +kernel
theorem dX3_init_4 : decode cX3_init 4 = .ok (.aload_n 0, 1) := by decide +kernel
theorem dX3_init_5 : decode cX3_init 5 = .ok (.new 7, 3) := by decide +kernel
theorem dX3_init_8 : decode cX3_init 8 = .ok (.dup, 1) := by decide +kernel
theorem dX3_init_9 : decode cX3_init 9 = .ok (.invokespecial 9, 3) := by decide +kernel
theorem dX3_init_12 : decode cX3_init 12 = .ok (.putfield 10, 3) := by decide +kernel
theorem dX3_init_15 : decode cX3_init 15 = .ok (.aload_n 0, 1) := by decide +kernel
theorem dX3_init_16 : decode cX3_init 16 = .ok (.new 7, 3) := by decide +kernel
theorem dX3_init_19 : decode cX3_init 19 = .ok (.dup, 1) := by decide +kernel
theorem dX3_init_20 : decode cX3_init 20 = .ok (.invokespecial 9, 3) := by decide +kernel
theorem dX3_init_23 : decode cX3_init 23 = .ok (.putfield 16, 3) := by decide +kernel
theorem dX3_init_26 : decode cX3_init 26 = .ok (.aload_n 0, 1) := by decide +kernel
theorem dX3_init_27 : decode cX3_init 27 = .ok (.new 7, 3) := by decide +kernel
theorem dX3_init_30 : decode cX3_init 30 = .ok (.dup, 1) := by decide +kernel
theorem dX3_init_31 : decode cX3_init 31 = .ok (.invokespecial 9, 3) := by decide +kernel
theorem dX3_init_34 : decode cX3_init 34 = .ok (.putfield 19, 3) := by decide +kernel
theorem dX3_init_37 : decode cX3_init 37 = .ok (.aload_n 0, 1) := by decide +kernel
theorem dX3_init_38 : decode cX3_init 38 = .ok (.iconst 4, 1) := by decide +kernel
theorem dX3_init_39 : decode cX3_init 39 = .ok (.newarray .int, 2) := by decide +kernel
theorem dX3_init_41 : decode cX3_init 41 = .ok (.putfield 22, 3) := by decide +kernel
theorem dX3_init_44 : decode cX3_init 44 = .ok (.aload_n 0, 1) := by decide +kernel
theorem dX3_init_45 : decode cX3_init 45 = .ok (.iconst 4, 1) := by decide +kernel
theorem dX3_init_46 : decode cX3_init 46 = .ok (.newarray .int, 2) := by decide +kernel
theorem dX3_init_48 : decode cX3_init 48 = .ok (.putfield 26, 3) := by decide +kernel
theorem dX3_init_51 : decode cX3_init 51 = .ok (.aload_n 0, 1) := by decide +kernel
theorem dX3_init_52 : decode cX3_init 52 = .ok (.iconst 3, 1) := by decide +kernel
theorem dX3_init_53 : decode cX3_init 53 = .ok (.newarray .long, 2) := by decide +kernel
theorem dX3_init_55 : decode cX3_init 55 = .ok (.putfield 29, 3) := by decide +kernel
theorem dX3_init_58 : decode cX3_init 58 = .ok (.aload_n 0, 1) := by decide +kernel
theorem dX3_init_59 : decode cX3_init 59 = .ok (.new 33, 3) := by decide +kernel
theorem dX3_init_62 : decode cX3_init 62 = .ok (.dup, 1) := by decide +kernel
theorem dX3_init_63 : decode cX3_init 63 = .ok (.invokespecial 35, 3) := by decide +kernel
theorem dX3_init_66 : decode cX3_init 66 = .ok (.putfield 36, 3) := by decide +kernel
theorem dX3_init_69 : decode cX3_init 69 = .ok (.aload_n 0, 1) := by decide +kernel
theorem dX3_init_70 : decode cX3_init 70 = .ok (.lconst 0, 1) := by decide +kernel
theorem dX3_init_71 : decode cX3_init 71 = .ok (.putfield 40, 3) := by decide +kernel
theorem dX3_init_74 : decode cX3_init 74 = .ok (.aload_n 0, 1) := by decide +kernel
theorem dX3_init_75 : decode cX3_init 75 = .ok (.iconst 0, 1) := by decide +kernel
theorem dX3_init_76 : decode cX3_init 76 = .ok (.putfield 44, 3) := by decide +kernel
theorem dX3_init_79 : decode cX3_init 79 = .ok (.aload_n 0, 1) := by decide +kernel
theorem dX3_init_80 : decode cX3_init 80 = .ok (.iconst 0, 1) := by decide +kernel
theorem dX3_init_81 : decode cX3_init 81 = .ok (.putfield 48, 3) := by decide +kernel
theorem dX3_init_84 : decode cX3_init 84 = .ok (.aload_n 0, 1) := by decide +kernel
theorem dX3_init_85 : decode cX3_init 85 = .ok (.getfield 22, 3) := by decide +kernel
theorem dX3_init_88 : decode cX3_init 88 = .ok (.iconst (-1), 1) := by decide +kernel
theorem dX3_init_89 : decode cX3_init 89 = .ok (.invokestatic 51, 3) := by decide +kernel
theorem dX3_init_92 : decode cX3_init 92 = .ok (.return_, 1) := by decide +kernel
theorem dX3_sound_0 : decode cX3_sound 0 = .ok (.iload_n 1, 1) := by decide +kernel
theorem dX3_sound_1 : decode cX3_sound 1 = .ok (.bipush 8, 2) := by decide +kernel
theorem dX3_sound_3 : decode cX3_sound 3 = .ok (.invokestatic 57, 3) := by decide +kernel
theorem dX3_sound_6 : decode cX3_sound 6 = .ok (.ifCond .eq 13, 3) := by decide +kernel
theorem dX3_sound_9 : decode cX3_sound 9 = .ok (.new 61, 3) := by decide +kernel
theorem dX3_sound_12 : decode cX3_sound 12 = .ok (.dup, 1) := by decide +kernel
theorem dX3_sound_13 : decode cX3_sound 13 = .ok (.ldc 63, 2) := by decide +kernel
theorem dX3_sound_15 : decode cX3_sound 15 = .ok (.invokespecial 65, 3) := by decide +kernel
theorem dX3_sound_18 : decode cX3_sound 18 = .ok (.athrow, 1) := by decide +kernel
theorem dX3_sound_19 : decode cX3_sound 19 = .ok (.aload_n 0, 1) := by decide +kernel
theorem dX3_sound_20 : decode cX3_sound 20 = .ok (.getfield 48, 3) := by decide +kernel
theorem dX3_sound_23 : decode cX3_sound 23 = .ok (.bipush 8, 2) := by decide +kernel
theorem dX3_sound_25 : decode cX3_sound 25 = .ok (.if_icmp .lt 13, 3) := by decide +kernel
theorem dX3_sound_28 : decode cX3_sound 28 = .ok (.new 68, 3) := by decide +kernel
theorem dX3_sound_31 : decode cX3_sound 31 = .ok (.dup, 1) := by decide +kernel
theorem dX3_sound_32 : decode cX3_sound 32 = .ok (.ldc 70, 2) := by decide +kernel
theorem dX3_sound_34 : decode cX3_sound 34 = .ok (.invokespecial 72, 3) := by decide +kernel
theorem dX3_sound_37 : decode cX3_sound 37 = .ok (.athrow, 1) := by decide +kernel
theorem dX3_sound_38 : decode cX3_sound 38 = .ok (.aload_n 0, 1) := by decide +kernel
theorem dX3_sound_39 : decode cX3_sound 39 = .ok (.aload_n 0, 1) := by decide +kernel
theorem dX3_sound_40 : decode cX3_sound 40 = .ok (.getfield 44, 3) := by decide +kernel
theorem dX3_sound_43 : decode cX3_sound 43 = .ok (.bipush 9, 2) := by decide +kernel
theorem dX3_sound_45 : decode cX3_sound 45 = .ok (.imul, 1) := by decide +kernel
theorem dX3_sound_46 : decode cX3_sound 46 = .ok (.iload_n 1, 1) := by decide +kernel
theorem dX3_sound_47 : decode cX3_sound 47 = .ok (.iadd, 1) := by decide +kernel
theorem dX3_sound_48 : decode cX3_sound 48 = .ok (.iconst 1, 1) := by decide +kernel
theorem dX3_sound_49 : decode cX3_sound 49 = .ok (.iadd, 1) := by decide +kernel
theorem dX3_sound_50 : decode cX3_sound 50 = .ok (.putfield 44, 3) := by decide +kernel
theorem dX3_sound_53 : decode cX3_sound 53 = .ok (.aload_n 0, 1) := by decide +kernel
theorem dX3_sound_54 : decode cX3_sound 54 = .ok (.dup, 1) := by decide +kernel
theorem dX3_sound_55 : decode cX3_sound 55 = .ok (.getfield 48, 3) := by decide +kernel
theorem dX3_sound_58 : decode cX3_sound 58 = .ok (.iconst 1, 1) := by decide +kernel
theorem dX3_sound_59 : decode cX3_sound 59 = .ok (.iadd, 1) := by decide +kernel
theorem dX3_sound_60 : decode cX3_sound 60 = .ok (.putfield 48, 3) := by decide +kernel
theorem dX3_sound_63 : decode cX3_sound 63 = .ok (.aload_n 0, 1) := by decide +kernel
theorem dX3_sound_64 : decode cX3_sound 64 = .ok (.getfield 48, 3) := by decide +kernel
theorem dX3_sound_67 : decode cX3_sound 67 = .ok (.ireturn, 1) := by decide +kernel
theorem dX3_interview_0 : decode cX3_interview 0 = .ok (.iload_n 1, 1) := by decide +kernel
theorem dX3_interview_1 : decode cX3_interview 1 = .ok (.bipush 8, 2) := by decide +kernel
theorem dX3_interview_3 : decode cX3_interview 3 = .ok (.invokestatic 57, 3) := by decide +kernel
theorem dX3_interview_6 : decode cX3_interview 6 = .ok (.ifCond .ne 21, 3) := by decide +kernel
theorem dX3_interview_9 : decode cX3_interview 9 = .ok (.iload_n 2, 1) := by decide +kernel
theorem dX3_interview_10 : decode cX3_interview 10 = .ok (.bipush 10, 2) := by decide +kernel
theorem dX3_interview_12 : decode cX3_interview 12 = .ok (.invokestatic 57, 3) := by decide +kernel
theorem dX3_interview_15 : decode cX3_interview 15 = .ok (.ifCond .ne 12, 3) := by decide +kernel
theorem dX3_interview_18 : decode cX3_interview 18 = .ok (.iload 4, 2) := by decide +kernel
theorem dX3_interview_20 : decode cX3_interview 20 = .ok (.iconst 4, 1) := by decide +kernel
theorem dX3_interview_21 : decode cX3_interview 21 = .ok (.invokestatic 57, 3) := by decide +kernel
theorem dX3_interview_24 : decode cX3_interview 24 = .ok (.ifCond .eq 13, 3) := by decide +kernel
theorem dX3_interview_27 : decode cX3_interview 27 = .ok (.new 61, 3) := by decide +kernel
theorem dX3_interview_30 : decode cX3_interview 30 = .ok (.dup, 1) := by decide +kernel
theorem dX3_interview_31 : decode cX3_interview 31 = .ok (.ldc 73, 2) := by decide +kernel
theorem dX3_interview_33 : decode cX3_interview 33 = .ok (.invokespecial 65, 3) := by decide +kernel
theorem dX3_interview_36 : decode cX3_interview 36 = .ok (.athrow, 1) := by decide +kernel
theorem dX3_interview_37 : decode cX3_interview 37 = .ok (.iload_n 3, 1) := by decide +kernel
theorem dX3_interview_38 : decode cX3_interview 38 = .ok (.sipush 301, 3) := by decide +kernel
theorem dX3_interview_41 : decode cX3_interview 41 = .ok (.invokestatic 57, 3) := by decide +kernel
theorem dX3_interview_44 : decode cX3_interview 44 = .ok (.ifCond .eq 13, 3) := by decide +kernel
theorem dX3_interview_47 : decode cX3_interview 47 = .ok (.new 75, 3) := by decide +kernel
theorem dX3_interview_50 : decode cX3_interview 50 = .ok (.dup, 1) := by decide +kernel
theorem dX3_interview_51 : decode cX3_interview 51 = .ok (.ldc 77, 2) := by decide +kernel
theorem dX3_interview_53 : decode cX3_interview 53 = .ok (.invokespecial 79, 3) := by decide +kernel
theorem dX3_interview_56 : decode cX3_interview 56 = .ok (.athrow, 1) := by decide +kernel
theorem dX3_interview_57 : decode cX3_interview 57 = .ok (.aload_n 0, 1) := by decide +kernel
theorem dX3_interview_58 : decode cX3_interview 58 = .ok (.getfield 10, 3) := by decide +kernel
theorem dX3_interview_61 : decode cX3_interview 61 = .ok (.invokevirtual 80, 3) := by decide +kernel
theorem dX3_interview_64 : decode cX3_interview 64 = .ok (.istore 5, 2) := by decide +kernel
theorem dX3_interview_66 : decode cX3_interview 66 = .ok (.aload_n 0, 1) := by decide +kernel
theorem dX3_interview_67 : decode cX3_interview 67 = .ok (.getfield 48, 3) := by decide +kernel
theorem dX3_interview_70 : decode cX3_interview 70 = .ok (.ifCond .eq 10, 3) := by decide +kernel
theorem dX3_interview_73 : decode cX3_interview 73 = .ok (.iload 5, 2) := by decide +kernel
theorem dX3_interview_75 : decode cX3_interview 75 = .ok (.bipush 40, 2) := by decide +kernel
theorem dX3_interview_77 : decode cX3_interview 77 = .ok (.if_icmp .lt 13, 3) := by decide +kernel
theorem dX3_interview_80 : decode cX3_interview 80 = .ok (.new 68, 3) := by decide +kernel
theorem dX3_interview_83 : decode cX3_interview 83 = .ok (.dup, 1) := by decide +kernel
theorem dX3_interview_84 : decode cX3_interview 84 = .ok (.ldc 84, 2) := by decide +kernel
theorem dX3_interview_86 : decode cX3_interview 86 = .ok (.invokespecial 72, 3) := by decide +kernel
theorem dX3_interview_89 : decode cX3_interview 89 = .ok (.athrow, 1) := by decide +kernel
theorem dX3_interview_90 : decode cX3_interview 90 = .ok (.lconst 1, 1) := by decide +kernel
theorem dX3_interview_91 : decode cX3_interview 91 = .ok (.iload 5, 2) := by decide +kernel
theorem dX3_interview_93 : decode cX3_interview 93 = .ok (.lshl, 1) := by decide +kernel
theorem dX3_interview_94 : decode cX3_interview 94 = .ok (.lstore 6, 2) := by decide +kernel
theorem dX3_interview_96 : decode cX3_interview 96 = .ok (.aload_n 0, 1) := by decide +kernel
theorem dX3_interview_97 : decode cX3_interview 97 = .ok (.getfield 10, 3) := by decide +kernel
theorem dX3_interview_100 : decode cX3_interview 100 = .ok (.new 86, 3) := by decide +kernel
theorem dX3_interview_103 : decode cX3_interview 103 = .ok (.dup, 1) := by decide +kernel
theorem dX3_interview_104 : decode cX3_interview 104 = .ok (.lload 6, 2) := by decide +kernel
theorem dX3_interview_106 : decode cX3_interview 106 = .ok (.iload_n 1, 1) := by decide +kernel
theorem dX3_interview_107 : decode cX3_interview 107 = .ok (.iload_n 2, 1) := by decide +kernel
theorem dX3_interview_108 : decode cX3_interview 108 = .ok (.iload_n 3, 1) := by decide +kernel
theorem dX3_interview_109 : decode cX3_interview 109 = .ok (.iload 4, 2) := by decide +kernel
theorem dX3_interview_111 : decode cX3_interview 111 = .ok (.aload_n 0, 1) := by decide +kernel
theorem dX3_interview_112 : decode cX3_interview 112 = .ok (.invokevirtual 88, 3) := by decide +kernel
theorem dX3_interview_115 : decode cX3_interview 115 = .ok (.invokespecial 91, 3) := by decide +kernel
theorem dX3_interview_118 : decode cX3_interview 118 = .ok (.invokevirtual 94, 3) := by decide +kernel
theorem dX3_interview_121 : decode cX3_interview 121 = .ok (.pop, 1) := by decide +kernel
theorem dX3_interview_122 : decode cX3_interview 122 = .ok (.aload_n 0, 1) := by decide +kernel
theorem dX3_interview_123 : decode cX3_interview 123 = .ok (.dup, 1) := by decide +kernel
theorem dX3_interview_124 : decode cX3_interview 124 = .ok (.getfield 40, 3) := by decide +kernel
theorem dX3_interview_127 : decode cX3_interview 127 = .ok (.lload 6, 2) := by decide +kernel
theorem dX3_interview_129 : decode cX3_interview 129 = .ok (.lor, 1) := by decide +kernel
theorem dX3_interview_130 : decode cX3_interview 130 = .ok (.putfield 40, 3) := by decide +kernel
theorem dX3_interview_133 : decode cX3_interview 133 = .ok (.aload_n 0, 1) := by decide +kernel
theorem dX3_interview_134 : decode cX3_interview 134 = .ok (.getfield 26, 3) := by decide +kernel
theorem dX3_interview_137 : decode cX3_interview 137 = .ok (.iload 4, 2) := by decide +kernel
theorem dX3_interview_139 : decode cX3_interview 139 = .ok (.aload_n 0, 1) := by decide +kernel
theorem dX3_interview_140 : decode cX3_interview 140 = .ok (.iload 4, 2) := by decide +kernel
theorem dX3_interview_142 : decode cX3_interview 142 = .ok (.invokevirtual 98, 3) := by decide +kernel
theorem dX3_interview_145 : decode cX3_interview 145 = .ok (.iastore, 1) := by decide +kernel
theorem dX3_interview_146 : decode cX3_interview 146 = .ok (.iload 5, 2) := by decide +kernel
theorem dX3_interview_148 : decode cX3_interview 148 = .ok (.ireturn, 1) := by decide +kernel
theorem dX3_setRoot_0 : decode cX3_setRoot 0 = .ok (.iload_n 1, 1) := by decide +kernel
theorem dX3_setRoot_1 : decode cX3_setRoot 1 = .ok (.iconst 4, 1) := by decide +kernel
theorem dX3_setRoot_2 : decode cX3_setRoot 2 = .ok (.invokestatic 57, 3) := by decide +kernel
theorem dX3_setRoot_5 : decode cX3_setRoot 5 = .ok (.ifCond .eq 13, 3) := by decide +kernel
theorem dX3_setRoot_8 : decode cX3_setRoot 8 = .ok (.new 61, 3) := by decide +kernel
theorem dX3_setRoot_11 : decode cX3_setRoot 11 = .ok (.dup, 1) := by decide +kernel
theorem dX3_setRoot_12 : decode cX3_setRoot 12 = .ok (.ldc 102, 2) := by decide +kernel
theorem dX3_setRoot_14 : decode cX3_setRoot 14 = .ok (.invokespecial 65, 3) := by decide +kernel
theorem dX3_setRoot_17 : decode cX3_setRoot 17 = .ok (.athrow, 1) := by decide +kernel
theorem dX3_setRoot_18 : decode cX3_setRoot 18 = .ok (.aload_n 0, 1) := by decide +kernel
theorem dX3_setRoot_19 : decode cX3_setRoot 19 = .ok (.getfield 48, 3) := by decide +kernel
theorem dX3_setRoot_22 : decode cX3_setRoot 22 = .ok (.ifCond .ne 13, 3) := by decide +kernel
theorem dX3_setRoot_25 : decode cX3_setRoot 25 = .ok (.new 68, 3) := by decide +kernel
theorem dX3_setRoot_28 : decode cX3_setRoot 28 = .ok (.dup, 1) := by decide +kernel
theorem dX3_setRoot_29 : decode cX3_setRoot 29 = .ok (.ldc 104, 2) := by decide +kernel
theorem dX3_setRoot_31 : decode cX3_setRoot 31 = .ok (.invokespecial 72, 3) := by decide +kernel
theorem dX3_setRoot_34 : decode cX3_setRoot 34 = .ok (.athrow, 1) := by decide +kernel
theorem dX3_setRoot_35 : decode cX3_setRoot 35 = .ok (.aload_n 0, 1) := by decide +kernel
theorem dX3_setRoot_36 : decode cX3_setRoot 36 = .ok (.getfield 22, 3) := by decide +kernel
theorem dX3_setRoot_39 : decode cX3_setRoot 39 = .ok (.iload_n 1, 1) := by decide +kernel
theorem dX3_setRoot_40 : decode cX3_setRoot 40 = .ok (.iaload, 1) := by decide +kernel
theorem dX3_setRoot_41 : decode cX3_setRoot 41 = .ok (.istore_n 2, 1) := by decide +kernel
theorem dX3_setRoot_42 : decode cX3_setRoot 42 = .ok (.aload_n 0, 1) := by decide +kernel
theorem dX3_setRoot_43 : decode cX3_setRoot 43 = .ok (.getfield 22, 3) := by decide +kernel
theorem dX3_setRoot_46 : decode cX3_setRoot 46 = .ok (.iload_n 1, 1) := by decide +kernel
theorem dX3_setRoot_47 : decode cX3_setRoot 47 = .ok (.aload_n 0, 1) := by decide +kernel
theorem dX3_setRoot_48 : decode cX3_setRoot 48 = .ok (.invokevirtual 88, 3) := by decide +kernel
theorem dX3_setRoot_51 : decode cX3_setRoot 51 = .ok (.iastore, 1) := by decide +kernel
theorem dX3_setRoot_52 : decode cX3_setRoot 52 = .ok (.iload_n 2, 1) := by decide +kernel
theorem dX3_setRoot_53 : decode cX3_setRoot 53 = .ok (.ireturn, 1) := by decide +kernel
theorem dX3_form_0 : decode cX3_form 0 = .ok (.iload_n 1, 1) := by decide +kernel
theorem dX3_form_1 : decode cX3_form 1 = .ok (.aload_n 0, 1) := by decide +kernel
theorem dX3_form_2 : decode cX3_form 2 = .ok (.getfield 10, 3) := by decide +kernel
theorem dX3_form_5 : decode cX3_form 5 = .ok (.invokevirtual 80, 3) := by decide +kernel
theorem dX3_form_8 : decode cX3_form 8 = .ok (.invokestatic 57, 3) := by decide +kernel
theorem dX3_form_11 : decode cX3_form 11 = .ok (.ifCond .eq 13, 3) := by decide +kernel
theorem dX3_form_14 : decode cX3_form 14 = .ok (.new 61, 3) := by decide +kernel
theorem dX3_form_17 : decode cX3_form 17 = .ok (.dup, 1) := by decide +kernel
theorem dX3_form_18 : decode cX3_form 18 = .ok (.ldc 106, 2) := by decide +kernel
theorem dX3_form_20 : decode cX3_form 20 = .ok (.invokespecial 65, 3) := by decide +kernel
theorem dX3_form_23 : decode cX3_form 23 = .ok (.athrow, 1) := by decide +kernel
theorem dX3_form_24 : decode cX3_form 24 = .ok (.aload_n 0, 1) := by decide +kernel
theorem dX3_form_25 : decode cX3_form 25 = .ok (.aload_n 0, 1) := by decide +kernel
theorem dX3_form_26 : decode cX3_form 26 = .ok (.getfield 10, 3) := by decide +kernel
theorem dX3_form_29 : decode cX3_form 29 = .ok (.iload_n 1, 1) := by decide +kernel
theorem dX3_form_30 : decode cX3_form 30 = .ok (.invokevirtual 108, 3) := by decide +kernel
theorem dX3_form_33 : decode cX3_form 33 = .ok (.checkcast 86, 3) := by decide +kernel
theorem dX3_form_36 : decode cX3_form 36 = .ok (.invokevirtual 112, 3) := by decide +kernel
theorem dX3_form_39 : decode cX3_form 39 = .ok (.ireturn, 1) := by decide +kernel
theorem dX3_rule_0 : decode cX3_rule 0 = .ok (.iload_n 1, 1) := by decide +kernel
theorem dX3_rule_1 : decode cX3_rule 1 = .ok (.bipush 8, 2) := by decide +kernel
theorem dX3_rule_3 : decode cX3_rule 3 = .ok (.invokestatic 57, 3) := by decide +kernel
theorem dX3_rule_6 : decode cX3_rule 6 = .ok (.ifCond .ne 23, 3) := by decide +kernel
theorem dX3_rule_9 : decode cX3_rule 9 = .ok (.iload 4, 2) := by decide +kernel
theorem dX3_rule_11 : decode cX3_rule 11 = .ok (.bipush 10, 2) := by decide +kernel
theorem dX3_rule_13 : decode cX3_rule 13 = .ok (.invokestatic 57, 3) := by decide +kernel
theorem dX3_rule_16 : decode cX3_rule 16 = .ok (.ifCond .ne 13, 3) := by decide +kernel
theorem dX3_rule_19 : decode cX3_rule 19 = .ok (.iload 5, 2) := by decide +kernel
theorem dX3_rule_21 : decode cX3_rule 21 = .ok (.bipush 10, 2) := by decide +kernel
theorem dX3_rule_23 : decode cX3_rule 23 = .ok (.invokestatic 57, 3) := by decide +kernel
theorem dX3_rule_26 : decode cX3_rule 26 = .ok (.ifCond .eq 13, 3) := by decide +kernel
theorem dX3_rule_29 : decode cX3_rule 29 = .ok (.new 61, 3) := by decide +kernel
theorem dX3_rule_32 : decode cX3_rule 32 = .ok (.dup, 1) := by decide +kernel
theorem dX3_rule_33 : decode cX3_rule 33 = .ok (.ldc 116, 2) := by decide +kernel
theorem dX3_rule_35 : decode cX3_rule 35 = .ok (.invokespecial 65, 3) := by decide +kernel
theorem dX3_rule_38 : decode cX3_rule 38 = .ok (.athrow, 1) := by decide +kernel
theorem dX3_rule_39 : decode cX3_rule 39 = .ok (.iload_n 2, 1) := by decide +kernel
theorem dX3_rule_40 : decode cX3_rule 40 = .ok (.iload_n 1, 1) := by decide +kernel
theorem dX3_rule_41 : decode cX3_rule 41 = .ok (.if_icmp .eq 24, 3) := by decide +kernel
theorem dX3_rule_44 : decode cX3_rule 44 = .ok (.iload_n 2, 1) := by decide +kernel
theorem dX3_rule_45 : decode cX3_rule 45 = .ok (.iconst (-1), 1) := by decide +kernel
theorem dX3_rule_46 : decode cX3_rule 46 = .ok (.if_icmp .eq 12, 3) := by decide +kernel
theorem dX3_rule_49 : decode cX3_rule 49 = .ok (.iload_n 2, 1) := by decide +kernel
theorem dX3_rule_50 : decode cX3_rule 50 = .ok (.bipush 8, 2) := by decide +kernel
theorem dX3_rule_52 : decode cX3_rule 52 = .ok (.invokestatic 57, 3) := by decide +kernel
theorem dX3_rule_55 : decode cX3_rule 55 = .ok (.ifCond .ne 10, 3) := by decide +kernel
theorem dX3_rule_58 : decode cX3_rule 58 = .ok (.iload_n 3, 1) := by decide +kernel
theorem dX3_rule_59 : decode cX3_rule 59 = .ok (.invokestatic 118, 3) := by decide +kernel
theorem dX3_rule_62 : decode cX3_rule 62 = .ok (.ifCond .ne 13, 3) := by decide +kernel
theorem dX3_rule_65 : decode cX3_rule 65 = .ok (.new 75, 3) := by decide +kernel
theorem dX3_rule_68 : decode cX3_rule 68 = .ok (.dup, 1) := by decide +kernel
theorem dX3_rule_69 : decode cX3_rule 69 = .ok (.ldc 122, 2) := by decide +kernel
theorem dX3_rule_71 : decode cX3_rule 71 = .ok (.invokespecial 79, 3) := by decide +kernel
theorem dX3_rule_74 : decode cX3_rule 74 = .ok (.athrow, 1) := by decide +kernel
theorem dX3_rule_75 : decode cX3_rule 75 = .ok (.iload 5, 2) := by decide +kernel
theorem dX3_rule_77 : decode cX3_rule 77 = .ok (.iload 4, 2) := by decide +kernel
theorem dX3_rule_79 : decode cX3_rule 79 = .ok (.if_icmp .lt 14, 3) := by decide +kernel
theorem dX3_rule_82 : decode cX3_rule 82 = .ok (.iload 6, 2) := by decide +kernel
theorem dX3_rule_84 : decode cX3_rule 84 = .ok (.sipush 301, 3) := by decide +kernel
theorem dX3_rule_87 : decode cX3_rule 87 = .ok (.invokestatic 57, 3) := by decide +kernel
theorem dX3_rule_90 : decode cX3_rule 90 = .ok (.ifCond .eq 13, 3) := by decide +kernel
theorem dX3_rule_93 : decode cX3_rule 93 = .ok (.new 75, 3) := by decide +kernel
theorem dX3_rule_96 : decode cX3_rule 96 = .ok (.dup, 1) := by decide +kernel
theorem dX3_rule_97 : decode cX3_rule 97 = .ok (.ldc 124, 2) := by decide +kernel
theorem dX3_rule_99 : decode cX3_rule 99 = .ok (.invokespecial 79, 3) := by decide +kernel
theorem dX3_rule_102 : decode cX3_rule 102 = .ok (.athrow, 1) := by decide +kernel
theorem dX3_rule_103 : decode cX3_rule 103 = .ok (.aload_n 0, 1) := by decide +kernel
theorem dX3_rule_104 : decode cX3_rule 104 = .ok (.getfield 16, 3) := by decide +kernel
theorem dX3_rule_107 : decode cX3_rule 107 = .ok (.invokevirtual 80, 3) := by decide +kernel
theorem dX3_rule_110 : decode cX3_rule 110 = .ok (.istore 7, 2) := by decide +kernel
theorem dX3_rule_112 : decode cX3_rule 112 = .ok (.iload 7, 2) := by decide +kernel
theorem dX3_rule_114 : decode cX3_rule 114 = .ok (.bipush 20, 2) := by decide +kernel
theorem dX3_rule_116 : decode cX3_rule 116 = .ok (.if_icmp .lt 13, 3) := by decide +kernel
theorem dX3_rule_119 : decode cX3_rule 119 = .ok (.new 68, 3) := by decide +kernel
theorem dX3_rule_122 : decode cX3_rule 122 = .ok (.dup, 1) := by decide +kernel
theorem dX3_rule_123 : decode cX3_rule 123 = .ok (.ldc 126, 2) := by decide +kernel
theorem dX3_rule_125 : decode cX3_rule 125 = .ok (.invokespecial 72, 3) := by decide +kernel
theorem dX3_rule_128 : decode cX3_rule 128 = .ok (.athrow, 1) := by decide +kernel
theorem dX3_rule_129 : decode cX3_rule 129 = .ok (.aload_n 0, 1) := by decide +kernel
theorem dX3_rule_130 : decode cX3_rule 130 = .ok (.getfield 16, 3) := by decide +kernel
theorem dX3_rule_133 : decode cX3_rule 133 = .ok (.new 128, 3) := by decide +kernel
theorem dX3_rule_136 : decode cX3_rule 136 = .ok (.dup, 1) := by decide +kernel
theorem dX3_rule_137 : decode cX3_rule 137 = .ok (.iload_n 1, 1) := by decide +kernel
theorem dX3_rule_138 : decode cX3_rule 138 = .ok (.iload_n 2, 1) := by decide +kernel
theorem dX3_rule_139 : decode cX3_rule 139 = .ok (.iload_n 3, 1) := by decide +kernel
theorem dX3_rule_140 : decode cX3_rule 140 = .ok (.iload 4, 2) := by decide +kernel
theorem dX3_rule_142 : decode cX3_rule 142 = .ok (.iload 5, 2) := by decide +kernel
theorem dX3_rule_144 : decode cX3_rule 144 = .ok (.iload 6, 2) := by decide +kernel
theorem dX3_rule_146 : decode cX3_rule 146 = .ok (.invokespecial 130, 3) := by decide +kernel
theorem dX3_rule_149 : decode cX3_rule 149 = .ok (.invokevirtual 94, 3) := by decide +kernel
theorem dX3_rule_152 : decode cX3_rule 152 = .ok (.pop, 1) := by decide +kernel
theorem dX3_rule_153 : decode cX3_rule 153 = .ok (.iload 7, 2) := by decide +kernel
theorem dX3_rule_155 : decode cX3_rule 155 = .ok (.ireturn, 1) := by decide +kernel
theorem dX3_rest_0 : decode cX3_rest 0 = .ok (.iload_n 1, 1) := by decide +kernel
theorem dX3_rest_1 : decode cX3_rest 1 = .ok (.aload_n 0, 1) := by decide +kernel
theorem dX3_rest_2 : decode cX3_rest 2 = .ok (.getfield 16, 3) := by decide +kernel
theorem dX3_rest_5 : decode cX3_rest 5 = .ok (.invokevirtual 80, 3) := by decide +kernel
theorem dX3_rest_8 : decode cX3_rest 8 = .ok (.invokestatic 57, 3) := by decide +kernel
theorem dX3_rest_11 : decode cX3_rest 11 = .ok (.ifCond .ne 17, 3) := by decide +kernel
theorem dX3_rest_14 : decode cX3_rest 14 = .ok (.iload_n 2, 1) := by decide +kernel
theorem dX3_rest_15 : decode cX3_rest 15 = .ok (.aload_n 0, 1) := by decide +kernel
theorem dX3_rest_16 : decode cX3_rest 16 = .ok (.getfield 10, 3) := by decide +kernel
theorem dX3_rest_19 : decode cX3_rest 19 = .ok (.invokevirtual 80, 3) := by decide +kernel
theorem dX3_rest_22 : decode cX3_rest 22 = .ok (.invokestatic 57, 3) := by decide +kernel
theorem dX3_rest_25 : decode cX3_rest 25 = .ok (.ifCond .eq 13, 3) := by decide +kernel
theorem dX3_rest_28 : decode cX3_rest 28 = .ok (.new 61, 3) := by decide +kernel
theorem dX3_rest_31 : decode cX3_rest 31 = .ok (.dup, 1) := by decide +kernel
theorem dX3_rest_32 : decode cX3_rest 32 = .ok (.ldc 133, 2) := by decide +kernel
theorem dX3_rest_34 : decode cX3_rest 34 = .ok (.invokespecial 65, 3) := by decide +kernel
theorem dX3_rest_37 : decode cX3_rest 37 = .ok (.athrow, 1) := by decide +kernel
theorem dX3_rest_38 : decode cX3_rest 38 = .ok (.aload_n 0, 1) := by decide +kernel
theorem dX3_rest_39 : decode cX3_rest 39 = .ok (.getfield 16, 3) := by decide +kernel
theorem dX3_rest_42 : decode cX3_rest 42 = .ok (.iload_n 1, 1) := by decide +kernel
theorem dX3_rest_43 : decode cX3_rest 43 = .ok (.invokevirtual 108, 3) := by decide +kernel
theorem dX3_rest_46 : decode cX3_rest 46 = .ok (.checkcast 128, 3) := by decide +kernel
theorem dX3_rest_49 : decode cX3_rest 49 = .ok (.astore_n 3, 1) := by decide +kernel
theorem dX3_rest_50 : decode cX3_rest 50 = .ok (.aload_n 0, 1) := by decide +kernel
theorem dX3_rest_51 : decode cX3_rest 51 = .ok (.getfield 10, 3) := by decide +kernel
theorem dX3_rest_54 : decode cX3_rest 54 = .ok (.iload_n 2, 1) := by decide +kernel
theorem dX3_rest_55 : decode cX3_rest 55 = .ok (.invokevirtual 108, 3) := by decide +kernel
theorem dX3_rest_58 : decode cX3_rest 58 = .ok (.checkcast 86, 3) := by decide +kernel
theorem dX3_rest_61 : decode cX3_rest 61 = .ok (.astore 4, 2) := by decide +kernel
theorem dX3_rest_63 : decode cX3_rest 63 = .ok (.aload_n 3, 1) := by decide +kernel
theorem dX3_rest_64 : decode cX3_rest 64 = .ok (.getfield 135, 3) := by decide +kernel
theorem dX3_rest_67 : decode cX3_rest 67 = .ok (.ifCond .ne 21, 3) := by decide +kernel
theorem dX3_rest_70 : decode cX3_rest 70 = .ok (.aload_n 0, 1) := by decide +kernel
theorem dX3_rest_71 : decode cX3_rest 71 = .ok (.aload 4, 2) := by decide +kernel
theorem dX3_rest_73 : decode cX3_rest 73 = .ok (.invokevirtual 139, 3) := by decide +kernel
theorem dX3_rest_76 : decode cX3_rest 76 = .ok (.ifCond .eq 12, 3) := by decide +kernel
theorem dX3_rest_79 : decode cX3_rest 79 = .ok (.aload_n 3, 1) := by decide +kernel
theorem dX3_rest_80 : decode cX3_rest 80 = .ok (.aload 4, 2) := by decide +kernel
theorem dX3_rest_82 : decode cX3_rest 82 = .ok (.invokevirtual 143, 3) := by decide +kernel
theorem dX3_rest_85 : decode cX3_rest 85 = .ok (.ifCond .eq 13, 3) := by decide +kernel
theorem dX3_rest_88 : decode cX3_rest 88 = .ok (.new 68, 3) := by decide +kernel
theorem dX3_rest_91 : decode cX3_rest 91 = .ok (.dup, 1) := by decide +kernel
theorem dX3_rest_92 : decode cX3_rest 92 = .ok (.ldc 146, 2) := by decide +kernel
theorem dX3_rest_94 : decode cX3_rest 94 = .ok (.invokespecial 72, 3) := by decide +kernel
theorem dX3_rest_97 : decode cX3_rest 97 = .ok (.athrow, 1) := by decide +kernel
theorem dX3_rest_98 : decode cX3_rest 98 = .ok (.aload_n 3, 1) := by decide +kernel
theorem dX3_rest_99 : decode cX3_rest 99 = .ok (.dup, 1) := by decide +kernel
theorem dX3_rest_100 : decode cX3_rest 100 = .ok (.getfield 148, 3) := by decide +kernel
theorem dX3_rest_103 : decode cX3_rest 103 = .ok (.aload 4, 2) := by decide +kernel
theorem dX3_rest_105 : decode cX3_rest 105 = .ok (.getfield 151, 3) := by decide +kernel
theorem dX3_rest_108 : decode cX3_rest 108 = .ok (.lor, 1) := by decide +kernel
theorem dX3_rest_109 : decode cX3_rest 109 = .ok (.putfield 148, 3) := by decide +kernel
theorem dX3_rest_112 : decode cX3_rest 112 = .ok (.aload_n 3, 1) := by decide +kernel
theorem dX3_rest_113 : decode cX3_rest 113 = .ok (.getfield 148, 3) := by decide +kernel
theorem dX3_rest_116 : decode cX3_rest 116 = .ok (.invokestatic 154, 3) := by decide +kernel
theorem dX3_rest_119 : decode cX3_rest 119 = .ok (.ireturn, 1) := by decide +kernel
theorem dX3_stands_0 : decode cX3_stands 0 = .ok (.iload_n 1, 1) := by decide +kernel
theorem dX3_stands_1 : decode cX3_stands 1 = .ok (.aload_n 0, 1) := by decide +kernel
theorem dX3_stands_2 : decode cX3_stands 2 = .ok (.getfield 16, 3) := by decide +kernel
theorem dX3_stands_5 : decode cX3_stands 5 = .ok (.invokevirtual 80, 3) := by decide +kernel
theorem dX3_stands_8 : decode cX3_stands 8 = .ok (.invokestatic 57, 3) := by decide +kernel
theorem dX3_stands_11 : decode cX3_stands 11 = .ok (.ifCond .eq 13, 3) := by decide +kernel
theorem dX3_stands_14 : decode cX3_stands 14 = .ok (.new 61, 3) := by decide +kernel
theorem dX3_stands_17 : decode cX3_stands 17 = .ok (.dup, 1) := by decide +kernel
theorem dX3_stands_18 : decode cX3_stands 18 = .ok (.ldc 160, 2) := by decide +kernel
theorem dX3_stands_20 : decode cX3_stands 20 = .ok (.invokespecial 65, 3) := by decide +kernel
theorem dX3_stands_23 : decode cX3_stands 23 = .ok (.athrow, 1) := by decide +kernel
theorem dX3_stands_24 : decode cX3_stands 24 = .ok (.aload_n 0, 1) := by decide +kernel
theorem dX3_stands_25 : decode cX3_stands 25 = .ok (.getfield 16, 3) := by decide +kernel
theorem dX3_stands_28 : decode cX3_stands 28 = .ok (.iload_n 1, 1) := by decide +kernel
theorem dX3_stands_29 : decode cX3_stands 29 = .ok (.invokevirtual 108, 3) := by decide +kernel
theorem dX3_stands_32 : decode cX3_stands 32 = .ok (.checkcast 128, 3) := by decide +kernel
theorem dX3_stands_35 : decode cX3_stands 35 = .ok (.getfield 135, 3) := by decide +kernel
theorem dX3_stands_38 : decode cX3_stands 38 = .ok (.ifCond .ne 7, 3) := by decide +kernel
theorem dX3_stands_41 : decode cX3_stands 41 = .ok (.iconst 1, 1) := by decide +kernel
theorem dX3_stands_42 : decode cX3_stands 42 = .ok (.goto 4, 3) := by decide +kernel
theorem dX3_stands_45 : decode cX3_stands 45 = .ok (.iconst 0, 1) := by decide +kernel
theorem dX3_stands_46 : decode cX3_stands 46 = .ok (.ireturn, 1) := by decide +kernel
theorem dX3_expected_0 : decode cX3_expected 0 = .ok (.iload_n 1, 1) := by decide +kernel
theorem dX3_expected_1 : decode cX3_expected 1 = .ok (.iconst 4, 1) := by decide +kernel
theorem dX3_expected_2 : decode cX3_expected 2 = .ok (.invokestatic 57, 3) := by decide +kernel
theorem dX3_expected_5 : decode cX3_expected 5 = .ok (.ifCond .ne 12, 3) := by decide +kernel
theorem dX3_expected_8 : decode cX3_expected 8 = .ok (.iload_n 2, 1) := by decide +kernel
theorem dX3_expected_9 : decode cX3_expected 9 = .ok (.bipush 10, 2) := by decide +kernel
theorem dX3_expected_11 : decode cX3_expected 11 = .ok (.invokestatic 57, 3) := by decide +kernel
theorem dX3_expected_14 : decode cX3_expected 14 = .ok (.ifCond .eq 13, 3) := by decide +kernel
theorem dX3_expected_17 : decode cX3_expected 17 = .ok (.new 61, 3) := by decide +kernel
theorem dX3_expected_20 : decode cX3_expected 20 = .ok (.dup, 1) := by decide +kernel
theorem dX3_expected_21 : decode cX3_expected 21 = .ok (.ldc 162, 2) := by decide +kernel
theorem dX3_expected_23 : decode cX3_expected 23 = .ok (.invokespecial 65, 3) := by decide +kernel
theorem dX3_expected_26 : decode cX3_expected 26 = .ok (.athrow, 1) := by decide +kernel
theorem dX3_expected_27 : decode cX3_expected 27 = .ok (.iload_n 3, 1) := by decide +kernel
theorem dX3_expected_28 : decode cX3_expected 28 = .ok (.sipush 301, 3) := by decide +kernel
theorem dX3_expected_31 : decode cX3_expected 31 = .ok (.invokestatic 57, 3) := by decide +kernel
theorem dX3_expected_34 : decode cX3_expected 34 = .ok (.ifCond .eq 13, 3) := by decide +kernel
theorem dX3_expected_37 : decode cX3_expected 37 = .ok (.new 75, 3) := by decide +kernel
theorem dX3_expected_40 : decode cX3_expected 40 = .ok (.dup, 1) := by decide +kernel
theorem dX3_expected_41 : decode cX3_expected 41 = .ok (.ldc 77, 2) := by decide +kernel
theorem dX3_expected_43 : decode cX3_expected 43 = .ok (.invokespecial 79, 3) := by decide +kernel
theorem dX3_expected_46 : decode cX3_expected 46 = .ok (.athrow, 1) := by decide +kernel
theorem dX3_expected_47 : decode cX3_expected 47 = .ok (.aload_n 0, 1) := by decide +kernel
theorem dX3_expected_48 : decode cX3_expected 48 = .ok (.aload_n 0, 1) := by decide +kernel
theorem dX3_expected_49 : decode cX3_expected 49 = .ok (.getfield 22, 3) := by decide +kernel
theorem dX3_expected_52 : decode cX3_expected 52 = .ok (.iload_n 1, 1) := by decide +kernel
theorem dX3_expected_53 : decode cX3_expected 53 = .ok (.iaload, 1) := by decide +kernel
theorem dX3_expected_54 : decode cX3_expected 54 = .ok (.iload_n 2, 1) := by decide +kernel
theorem dX3_expected_55 : decode cX3_expected 55 = .ok (.iload_n 3, 1) := by decide +kernel
theorem dX3_expected_56 : decode cX3_expected 56 = .ok (.invokevirtual 164, 3) := by decide +kernel
theorem dX3_expected_59 : decode cX3_expected 59 = .ok (.ireturn, 1) := by decide +kernel
theorem dX3_far_0 : decode cX3_far 0 = .ok (.iload_n 1, 1) := by decide +kernel
theorem dX3_far_1 : decode cX3_far 1 = .ok (.aload_n 0, 1) := by decide +kernel
theorem dX3_far_2 : decode cX3_far 2 = .ok (.getfield 10, 3) := by decide +kernel
theorem dX3_far_5 : decode cX3_far 5 = .ok (.invokevirtual 80, 3) := by decide +kernel
theorem dX3_far_8 : decode cX3_far 8 = .ok (.invokestatic 57, 3) := by decide +kernel
theorem dX3_far_11 : decode cX3_far 11 = .ok (.ifCond .eq 13, 3) := by decide +kernel
theorem dX3_far_14 : decode cX3_far 14 = .ok (.new 61, 3) := by decide +kernel
theorem dX3_far_17 : decode cX3_far 17 = .ok (.dup, 1) := by decide +kernel
theorem dX3_far_18 : decode cX3_far 18 = .ok (.ldc 106, 2) := by decide +kernel
theorem dX3_far_20 : decode cX3_far 20 = .ok (.invokespecial 65, 3) := by decide +kernel
theorem dX3_far_23 : decode cX3_far 23 = .ok (.athrow, 1) := by decide +kernel
theorem dX3_far_24 : decode cX3_far 24 = .ok (.aload_n 0, 1) := by decide +kernel
theorem dX3_far_25 : decode cX3_far 25 = .ok (.getfield 10, 3) := by decide +kernel
theorem dX3_far_28 : decode cX3_far 28 = .ok (.iload_n 1, 1) := by decide +kernel
theorem dX3_far_29 : decode cX3_far 29 = .ok (.invokevirtual 108, 3) := by decide +kernel
theorem dX3_far_32 : decode cX3_far 32 = .ok (.checkcast 86, 3) := by decide +kernel
theorem dX3_far_35 : decode cX3_far 35 = .ok (.astore_n 2, 1) := by decide +kernel
theorem dX3_far_36 : decode cX3_far 36 = .ok (.aload_n 0, 1) := by decide +kernel
theorem dX3_far_37 : decode cX3_far 37 = .ok (.getfield 22, 3) := by decide +kernel
theorem dX3_far_40 : decode cX3_far 40 = .ok (.aload_n 2, 1) := by decide +kernel
theorem dX3_far_41 : decode cX3_far 41 = .ok (.getfield 168, 3) := by decide +kernel
theorem dX3_far_44 : decode cX3_far 44 = .ok (.iaload, 1) := by decide +kernel
theorem dX3_far_45 : decode cX3_far 45 = .ok (.istore_n 3, 1) := by decide +kernel
theorem dX3_far_46 : decode cX3_far 46 = .ok (.aload_n 0, 1) := by decide +kernel
theorem dX3_far_47 : decode cX3_far 47 = .ok (.aload_n 2, 1) := by decide +kernel
theorem dX3_far_48 : decode cX3_far 48 = .ok (.invokevirtual 139, 3) := by decide +kernel
theorem dX3_far_51 : decode cX3_far 51 = .ok (.ifCond .eq 8, 3) := by decide +kernel
theorem dX3_far_54 : decode cX3_far 54 = .ok (.iload_n 3, 1) := by decide +kernel
theorem dX3_far_55 : decode cX3_far 55 = .ok (.iconst (-1), 1) := by decide +kernel
theorem dX3_far_56 : decode cX3_far 56 = .ok (.if_icmp .ne 5, 3) := by decide +kernel
theorem dX3_far_59 : decode cX3_far 59 = .ok (.iconst (-1), 1) := by decide +kernel
theorem dX3_far_60 : decode cX3_far 60 = .ok (.ireturn, 1) := by decide +kernel
theorem dX3_far_61 : decode cX3_far 61 = .ok (.aload_n 0, 1) := by decide +kernel
theorem dX3_far_62 : decode cX3_far 62 = .ok (.getfield 36, 3) := by decide +kernel
theorem dX3_far_65 : decode cX3_far 65 = .ok (.aload_n 2, 1) := by decide +kernel
theorem dX3_far_66 : decode cX3_far 66 = .ok (.getfield 171, 3) := by decide +kernel
theorem dX3_far_69 : decode cX3_far 69 = .ok (.aload_n 0, 1) := by decide +kernel
theorem dX3_far_70 : decode cX3_far 70 = .ok (.iload_n 3, 1) := by decide +kernel
theorem dX3_far_71 : decode cX3_far 71 = .ok (.aload_n 2, 1) := by decide +kernel
theorem dX3_far_72 : decode cX3_far 72 = .ok (.getfield 174, 3) := by decide +kernel
theorem dX3_far_75 : decode cX3_far 75 = .ok (.aload_n 2, 1) := by decide +kernel
theorem dX3_far_76 : decode cX3_far 76 = .ok (.getfield 177, 3) := by decide +kernel
theorem dX3_far_79 : decode cX3_far 79 = .ok (.invokevirtual 164, 3) := by decide +kernel
theorem dX3_far_82 : decode cX3_far 82 = .ok (.invokevirtual 180, 3) := by decide +kernel
theorem dX3_far_85 : decode cX3_far 85 = .ok (.ireturn, 1) := by decide +kernel
theorem dX3_formAt_0 : decode cX3_formAt 0 = .ok (.iload_n 1, 1) := by decide +kernel
theorem dX3_formAt_1 : decode cX3_formAt 1 = .ok (.iconst 4, 1) := by decide +kernel
theorem dX3_formAt_2 : decode cX3_formAt 2 = .ok (.invokestatic 57, 3) := by decide +kernel
theorem dX3_formAt_5 : decode cX3_formAt 5 = .ok (.ifCond .ne 12, 3) := by decide +kernel
theorem dX3_formAt_8 : decode cX3_formAt 8 = .ok (.iload_n 2, 1) := by decide +kernel
theorem dX3_formAt_9 : decode cX3_formAt 9 = .ok (.bipush 10, 2) := by decide +kernel
theorem dX3_formAt_11 : decode cX3_formAt 11 = .ok (.invokestatic 57, 3) := by decide +kernel
theorem dX3_formAt_14 : decode cX3_formAt 14 = .ok (.ifCond .eq 13, 3) := by decide +kernel
theorem dX3_formAt_17 : decode cX3_formAt 17 = .ok (.new 61, 3) := by decide +kernel
theorem dX3_formAt_20 : decode cX3_formAt 20 = .ok (.dup, 1) := by decide +kernel
theorem dX3_formAt_21 : decode cX3_formAt 21 = .ok (.ldc 162, 2) := by decide +kernel
theorem dX3_formAt_23 : decode cX3_formAt 23 = .ok (.invokespecial 65, 3) := by decide +kernel
theorem dX3_formAt_26 : decode cX3_formAt 26 = .ok (.athrow, 1) := by decide +kernel
theorem dX3_formAt_27 : decode cX3_formAt 27 = .ok (.aload_n 0, 1) := by decide +kernel
theorem dX3_formAt_28 : decode cX3_formAt 28 = .ok (.iload_n 1, 1) := by decide +kernel
theorem dX3_formAt_29 : decode cX3_formAt 29 = .ok (.iload_n 2, 1) := by decide +kernel
theorem dX3_formAt_30 : decode cX3_formAt 30 = .ok (.invokevirtual 184, 3) := by decide +kernel
theorem dX3_formAt_33 : decode cX3_formAt 33 = .ok (.ireturn, 1) := by decide +kernel
theorem dX3_lines_0 : decode cX3_lines 0 = .ok (.iload_n 1, 1) := by decide +kernel
theorem dX3_lines_1 : decode cX3_lines 1 = .ok (.iconst 4, 1) := by decide +kernel
theorem dX3_lines_2 : decode cX3_lines 2 = .ok (.invokestatic 57, 3) := by decide +kernel
theorem dX3_lines_5 : decode cX3_lines 5 = .ok (.ifCond .eq 13, 3) := by decide +kernel
theorem dX3_lines_8 : decode cX3_lines 8 = .ok (.new 61, 3) := by decide +kernel
theorem dX3_lines_11 : decode cX3_lines 11 = .ok (.dup, 1) := by decide +kernel
theorem dX3_lines_12 : decode cX3_lines 12 = .ok (.ldc 102, 2) := by decide +kernel
theorem dX3_lines_14 : decode cX3_lines 14 = .ok (.invokespecial 65, 3) := by decide +kernel
theorem dX3_lines_17 : decode cX3_lines 17 = .ok (.athrow, 1) := by decide +kernel
theorem dX3_lines_18 : decode cX3_lines 18 = .ok (.aload_n 0, 1) := by decide +kernel
theorem dX3_lines_19 : decode cX3_lines 19 = .ok (.getfield 26, 3) := by decide +kernel
theorem dX3_lines_22 : decode cX3_lines 22 = .ok (.iload_n 1, 1) := by decide +kernel
theorem dX3_lines_23 : decode cX3_lines 23 = .ok (.iaload, 1) := by decide +kernel
theorem dX3_lines_24 : decode cX3_lines 24 = .ok (.ireturn, 1) := by decide +kernel
theorem dX3_linesByForms_0 : decode cX3_linesByForms 0 = .ok (.iload_n 1, 1) := by decide +kernel
theorem dX3_linesByForms_1 : decode cX3_linesByForms 1 = .ok (.iconst 4, 1) := by decide +kernel
theorem dX3_linesByForms_2 : decode cX3_linesByForms 2 = .ok (.invokestatic 57, 3) := by decide +kernel
theorem dX3_linesByForms_5 : decode cX3_linesByForms 5 = .ok (.ifCond .eq 13, 3) := by decide +kernel
theorem dX3_linesByForms_8 : decode cX3_linesByForms 8 = .ok (.new 61, 3) := by decide +kernel
theorem dX3_linesByForms_11 : decode cX3_linesByForms 11 = .ok (.dup, 1) := by decide +kernel
theorem dX3_linesByForms_12 : decode cX3_linesByForms 12 = .ok (.ldc 102, 2) := by decide +kernel
theorem dX3_linesByForms_14 : decode cX3_linesByForms 14 = .ok (.invokespecial 65, 3) := by decide +kernel
theorem dX3_linesByForms_17 : decode cX3_linesByForms 17 = .ok (.athrow, 1) := by decide +kernel
theorem dX3_linesByForms_18 : decode cX3_linesByForms 18 = .ok (.aload_n 0, 1) := by decide +kernel
theorem dX3_linesByForms_19 : decode cX3_linesByForms 19 = .ok (.iload_n 1, 1) := by decide +kernel
theorem dX3_linesByForms_20 : decode cX3_linesByForms 20 = .ok (.invokevirtual 98, 3) := by decide +kernel
theorem dX3_linesByForms_23 : decode cX3_linesByForms 23 = .ok (.ireturn, 1) := by decide +kernel
theorem dX3_forget_0 : decode cX3_forget 0 = .ok (.iload_n 1, 1) := by decide +kernel
theorem dX3_forget_1 : decode cX3_forget 1 = .ok (.bipush 8, 2) := by decide +kernel
theorem dX3_forget_3 : decode cX3_forget 3 = .ok (.invokestatic 57, 3) := by decide +kernel
theorem dX3_forget_6 : decode cX3_forget 6 = .ok (.ifCond .eq 13, 3) := by decide +kernel
theorem dX3_forget_9 : decode cX3_forget 9 = .ok (.new 61, 3) := by decide +kernel
theorem dX3_forget_12 : decode cX3_forget 12 = .ok (.dup, 1) := by decide +kernel
theorem dX3_forget_13 : decode cX3_forget 13 = .ok (.ldc 187, 2) := by decide +kernel
theorem dX3_forget_15 : decode cX3_forget 15 = .ok (.invokespecial 65, 3) := by decide +kernel
theorem dX3_forget_18 : decode cX3_forget 18 = .ok (.athrow, 1) := by decide +kernel
theorem dX3_forget_19 : decode cX3_forget 19 = .ok (.aload_n 0, 1) := by decide +kernel
theorem dX3_forget_20 : decode cX3_forget 20 = .ok (.iload_n 1, 1) := by decide +kernel
theorem dX3_forget_21 : decode cX3_forget 21 = .ok (.invokevirtual 189, 3) := by decide +kernel
theorem dX3_forget_24 : decode cX3_forget 24 = .ok (.lstore_n 2, 1) := by decide +kernel
theorem dX3_forget_25 : decode cX3_forget 25 = .ok (.aload_n 0, 1) := by decide +kernel
theorem dX3_forget_26 : decode cX3_forget 26 = .ok (.dup, 1) := by decide +kernel
theorem dX3_forget_27 : decode cX3_forget 27 = .ok (.getfield 40, 3) := by decide +kernel
theorem dX3_forget_30 : decode cX3_forget 30 = .ok (.lload_n 2, 1) := by decide +kernel
theorem dX3_forget_31 : decode cX3_forget 31 = .ok (.ldc2_w 193, 3) := by decide +kernel
theorem dX3_forget_34 : decode cX3_forget 34 = .ok (.lxor, 1) := by decide +kernel
theorem dX3_forget_35 : decode cX3_forget 35 = .ok (.land, 1) := by decide +kernel
theorem dX3_forget_36 : decode cX3_forget 36 = .ok (.putfield 40, 3) := by decide +kernel
theorem dX3_forget_39 : decode cX3_forget 39 = .ok (.iconst 0, 1) := by decide +kernel
theorem dX3_forget_40 : decode cX3_forget 40 = .ok (.istore 4, 2) := by decide +kernel
theorem dX3_forget_42 : decode cX3_forget 42 = .ok (.iload 4, 2) := by decide +kernel
theorem dX3_forget_44 : decode cX3_forget 44 = .ok (.aload_n 0, 1) := by decide +kernel
theorem dX3_forget_45 : decode cX3_forget 45 = .ok (.getfield 16, 3) := by decide +kernel
theorem dX3_forget_48 : decode cX3_forget 48 = .ok (.invokevirtual 80, 3) := by decide +kernel
theorem dX3_forget_51 : decode cX3_forget 51 = .ok (.if_icmp .ge 25, 3) := by decide +kernel
theorem dX3_forget_54 : decode cX3_forget 54 = .ok (.aload_n 0, 1) := by decide +kernel
theorem dX3_forget_55 : decode cX3_forget 55 = .ok (.getfield 16, 3) := by decide +kernel
theorem dX3_forget_58 : decode cX3_forget 58 = .ok (.iload 4, 2) := by decide +kernel
theorem dX3_forget_60 : decode cX3_forget 60 = .ok (.invokevirtual 108, 3) := by decide +kernel
theorem dX3_forget_63 : decode cX3_forget 63 = .ok (.checkcast 128, 3) := by decide +kernel
theorem dX3_forget_66 : decode cX3_forget 66 = .ok (.lload_n 2, 1) := by decide +kernel
theorem dX3_forget_67 : decode cX3_forget 67 = .ok (.invokevirtual 195, 3) := by decide +kernel
theorem dX3_forget_70 : decode cX3_forget 70 = .ok (.iinc 4 1, 3) := by decide +kernel
theorem dX3_forget_73 : decode cX3_forget 73 = .ok (.goto (-31), 3) := by decide +kernel
theorem dX3_forget_76 : decode cX3_forget 76 = .ok (.iconst 0, 1) := by decide +kernel
theorem dX3_forget_77 : decode cX3_forget 77 = .ok (.istore 4, 2) := by decide +kernel
theorem dX3_forget_79 : decode cX3_forget 79 = .ok (.iload 4, 2) := by decide +kernel
theorem dX3_forget_81 : decode cX3_forget 81 = .ok (.iconst 4, 1) := by decide +kernel
theorem dX3_forget_82 : decode cX3_forget 82 = .ok (.if_icmp .ge 22, 3) := by decide +kernel
theorem dX3_forget_85 : decode cX3_forget 85 = .ok (.aload_n 0, 1) := by decide +kernel
theorem dX3_forget_86 : decode cX3_forget 86 = .ok (.getfield 26, 3) := by decide +kernel
theorem dX3_forget_89 : decode cX3_forget 89 = .ok (.iload 4, 2) := by decide +kernel
theorem dX3_forget_91 : decode cX3_forget 91 = .ok (.aload_n 0, 1) := by decide +kernel
theorem dX3_forget_92 : decode cX3_forget 92 = .ok (.iload 4, 2) := by decide +kernel
theorem dX3_forget_94 : decode cX3_forget 94 = .ok (.invokevirtual 98, 3) := by decide +kernel
theorem dX3_forget_97 : decode cX3_forget 97 = .ok (.iastore, 1) := by decide +kernel
theorem dX3_forget_98 : decode cX3_forget 98 = .ok (.iinc 4 1, 3) := by decide +kernel
theorem dX3_forget_101 : decode cX3_forget 101 = .ok (.goto (-22), 3) := by decide +kernel
theorem dX3_forget_104 : decode cX3_forget 104 = .ok (.lload_n 2, 1) := by decide +kernel
theorem dX3_forget_105 : decode cX3_forget 105 = .ok (.invokestatic 154, 3) := by decide +kernel
theorem dX3_forget_108 : decode cX3_forget 108 = .ok (.ireturn, 1) := by decide +kernel
theorem dX3_copy_0 : decode cX3_copy 0 = .ok (.iload_n 1, 1) := by decide +kernel
theorem dX3_copy_1 : decode cX3_copy 1 = .ok (.iconst 3, 1) := by decide +kernel
theorem dX3_copy_2 : decode cX3_copy 2 = .ok (.invokestatic 57, 3) := by decide +kernel
theorem dX3_copy_5 : decode cX3_copy 5 = .ok (.ifCond .eq 13, 3) := by decide +kernel
theorem dX3_copy_8 : decode cX3_copy 8 = .ok (.new 61, 3) := by decide +kernel
theorem dX3_copy_11 : decode cX3_copy 11 = .ok (.dup, 1) := by decide +kernel
theorem dX3_copy_12 : decode cX3_copy 12 = .ok (.ldc 199, 2) := by decide +kernel
theorem dX3_copy_14 : decode cX3_copy 14 = .ok (.invokespecial 65, 3) := by decide +kernel
theorem dX3_copy_17 : decode cX3_copy 17 = .ok (.athrow, 1) := by decide +kernel
theorem dX3_copy_18 : decode cX3_copy 18 = .ok (.aload_n 0, 1) := by decide +kernel
theorem dX3_copy_19 : decode cX3_copy 19 = .ok (.getfield 29, 3) := by decide +kernel
theorem dX3_copy_22 : decode cX3_copy 22 = .ok (.iload_n 1, 1) := by decide +kernel
theorem dX3_copy_23 : decode cX3_copy 23 = .ok (.aload_n 0, 1) := by decide +kernel
theorem dX3_copy_24 : decode cX3_copy 24 = .ok (.getfield 40, 3) := by decide +kernel
theorem dX3_copy_27 : decode cX3_copy 27 = .ok (.lastore, 1) := by decide +kernel
theorem dX3_copy_28 : decode cX3_copy 28 = .ok (.aload_n 0, 1) := by decide +kernel
theorem dX3_copy_29 : decode cX3_copy 29 = .ok (.getfield 40, 3) := by decide +kernel
theorem dX3_copy_32 : decode cX3_copy 32 = .ok (.invokestatic 154, 3) := by decide +kernel
theorem dX3_copy_35 : decode cX3_copy 35 = .ok (.ireturn, 1) := by decide +kernel
theorem dX3_tell_0 : decode cX3_tell 0 = .ok (.iload_n 1, 1) := by decide +kernel
theorem dX3_tell_1 : decode cX3_tell 1 = .ok (.iconst 3, 1) := by decide +kernel
theorem dX3_tell_2 : decode cX3_tell 2 = .ok (.invokestatic 57, 3) := by decide +kernel
theorem dX3_tell_5 : decode cX3_tell 5 = .ok (.ifCond .eq 13, 3) := by decide +kernel
theorem dX3_tell_8 : decode cX3_tell 8 = .ok (.new 61, 3) := by decide +kernel
theorem dX3_tell_11 : decode cX3_tell 11 = .ok (.dup, 1) := by decide +kernel
theorem dX3_tell_12 : decode cX3_tell 12 = .ok (.ldc 199, 2) := by decide +kernel
theorem dX3_tell_14 : decode cX3_tell 14 = .ok (.invokespecial 65, 3) := by decide +kernel
theorem dX3_tell_17 : decode cX3_tell 17 = .ok (.athrow, 1) := by decide +kernel
theorem dX3_tell_18 : decode cX3_tell 18 = .ok (.aload_n 0, 1) := by decide +kernel
theorem dX3_tell_19 : decode cX3_tell 19 = .ok (.getfield 29, 3) := by decide +kernel
theorem dX3_tell_22 : decode cX3_tell 22 = .ok (.iload_n 1, 1) := by decide +kernel
theorem dX3_tell_23 : decode cX3_tell 23 = .ok (.laload, 1) := by decide +kernel
theorem dX3_tell_24 : decode cX3_tell 24 = .ok (.aload_n 0, 1) := by decide +kernel
theorem dX3_tell_25 : decode cX3_tell 25 = .ok (.getfield 40, 3) := by decide +kernel
theorem dX3_tell_28 : decode cX3_tell 28 = .ok (.ldc2_w 193, 3) := by decide +kernel
theorem dX3_tell_31 : decode cX3_tell 31 = .ok (.lxor, 1) := by decide +kernel
theorem dX3_tell_32 : decode cX3_tell 32 = .ok (.land, 1) := by decide +kernel
theorem dX3_tell_33 : decode cX3_tell 33 = .ok (.lstore_n 2, 1) := by decide +kernel
theorem dX3_tell_34 : decode cX3_tell 34 = .ok (.aload_n 0, 1) := by decide +kernel
theorem dX3_tell_35 : decode cX3_tell 35 = .ok (.getfield 29, 3) := by decide +kernel
theorem dX3_tell_38 : decode cX3_tell 38 = .ok (.iload_n 1, 1) := by decide +kernel
theorem dX3_tell_39 : decode cX3_tell 39 = .ok (.dup2, 1) := by decide +kernel
theorem dX3_tell_40 : decode cX3_tell 40 = .ok (.laload, 1) := by decide +kernel
theorem dX3_tell_41 : decode cX3_tell 41 = .ok (.aload_n 0, 1) := by decide +kernel
theorem dX3_tell_42 : decode cX3_tell 42 = .ok (.getfield 40, 3) := by decide +kernel
theorem dX3_tell_45 : decode cX3_tell 45 = .ok (.land, 1) := by decide +kernel
theorem dX3_tell_46 : decode cX3_tell 46 = .ok (.lastore, 1) := by decide +kernel
theorem dX3_tell_47 : decode cX3_tell 47 = .ok (.lload_n 2, 1) := by decide +kernel
theorem dX3_tell_48 : decode cX3_tell 48 = .ok (.invokestatic 154, 3) := by decide +kernel
theorem dX3_tell_51 : decode cX3_tell 51 = .ok (.ireturn, 1) := by decide +kernel
theorem dX3_owed_0 : decode cX3_owed 0 = .ok (.iload_n 1, 1) := by decide +kernel
theorem dX3_owed_1 : decode cX3_owed 1 = .ok (.iconst 3, 1) := by decide +kernel
theorem dX3_owed_2 : decode cX3_owed 2 = .ok (.invokestatic 57, 3) := by decide +kernel
theorem dX3_owed_5 : decode cX3_owed 5 = .ok (.ifCond .eq 13, 3) := by decide +kernel
theorem dX3_owed_8 : decode cX3_owed 8 = .ok (.new 61, 3) := by decide +kernel
theorem dX3_owed_11 : decode cX3_owed 11 = .ok (.dup, 1) := by decide +kernel
theorem dX3_owed_12 : decode cX3_owed 12 = .ok (.ldc 199, 2) := by decide +kernel
theorem dX3_owed_14 : decode cX3_owed 14 = .ok (.invokespecial 65, 3) := by decide +kernel
theorem dX3_owed_17 : decode cX3_owed 17 = .ok (.athrow, 1) := by decide +kernel
theorem dX3_owed_18 : decode cX3_owed 18 = .ok (.aload_n 0, 1) := by decide +kernel
theorem dX3_owed_19 : decode cX3_owed 19 = .ok (.getfield 29, 3) := by decide +kernel
theorem dX3_owed_22 : decode cX3_owed 22 = .ok (.iload_n 1, 1) := by decide +kernel
theorem dX3_owed_23 : decode cX3_owed 23 = .ok (.laload, 1) := by decide +kernel
theorem dX3_owed_24 : decode cX3_owed 24 = .ok (.aload_n 0, 1) := by decide +kernel
theorem dX3_owed_25 : decode cX3_owed 25 = .ok (.getfield 40, 3) := by decide +kernel
theorem dX3_owed_28 : decode cX3_owed 28 = .ok (.ldc2_w 193, 3) := by decide +kernel
theorem dX3_owed_31 : decode cX3_owed 31 = .ok (.lxor, 1) := by decide +kernel
theorem dX3_owed_32 : decode cX3_owed 32 = .ok (.land, 1) := by decide +kernel
theorem dX3_owed_33 : decode cX3_owed 33 = .ok (.invokestatic 154, 3) := by decide +kernel
theorem dX3_owed_36 : decode cX3_owed 36 = .ok (.ireturn, 1) := by decide +kernel
theorem dX3_quote_0 : decode cX3_quote 0 = .ok (.iload_n 1, 1) := by decide +kernel
theorem dX3_quote_1 : decode cX3_quote 1 = .ok (.aload_n 0, 1) := by decide +kernel
theorem dX3_quote_2 : decode cX3_quote 2 = .ok (.getfield 10, 3) := by decide +kernel
theorem dX3_quote_5 : decode cX3_quote 5 = .ok (.invokevirtual 80, 3) := by decide +kernel
theorem dX3_quote_8 : decode cX3_quote 8 = .ok (.invokestatic 57, 3) := by decide +kernel
theorem dX3_quote_11 : decode cX3_quote 11 = .ok (.ifCond .eq 13, 3) := by decide +kernel
theorem dX3_quote_14 : decode cX3_quote 14 = .ok (.new 61, 3) := by decide +kernel
theorem dX3_quote_17 : decode cX3_quote 17 = .ok (.dup, 1) := by decide +kernel
theorem dX3_quote_18 : decode cX3_quote 18 = .ok (.ldc 106, 2) := by decide +kernel
theorem dX3_quote_20 : decode cX3_quote 20 = .ok (.invokespecial 65, 3) := by decide +kernel
theorem dX3_quote_23 : decode cX3_quote 23 = .ok (.athrow, 1) := by decide +kernel
theorem dX3_quote_24 : decode cX3_quote 24 = .ok (.aload_n 0, 1) := by decide +kernel
theorem dX3_quote_25 : decode cX3_quote 25 = .ok (.getfield 10, 3) := by decide +kernel
theorem dX3_quote_28 : decode cX3_quote 28 = .ok (.iload_n 1, 1) := by decide +kernel
theorem dX3_quote_29 : decode cX3_quote 29 = .ok (.invokevirtual 108, 3) := by decide +kernel
theorem dX3_quote_32 : decode cX3_quote 32 = .ok (.checkcast 86, 3) := by decide +kernel
theorem dX3_quote_35 : decode cX3_quote 35 = .ok (.astore_n 2, 1) := by decide +kernel
theorem dX3_quote_36 : decode cX3_quote 36 = .ok (.aload_n 0, 1) := by decide +kernel
theorem dX3_quote_37 : decode cX3_quote 37 = .ok (.getfield 19, 3) := by decide +kernel
theorem dX3_quote_40 : decode cX3_quote 40 = .ok (.invokevirtual 80, 3) := by decide +kernel
theorem dX3_quote_43 : decode cX3_quote 43 = .ok (.istore_n 3, 1) := by decide +kernel
theorem dX3_quote_44 : decode cX3_quote 44 = .ok (.aload_n 0, 1) := by decide +kernel
theorem dX3_quote_45 : decode cX3_quote 45 = .ok (.aload_n 2, 1) := by decide +kernel
theorem dX3_quote_46 : decode cX3_quote 46 = .ok (.invokevirtual 139, 3) := by decide +kernel
theorem dX3_quote_49 : decode cX3_quote 49 = .ok (.ifCond .eq 9, 3) := by decide +kernel
theorem dX3_quote_52 : decode cX3_quote 52 = .ok (.iload_n 3, 1) := by decide +kernel
theorem dX3_quote_53 : decode cX3_quote 53 = .ok (.bipush 20, 2) := by decide +kernel
theorem dX3_quote_55 : decode cX3_quote 55 = .ok (.if_icmp .lt 13, 3) := by decide +kernel
theorem dX3_quote_58 : decode cX3_quote 58 = .ok (.new 68, 3) := by decide +kernel
theorem dX3_quote_61 : decode cX3_quote 61 = .ok (.dup, 1) := by decide +kernel
theorem dX3_quote_62 : decode cX3_quote 62 = .ok (.ldc 201, 2) := by decide +kernel
theorem dX3_quote_64 : decode cX3_quote 64 = .ok (.invokespecial 72, 3) := by decide +kernel
theorem dX3_quote_67 : decode cX3_quote 67 = .ok (.athrow, 1) := by decide +kernel
theorem dX3_quote_68 : decode cX3_quote 68 = .ok (.aload_n 0, 1) := by decide +kernel
theorem dX3_quote_69 : decode cX3_quote 69 = .ok (.getfield 19, 3) := by decide +kernel
theorem dX3_quote_72 : decode cX3_quote 72 = .ok (.aload_n 2, 1) := by decide +kernel
theorem dX3_quote_73 : decode cX3_quote 73 = .ok (.invokevirtual 94, 3) := by decide +kernel
theorem dX3_quote_76 : decode cX3_quote 76 = .ok (.pop, 1) := by decide +kernel
theorem dX3_quote_77 : decode cX3_quote 77 = .ok (.iload_n 3, 1) := by decide +kernel
theorem dX3_quote_78 : decode cX3_quote 78 = .ok (.ireturn, 1) := by decide +kernel
theorem dX3_quoted_0 : decode cX3_quoted 0 = .ok (.iload_n 1, 1) := by decide +kernel
theorem dX3_quoted_1 : decode cX3_quoted 1 = .ok (.aload_n 0, 1) := by decide +kernel
theorem dX3_quoted_2 : decode cX3_quoted 2 = .ok (.getfield 19, 3) := by decide +kernel
theorem dX3_quoted_5 : decode cX3_quoted 5 = .ok (.invokevirtual 80, 3) := by decide +kernel
theorem dX3_quoted_8 : decode cX3_quoted 8 = .ok (.invokestatic 57, 3) := by decide +kernel
theorem dX3_quoted_11 : decode cX3_quoted 11 = .ok (.ifCond .eq 13, 3) := by decide +kernel
theorem dX3_quoted_14 : decode cX3_quoted 14 = .ok (.new 61, 3) := by decide +kernel
theorem dX3_quoted_17 : decode cX3_quoted 17 = .ok (.dup, 1) := by decide +kernel
theorem dX3_quoted_18 : decode cX3_quoted 18 = .ok (.ldc 203, 2) := by decide +kernel
theorem dX3_quoted_20 : decode cX3_quoted 20 = .ok (.invokespecial 65, 3) := by decide +kernel
theorem dX3_quoted_23 : decode cX3_quoted 23 = .ok (.athrow, 1) := by decide +kernel
theorem dX3_quoted_24 : decode cX3_quoted 24 = .ok (.aload_n 0, 1) := by decide +kernel
theorem dX3_quoted_25 : decode cX3_quoted 25 = .ok (.aload_n 0, 1) := by decide +kernel
theorem dX3_quoted_26 : decode cX3_quoted 26 = .ok (.getfield 19, 3) := by decide +kernel
theorem dX3_quoted_29 : decode cX3_quoted 29 = .ok (.iload_n 1, 1) := by decide +kernel
theorem dX3_quoted_30 : decode cX3_quoted 30 = .ok (.invokevirtual 108, 3) := by decide +kernel
theorem dX3_quoted_33 : decode cX3_quoted 33 = .ok (.checkcast 86, 3) := by decide +kernel
theorem dX3_quoted_36 : decode cX3_quoted 36 = .ok (.invokevirtual 112, 3) := by decide +kernel
theorem dX3_quoted_39 : decode cX3_quoted 39 = .ok (.ireturn, 1) := by decide +kernel
theorem dX3_isOutside_0 : decode cX3_isOutside 0 = .ok (.iload_n 0, 1) := by decide +kernel
theorem dX3_isOutside_1 : decode cX3_isOutside 1 = .ok (.ifCond .lt 8, 3) := by decide +kernel
theorem dX3_isOutside_4 : decode cX3_isOutside 4 = .ok (.iload_n 0, 1) := by decide +kernel
theorem dX3_isOutside_5 : decode cX3_isOutside 5 = .ok (.iload_n 1, 1) := by decide +kernel
theorem dX3_isOutside_6 : decode cX3_isOutside 6 = .ok (.if_icmp .lt 7, 3) := by decide +kernel
theorem dX3_isOutside_9 : decode cX3_isOutside 9 = .ok (.iconst 1, 1) := by decide +kernel
theorem dX3_isOutside_10 : decode cX3_isOutside 10 = .ok (.goto 4, 3) := by decide +kernel
theorem dX3_isOutside_13 : decode cX3_isOutside 13 = .ok (.iconst 0, 1) := by decide +kernel
theorem dX3_isOutside_14 : decode cX3_isOutside 14 = .ok (.ireturn, 1) := by decide +kernel
theorem dX3_canStandBehind_0 : decode cX3_canStandBehind 0 = .ok (.iload_n 0, 1) := by decide +kernel
theorem dX3_canStandBehind_1 : decode cX3_canStandBehind 1 = .ok (.bipush 8, 2) := by decide +kernel
theorem dX3_canStandBehind_3 : decode cX3_canStandBehind 3 = .ok (.if_icmp .eq 18, 3) := by decide +kernel
theorem dX3_canStandBehind_6 : decode cX3_canStandBehind 6 = .ok (.iload_n 0, 1) := by decide +kernel
theorem dX3_canStandBehind_7 : decode cX3_canStandBehind 7 = .ok (.bipush 9, 2) := by decide +kernel
theorem dX3_canStandBehind_9 : decode cX3_canStandBehind 9 = .ok (.if_icmp .eq 12, 3) := by decide +kernel
theorem dX3_canStandBehind_12 : decode cX3_canStandBehind 12 = .ok (.iload_n 0, 1) := by decide +kernel
theorem dX3_canStandBehind_13 : decode cX3_canStandBehind 13 = .ok (.bipush 8, 2) := by decide +kernel
theorem dX3_canStandBehind_15 : decode cX3_canStandBehind 15 = .ok (.invokestatic 57, 3) := by decide +kernel
theorem dX3_canStandBehind_18 : decode cX3_canStandBehind 18 = .ok (.ifCond .ne 7, 3) := by decide +kernel
theorem dX3_canStandBehind_21 : decode cX3_canStandBehind 21 = .ok (.iconst 1, 1) := by decide +kernel
theorem dX3_canStandBehind_22 : decode cX3_canStandBehind 22 = .ok (.goto 4, 3) := by decide +kernel
theorem dX3_canStandBehind_25 : decode cX3_canStandBehind 25 = .ok (.iconst 0, 1) := by decide +kernel
theorem dX3_canStandBehind_26 : decode cX3_canStandBehind 26 = .ok (.ireturn, 1) := by decide +kernel
theorem dX3_takeDraft_0 : decode cX3_takeDraft 0 = .ok (.aload_n 0, 1) := by decide +kernel
theorem dX3_takeDraft_1 : decode cX3_takeDraft 1 = .ok (.getfield 44, 3) := by decide +kernel
theorem dX3_takeDraft_4 : decode cX3_takeDraft 4 = .ok (.istore_n 1, 1) := by decide +kernel
theorem dX3_takeDraft_5 : decode cX3_takeDraft 5 = .ok (.aload_n 0, 1) := by decide +kernel
theorem dX3_takeDraft_6 : decode cX3_takeDraft 6 = .ok (.iconst 0, 1) := by decide +kernel
theorem dX3_takeDraft_7 : decode cX3_takeDraft 7 = .ok (.putfield 44, 3) := by decide +kernel
theorem dX3_takeDraft_10 : decode cX3_takeDraft 10 = .ok (.aload_n 0, 1) := by decide +kernel
theorem dX3_takeDraft_11 : decode cX3_takeDraft 11 = .ok (.iconst 0, 1) := by decide +kernel
theorem dX3_takeDraft_12 : decode cX3_takeDraft 12 = .ok (.putfield 48, 3) := by decide +kernel
theorem dX3_takeDraft_15 : decode cX3_takeDraft 15 = .ok (.iload_n 1, 1) := by decide +kernel
theorem dX3_takeDraft_16 : decode cX3_takeDraft 16 = .ok (.ireturn, 1) := by decide +kernel
theorem dX3_isThere_0 : decode cX3_isThere 0 = .ok (.aload_n 0, 1) := by decide +kernel
theorem dX3_isThere_1 : decode cX3_isThere 1 = .ok (.getfield 40, 3) := by decide +kernel
theorem dX3_isThere_4 : decode cX3_isThere 4 = .ok (.aload_n 1, 1) := by decide +kernel
theorem dX3_isThere_5 : decode cX3_isThere 5 = .ok (.getfield 151, 3) := by decide +kernel
theorem dX3_isThere_8 : decode cX3_isThere 8 = .ok (.land, 1) := by decide +kernel
theorem dX3_isThere_9 : decode cX3_isThere 9 = .ok (.lconst 0, 1) := by decide +kernel
theorem dX3_isThere_10 : decode cX3_isThere 10 = .ok (.lcmp, 1) := by decide +kernel
theorem dX3_isThere_11 : decode cX3_isThere 11 = .ok (.ifCond .eq 7, 3) := by decide +kernel
theorem dX3_isThere_14 : decode cX3_isThere 14 = .ok (.iconst 1, 1) := by decide +kernel
theorem dX3_isThere_15 : decode cX3_isThere 15 = .ok (.goto 4, 3) := by decide +kernel
theorem dX3_isThere_18 : decode cX3_isThere 18 = .ok (.iconst 0, 1) := by decide +kernel
theorem dX3_isThere_19 : decode cX3_isThere 19 = .ok (.ireturn, 1) := by decide +kernel
theorem dX3_formIfThere_0 : decode cX3_formIfThere 0 = .ok (.aload_n 0, 1) := by decide +kernel
theorem dX3_formIfThere_1 : decode cX3_formIfThere 1 = .ok (.aload_n 1, 1) := by decide +kernel
theorem dX3_formIfThere_2 : decode cX3_formIfThere 2 = .ok (.invokevirtual 139, 3) := by decide +kernel
theorem dX3_formIfThere_5 : decode cX3_formIfThere 5 = .ok (.ifCond .eq 10, 3) := by decide +kernel
theorem dX3_formIfThere_8 : decode cX3_formIfThere 8 = .ok (.aload_n 1, 1) := by decide +kernel
theorem dX3_formIfThere_9 : decode cX3_formIfThere 9 = .ok (.getfield 171, 3) := by decide +kernel
theorem dX3_formIfThere_12 : decode cX3_formIfThere 12 = .ok (.goto 4, 3) := by decide +kernel
theorem dX3_formIfThere_15 : decode cX3_formIfThere 15 = .ok (.iconst (-1), 1) := by decide +kernel
theorem dX3_formIfThere_16 : decode cX3_formIfThere 16 = .ok (.ireturn, 1) := by decide +kernel
theorem dX3_interviewsOf_0 : decode cX3_interviewsOf 0 = .ok (.lconst 0, 1) := by decide +kernel
theorem dX3_interviewsOf_1 : decode cX3_interviewsOf 1 = .ok (.lstore_n 2, 1) := by decide +kernel
theorem dX3_interviewsOf_2 : decode cX3_interviewsOf 2 = .ok (.iconst 0, 1) := by decide +kernel
theorem dX3_interviewsOf_3 : decode cX3_interviewsOf 3 = .ok (.istore 4, 2) := by decide +kernel
theorem dX3_interviewsOf_5 : decode cX3_interviewsOf 5 = .ok (.iload 4, 2) := by decide +kernel
theorem dX3_interviewsOf_7 : decode cX3_interviewsOf 7 = .ok (.aload_n 0, 1) := by decide +kernel
theorem dX3_interviewsOf_8 : decode cX3_interviewsOf 8 = .ok (.getfield 10, 3) := by decide +kernel
theorem dX3_interviewsOf_11 : decode cX3_interviewsOf 11 = .ok (.invokevirtual 80, 3) := by decide +kernel
theorem dX3_interviewsOf_14 : decode cX3_interviewsOf 14 = .ok (.if_icmp .ge 49, 3) := by decide +kernel
theorem dX3_interviewsOf_17 : decode cX3_interviewsOf 17 = .ok (.aload_n 0, 1) := by decide +kernel
theorem dX3_interviewsOf_18 : decode cX3_interviewsOf 18 = .ok (.getfield 10, 3) := by decide +kernel
theorem dX3_interviewsOf_21 : decode cX3_interviewsOf 21 = .ok (.iload 4, 2) := by decide +kernel
theorem dX3_interviewsOf_23 : decode cX3_interviewsOf 23 = .ok (.invokevirtual 108, 3) := by decide +kernel
theorem dX3_interviewsOf_26 : decode cX3_interviewsOf 26 = .ok (.checkcast 86, 3) := by decide +kernel
theorem dX3_interviewsOf_29 : decode cX3_interviewsOf 29 = .ok (.astore 5, 2) := by decide +kernel
theorem dX3_interviewsOf_31 : decode cX3_interviewsOf 31 = .ok (.aload_n 0, 1) := by decide +kernel
theorem dX3_interviewsOf_32 : decode cX3_interviewsOf 32 = .ok (.aload 5, 2) := by decide +kernel
theorem dX3_interviewsOf_34 : decode cX3_interviewsOf 34 = .ok (.invokevirtual 139, 3) := by decide +kernel
theorem dX3_interviewsOf_37 : decode cX3_interviewsOf 37 = .ok (.ifCond .eq 20, 3) := by decide +kernel
theorem dX3_interviewsOf_40 : decode cX3_interviewsOf 40 = .ok (.aload 5, 2) := by decide +kernel
theorem dX3_interviewsOf_42 : decode cX3_interviewsOf 42 = .ok (.getfield 205, 3) := by decide +kernel
theorem dX3_interviewsOf_45 : decode cX3_interviewsOf 45 = .ok (.iload_n 1, 1) := by decide +kernel
theorem dX3_interviewsOf_46 : decode cX3_interviewsOf 46 = .ok (.if_icmp .ne 11, 3) := by decide +kernel
theorem dX3_interviewsOf_49 : decode cX3_interviewsOf 49 = .ok (.lload_n 2, 1) := by decide +kernel
theorem dX3_interviewsOf_50 : decode cX3_interviewsOf 50 = .ok (.aload 5, 2) := by decide +kernel
theorem dX3_interviewsOf_52 : decode cX3_interviewsOf 52 = .ok (.getfield 151, 3) := by decide +kernel
theorem dX3_interviewsOf_55 : decode cX3_interviewsOf 55 = .ok (.lor, 1) := by decide +kernel
theorem dX3_interviewsOf_56 : decode cX3_interviewsOf 56 = .ok (.lstore_n 2, 1) := by decide +kernel
theorem dX3_interviewsOf_57 : decode cX3_interviewsOf 57 = .ok (.iinc 4 1, 3) := by decide +kernel
theorem dX3_interviewsOf_60 : decode cX3_interviewsOf 60 = .ok (.goto (-55), 3) := by decide +kernel
theorem dX3_interviewsOf_63 : decode cX3_interviewsOf 63 = .ok (.lload_n 2, 1) := by decide +kernel
theorem dX3_interviewsOf_64 : decode cX3_interviewsOf 64 = .ok (.lreturn, 1) := by decide +kernel
theorem dX3_applyRules_0 : decode cX3_applyRules 0 = .ok (.iload_n 1, 1) := by decide +kernel
theorem dX3_applyRules_1 : decode cX3_applyRules 1 = .ok (.iconst (-1), 1) := by decide +kernel
theorem dX3_applyRules_2 : decode cX3_applyRules 2 = .ok (.if_icmp .ne 5, 3) := by decide +kernel
theorem dX3_applyRules_5 : decode cX3_applyRules 5 = .ok (.iconst (-1), 1) := by decide +kernel
theorem dX3_applyRules_6 : decode cX3_applyRules 6 = .ok (.ireturn, 1) := by decide +kernel
theorem dX3_applyRules_7 : decode cX3_applyRules 7 = .ok (.iload_n 1, 1) := by decide +kernel
theorem dX3_applyRules_8 : decode cX3_applyRules 8 = .ok (.istore 4, 2) := by decide +kernel
theorem dX3_applyRules_10 : decode cX3_applyRules 10 = .ok (.iconst 0, 1) := by decide +kernel
theorem dX3_applyRules_11 : decode cX3_applyRules 11 = .ok (.istore 5, 2) := by decide +kernel
theorem dX3_applyRules_13 : decode cX3_applyRules 13 = .ok (.iload 5, 2) := by decide +kernel
theorem dX3_applyRules_15 : decode cX3_applyRules 15 = .ok (.aload_n 0, 1) := by decide +kernel
theorem dX3_applyRules_16 : decode cX3_applyRules 16 = .ok (.getfield 16, 3) := by decide +kernel
theorem dX3_applyRules_19 : decode cX3_applyRules 19 = .ok (.invokevirtual 80, 3) := by decide +kernel
theorem dX3_applyRules_22 : decode cX3_applyRules 22 = .ok (.if_icmp .ge 42, 3) := by decide +kernel
theorem dX3_applyRules_25 : decode cX3_applyRules 25 = .ok (.aload_n 0, 1) := by decide +kernel
theorem dX3_applyRules_26 : decode cX3_applyRules 26 = .ok (.getfield 16, 3) := by decide +kernel
theorem dX3_applyRules_29 : decode cX3_applyRules 29 = .ok (.iload 5, 2) := by decide +kernel
theorem dX3_applyRules_31 : decode cX3_applyRules 31 = .ok (.invokevirtual 108, 3) := by decide +kernel
theorem dX3_applyRules_34 : decode cX3_applyRules 34 = .ok (.checkcast 128, 3) := by decide +kernel
theorem dX3_applyRules_37 : decode cX3_applyRules 37 = .ok (.astore 6, 2) := by decide +kernel
theorem dX3_applyRules_39 : decode cX3_applyRules 39 = .ok (.aload 6, 2) := by decide +kernel
theorem dX3_applyRules_41 : decode cX3_applyRules 41 = .ok (.iload_n 2, 1) := by decide +kernel
theorem dX3_applyRules_42 : decode cX3_applyRules 42 = .ok (.iload_n 3, 1) := by decide +kernel
theorem dX3_applyRules_43 : decode cX3_applyRules 43 = .ok (.invokevirtual 208, 3) := by decide +kernel
theorem dX3_applyRules_46 : decode cX3_applyRules 46 = .ok (.ifCond .eq 12, 3) := by decide +kernel
theorem dX3_applyRules_49 : decode cX3_applyRules 49 = .ok (.aload 6, 2) := by decide +kernel
theorem dX3_applyRules_51 : decode cX3_applyRules 51 = .ok (.iload 4, 2) := by decide +kernel
theorem dX3_applyRules_53 : decode cX3_applyRules 53 = .ok (.invokevirtual 211, 3) := by decide +kernel
theorem dX3_applyRules_56 : decode cX3_applyRules 56 = .ok (.istore 4, 2) := by decide +kernel
theorem dX3_applyRules_58 : decode cX3_applyRules 58 = .ok (.iinc 5 1, 3) := by decide +kernel
theorem dX3_applyRules_61 : decode cX3_applyRules 61 = .ok (.goto (-48), 3) := by decide +kernel
theorem dX3_applyRules_64 : decode cX3_applyRules 64 = .ok (.iload 4, 2) := by decide +kernel
theorem dX3_applyRules_66 : decode cX3_applyRules 66 = .ok (.ireturn, 1) := by decide +kernel
theorem dX3_mostToldForm_0 : decode cX3_mostToldForm 0 = .ok (.iconst (-1), 1) := by decide +kernel
theorem dX3_mostToldForm_1 : decode cX3_mostToldForm 1 = .ok (.istore_n 3, 1) := by decide +kernel
theorem dX3_mostToldForm_2 : decode cX3_mostToldForm 2 = .ok (.iconst 0, 1) := by decide +kernel
theorem dX3_mostToldForm_3 : decode cX3_mostToldForm 3 = .ok (.istore 4, 2) := by decide +kernel
theorem dX3_mostToldForm_5 : decode cX3_mostToldForm 5 = .ok (.iconst 0, 1) := by decide +kernel
theorem dX3_mostToldForm_6 : decode cX3_mostToldForm 6 = .ok (.istore 5, 2) := by decide +kernel
theorem dX3_mostToldForm_8 : decode cX3_mostToldForm 8 = .ok (.iload 5, 2) := by decide +kernel
theorem dX3_mostToldForm_10 : decode cX3_mostToldForm 10 = .ok (.aload_n 0, 1) := by decide +kernel
theorem dX3_mostToldForm_11 : decode cX3_mostToldForm 11 = .ok (.getfield 10, 3) := by decide +kernel
theorem dX3_mostToldForm_14 : decode cX3_mostToldForm 14 = .ok (.invokevirtual 80, 3) := by decide +kernel
theorem dX3_mostToldForm_17 : decode cX3_mostToldForm 17 = .ok (.if_icmp .ge 67, 3) := by decide +kernel
theorem dX3_mostToldForm_20 : decode cX3_mostToldForm 20 = .ok (.aload_n 0, 1) := by decide +kernel
theorem dX3_mostToldForm_21 : decode cX3_mostToldForm 21 = .ok (.getfield 10, 3) := by decide +kernel
theorem dX3_mostToldForm_24 : decode cX3_mostToldForm 24 = .ok (.iload 5, 2) := by decide +kernel
theorem dX3_mostToldForm_26 : decode cX3_mostToldForm 26 = .ok (.invokevirtual 108, 3) := by decide +kernel
theorem dX3_mostToldForm_29 : decode cX3_mostToldForm 29 = .ok (.checkcast 86, 3) := by decide +kernel
theorem dX3_mostToldForm_32 : decode cX3_mostToldForm 32 = .ok (.astore 6, 2) := by decide +kernel
theorem dX3_mostToldForm_34 : decode cX3_mostToldForm 34 = .ok (.aload_n 0, 1) := by decide +kernel
theorem dX3_mostToldForm_35 : decode cX3_mostToldForm 35 = .ok (.aload 6, 2) := by decide +kernel
theorem dX3_mostToldForm_37 : decode cX3_mostToldForm 37 = .ok (.invokevirtual 139, 3) := by decide +kernel
theorem dX3_mostToldForm_40 : decode cX3_mostToldForm 40 = .ok (.ifCond .eq 38, 3) := by decide +kernel
theorem dX3_mostToldForm_43 : decode cX3_mostToldForm 43 = .ok (.aload 6, 2) := by decide +kernel
theorem dX3_mostToldForm_45 : decode cX3_mostToldForm 45 = .ok (.iload_n 1, 1) := by decide +kernel
theorem dX3_mostToldForm_46 : decode cX3_mostToldForm 46 = .ok (.iload_n 2, 1) := by decide +kernel
theorem dX3_mostToldForm_47 : decode cX3_mostToldForm 47 = .ok (.invokevirtual 214, 3) := by decide +kernel
theorem dX3_mostToldForm_50 : decode cX3_mostToldForm 50 = .ok (.ifCond .eq 28, 3) := by decide +kernel
theorem dX3_mostToldForm_53 : decode cX3_mostToldForm 53 = .ok (.aload_n 0, 1) := by decide +kernel
theorem dX3_mostToldForm_54 : decode cX3_mostToldForm 54 = .ok (.aload 6, 2) := by decide +kernel
theorem dX3_mostToldForm_56 : decode cX3_mostToldForm 56 = .ok (.invokevirtual 217, 3) := by decide +kernel
theorem dX3_mostToldForm_59 : decode cX3_mostToldForm 59 = .ok (.istore 7, 2) := by decide +kernel
theorem dX3_mostToldForm_61 : decode cX3_mostToldForm 61 = .ok (.iload 7, 2) := by decide +kernel
theorem dX3_mostToldForm_63 : decode cX3_mostToldForm 63 = .ok (.iload 4, 2) := by decide +kernel
theorem dX3_mostToldForm_65 : decode cX3_mostToldForm 65 = .ok (.if_icmp .le 13, 3) := by decide +kernel
theorem dX3_mostToldForm_68 : decode cX3_mostToldForm 68 = .ok (.iload 7, 2) := by decide +kernel
theorem dX3_mostToldForm_70 : decode cX3_mostToldForm 70 = .ok (.istore 4, 2) := by decide +kernel
theorem dX3_mostToldForm_72 : decode cX3_mostToldForm 72 = .ok (.aload 6, 2) := by decide +kernel
theorem dX3_mostToldForm_74 : decode cX3_mostToldForm 74 = .ok (.getfield 171, 3) := by decide +kernel
theorem dX3_mostToldForm_77 : decode cX3_mostToldForm 77 = .ok (.istore_n 3, 1) := by decide +kernel
theorem dX3_mostToldForm_78 : decode cX3_mostToldForm 78 = .ok (.iinc 5 1, 3) := by decide +kernel
theorem dX3_mostToldForm_81 : decode cX3_mostToldForm 81 = .ok (.goto (-73), 3) := by decide +kernel
theorem dX3_mostToldForm_84 : decode cX3_mostToldForm 84 = .ok (.iload_n 3, 1) := by decide +kernel
theorem dX3_mostToldForm_85 : decode cX3_mostToldForm 85 = .ok (.ireturn, 1) := by decide +kernel
theorem dX3_countLike_0 : decode cX3_countLike 0 = .ok (.iconst 0, 1) := by decide +kernel
theorem dX3_countLike_1 : decode cX3_countLike 1 = .ok (.istore_n 2, 1) := by decide +kernel
theorem dX3_countLike_2 : decode cX3_countLike 2 = .ok (.iconst 0, 1) := by decide +kernel
theorem dX3_countLike_3 : decode cX3_countLike 3 = .ok (.istore_n 3, 1) := by decide +kernel
theorem dX3_countLike_4 : decode cX3_countLike 4 = .ok (.iload_n 3, 1) := by decide +kernel
theorem dX3_countLike_5 : decode cX3_countLike 5 = .ok (.aload_n 0, 1) := by decide +kernel
theorem dX3_countLike_6 : decode cX3_countLike 6 = .ok (.getfield 10, 3) := by decide +kernel
theorem dX3_countLike_9 : decode cX3_countLike 9 = .ok (.invokevirtual 80, 3) := by decide +kernel
theorem dX3_countLike_12 : decode cX3_countLike 12 = .ok (.if_icmp .ge 62, 3) := by decide +kernel
theorem dX3_countLike_15 : decode cX3_countLike 15 = .ok (.aload_n 0, 1) := by decide +kernel
theorem dX3_countLike_16 : decode cX3_countLike 16 = .ok (.getfield 10, 3) := by decide +kernel
theorem dX3_countLike_19 : decode cX3_countLike 19 = .ok (.iload_n 3, 1) := by decide +kernel
theorem dX3_countLike_20 : decode cX3_countLike 20 = .ok (.invokevirtual 108, 3) := by decide +kernel
theorem dX3_countLike_23 : decode cX3_countLike 23 = .ok (.checkcast 86, 3) := by decide +kernel
theorem dX3_countLike_26 : decode cX3_countLike 26 = .ok (.astore 4, 2) := by decide +kernel
theorem dX3_countLike_28 : decode cX3_countLike 28 = .ok (.aload_n 0, 1) := by decide +kernel
theorem dX3_countLike_29 : decode cX3_countLike 29 = .ok (.aload 4, 2) := by decide +kernel
theorem dX3_countLike_31 : decode cX3_countLike 31 = .ok (.invokevirtual 139, 3) := by decide +kernel
theorem dX3_countLike_34 : decode cX3_countLike 34 = .ok (.ifCond .eq 34, 3) := by decide +kernel
theorem dX3_countLike_37 : decode cX3_countLike 37 = .ok (.aload 4, 2) := by decide +kernel
theorem dX3_countLike_39 : decode cX3_countLike 39 = .ok (.aload_n 1, 1) := by decide +kernel
theorem dX3_countLike_40 : decode cX3_countLike 40 = .ok (.getfield 168, 3) := by decide +kernel
theorem dX3_countLike_43 : decode cX3_countLike 43 = .ok (.aload_n 1, 1) := by decide +kernel
theorem dX3_countLike_44 : decode cX3_countLike 44 = .ok (.getfield 174, 3) := by decide +kernel
theorem dX3_countLike_47 : decode cX3_countLike 47 = .ok (.invokevirtual 214, 3) := by decide +kernel
theorem dX3_countLike_50 : decode cX3_countLike 50 = .ok (.ifCond .eq 18, 3) := by decide +kernel
theorem dX3_countLike_53 : decode cX3_countLike 53 = .ok (.aload 4, 2) := by decide +kernel
theorem dX3_countLike_55 : decode cX3_countLike 55 = .ok (.getfield 171, 3) := by decide +kernel
theorem dX3_countLike_58 : decode cX3_countLike 58 = .ok (.aload_n 1, 1) := by decide +kernel
theorem dX3_countLike_59 : decode cX3_countLike 59 = .ok (.getfield 171, 3) := by decide +kernel
theorem dX3_countLike_62 : decode cX3_countLike 62 = .ok (.if_icmp .ne 6, 3) := by decide +kernel
theorem dX3_countLike_65 : decode cX3_countLike 65 = .ok (.iinc 2 1, 3) := by decide +kernel
theorem dX3_countLike_68 : decode cX3_countLike 68 = .ok (.iinc 3 1, 3) := by decide +kernel
theorem dX3_countLike_71 : decode cX3_countLike 71 = .ok (.goto (-67), 3) := by decide +kernel
theorem dX3_countLike_74 : decode cX3_countLike 74 = .ok (.iload_n 2, 1) := by decide +kernel
theorem dX3_countLike_75 : decode cX3_countLike 75 = .ok (.ireturn, 1) := by decide +kernel
theorem dX3_drawLines_0 : decode cX3_drawLines 0 = .ok (.iconst 0, 1) := by decide +kernel
theorem dX3_drawLines_1 : decode cX3_drawLines 1 = .ok (.istore_n 2, 1) := by decide +kernel
theorem dX3_drawLines_2 : decode cX3_drawLines 2 = .ok (.aload_n 0, 1) := by decide +kernel
theorem dX3_drawLines_3 : decode cX3_drawLines 3 = .ok (.iload_n 1, 1) := by decide +kernel
theorem dX3_drawLines_4 : decode cX3_drawLines 4 = .ok (.iconst 0, 1) := by decide +kernel
theorem dX3_drawLines_5 : decode cX3_drawLines 5 = .ok (.invokevirtual 184, 3) := by decide +kernel
theorem dX3_drawLines_8 : decode cX3_drawLines 8 = .ok (.istore_n 3, 1) := by decide +kernel
theorem dX3_drawLines_9 : decode cX3_drawLines 9 = .ok (.iconst 0, 1) := by decide +kernel
theorem dX3_drawLines_10 : decode cX3_drawLines 10 = .ok (.istore 4, 2) := by decide +kernel
theorem dX3_drawLines_12 : decode cX3_drawLines 12 = .ok (.iload 4, 2) := by decide +kernel
theorem dX3_drawLines_14 : decode cX3_drawLines 14 = .ok (.iconst 1, 1) := by decide +kernel
theorem dX3_drawLines_15 : decode cX3_drawLines 15 = .ok (.iadd, 1) := by decide +kernel
theorem dX3_drawLines_16 : decode cX3_drawLines 16 = .ok (.bipush 10, 2) := by decide +kernel
theorem dX3_drawLines_18 : decode cX3_drawLines 18 = .ok (.if_icmp .ge 47, 3) := by decide +kernel
theorem dX3_drawLines_21 : decode cX3_drawLines 21 = .ok (.aload_n 0, 1) := by decide +kernel
theorem dX3_drawLines_22 : decode cX3_drawLines 22 = .ok (.iload_n 1, 1) := by decide +kernel
theorem dX3_drawLines_23 : decode cX3_drawLines 23 = .ok (.iload 4, 2) := by decide +kernel
theorem dX3_drawLines_25 : decode cX3_drawLines 25 = .ok (.iconst 1, 1) := by decide +kernel
theorem dX3_drawLines_26 : decode cX3_drawLines 26 = .ok (.iadd, 1) := by decide +kernel
theorem dX3_drawLines_27 : decode cX3_drawLines 27 = .ok (.invokevirtual 184, 3) := by decide +kernel
theorem dX3_drawLines_30 : decode cX3_drawLines 30 = .ok (.istore 5, 2) := by decide +kernel
theorem dX3_drawLines_32 : decode cX3_drawLines 32 = .ok (.iload_n 3, 1) := by decide +kernel
theorem dX3_drawLines_33 : decode cX3_drawLines 33 = .ok (.iconst (-1), 1) := by decide +kernel
theorem dX3_drawLines_34 : decode cX3_drawLines 34 = .ok (.if_icmp .eq 22, 3) := by decide +kernel
theorem dX3_drawLines_37 : decode cX3_drawLines 37 = .ok (.iload 5, 2) := by decide +kernel
theorem dX3_drawLines_39 : decode cX3_drawLines 39 = .ok (.iconst (-1), 1) := by decide +kernel
theorem dX3_drawLines_40 : decode cX3_drawLines 40 = .ok (.if_icmp .eq 16, 3) := by decide +kernel
theorem dX3_drawLines_43 : decode cX3_drawLines 43 = .ok (.iload_n 3, 1) := by decide +kernel
theorem dX3_drawLines_44 : decode cX3_drawLines 44 = .ok (.iload 5, 2) := by decide +kernel
theorem dX3_drawLines_46 : decode cX3_drawLines 46 = .ok (.if_icmp .eq 10, 3) := by decide +kernel
theorem dX3_drawLines_49 : decode cX3_drawLines 49 = .ok (.iload_n 2, 1) := by decide +kernel
theorem dX3_drawLines_50 : decode cX3_drawLines 50 = .ok (.iconst 1, 1) := by decide +kernel
theorem dX3_drawLines_51 : decode cX3_drawLines 51 = .ok (.iload 4, 2) := by decide +kernel
theorem dX3_drawLines_53 : decode cX3_drawLines 53 = .ok (.ishl, 1) := by decide +kernel
theorem dX3_drawLines_54 : decode cX3_drawLines 54 = .ok (.ior, 1) := by decide +kernel
theorem dX3_drawLines_55 : decode cX3_drawLines 55 = .ok (.istore_n 2, 1) := by decide +kernel
theorem dX3_drawLines_56 : decode cX3_drawLines 56 = .ok (.iload 5, 2) := by decide +kernel
theorem dX3_drawLines_58 : decode cX3_drawLines 58 = .ok (.istore_n 3, 1) := by decide +kernel
theorem dX3_drawLines_59 : decode cX3_drawLines 59 = .ok (.iinc 4 1, 3) := by decide +kernel
theorem dX3_drawLines_62 : decode cX3_drawLines 62 = .ok (.goto (-50), 3) := by decide +kernel
theorem dX3_drawLines_65 : decode cX3_drawLines 65 = .ok (.iload_n 2, 1) := by decide +kernel
theorem dX3_drawLines_66 : decode cX3_drawLines 66 = .ok (.ireturn, 1) := by decide +kernel
theorem dX4_init_0 : decode cX4_init 0 = .ok (.aload_n 0, 1) := by decide +kernel
theorem dX4_init_1 : decode cX4_init 1 = .ok (.invokespecial 1, 3) := by decide +kernel
theorem dX4_init_4 : decode cX4_init 4 = .ok (.aload_n 0, 1) := by decide +kernel
theorem dX4_init_5 : decode cX4_init 5 = .ok (.bipush 8, 2) := by decide +kernel
theorem dX4_init_7 : decode cX4_init 7 = .ok (.newarray .int, 2) := by decide +kernel
theorem dX4_init_9 : decode cX4_init 9 = .ok (.putfield 7, 3) := by decide +kernel
theorem dX4_init_12 : decode cX4_init 12 = .ok (.aload_n 0, 1) := by decide +kernel
theorem dX4_init_13 : decode cX4_init 13 = .ok (.bipush 40, 2) := by decide +kernel
theorem dX4_init_15 : decode cX4_init 15 = .ok (.newarray .int, 2) := by decide +kernel
theorem dX4_init_17 : decode cX4_init 17 = .ok (.putfield 13, 3) := by decide +kernel
theorem dX4_init_20 : decode cX4_init 20 = .ok (.aload_n 0, 1) := by decide +kernel
theorem dX4_init_21 : decode cX4_init 21 = .ok (.bipush 40, 2) := by decide +kernel
theorem dX4_init_23 : decode cX4_init 23 = .ok (.newarray .int, 2) := by decide +kernel
theorem dX4_init_25 : decode cX4_init 25 = .ok (.putfield 16, 3) := by decide +kernel
theorem dX4_init_28 : decode cX4_init 28 = .ok (.aload_n 0, 1) := by decide +kernel
theorem dX4_init_29 : decode cX4_init 29 = .ok (.bipush 40, 2) := by decide +kernel
theorem dX4_init_31 : decode cX4_init 31 = .ok (.newarray .int, 2) := by decide +kernel
theorem dX4_init_33 : decode cX4_init 33 = .ok (.putfield 19, 3) := by decide +kernel
theorem dX4_init_36 : decode cX4_init 36 = .ok (.aload_n 0, 1) := by decide +kernel
theorem dX4_init_37 : decode cX4_init 37 = .ok (.bipush 40, 2) := by decide +kernel
theorem dX4_init_39 : decode cX4_init 39 = .ok (.newarray .int, 2) := by decide +kernel
theorem dX4_init_41 : decode cX4_init 41 = .ok (.putfield 22, 3) := by decide +kernel
theorem dX4_init_44 : decode cX4_init 44 = .ok (.aload_n 0, 1) := by decide +kernel
theorem dX4_init_45 : decode cX4_init 45 = .ok (.bipush 40, 2) := by decide +kernel
theorem dX4_init_47 : decode cX4_init 47 = .ok (.newarray .int, 2) := by decide +kernel
theorem dX4_init_49 : decode cX4_init 49 = .ok (.putfield 25, 3) := by decide +kernel
theorem dX4_init_52 : decode cX4_init 52 = .ok (.aload_n 0, 1) := by decide +kernel
theorem dX4_init_53 : decode cX4_init 53 = .ok (.bipush 40, 2) := by decide +kernel
theorem dX4_init_55 : decode cX4_init 55 = .ok (.newarray .boolean, 2) := by decide +kernel
theorem dX4_init_57 : decode cX4_init 57 = .ok (.putfield 28, 3) := by decide +kernel
theorem dX4_init_60 : decode cX4_init 60 = .ok (.aload_n 0, 1) := by decide +kernel
theorem dX4_init_61 : decode cX4_init 61 = .ok (.iconst 4, 1) := by decide +kernel
theorem dX4_init_62 : decode cX4_init 62 = .ok (.newarray .int, 2) := by decide +kernel
theorem dX4_init_64 : decode cX4_init 64 = .ok (.putfield 32, 3) := by decide +kernel
theorem dX4_init_67 : decode cX4_init 67 = .ok (.aload_n 0, 1) := by decide +kernel
theorem dX4_init_68 : decode cX4_init 68 = .ok (.bipush 20, 2) := by decide +kernel
theorem dX4_init_70 : decode cX4_init 70 = .ok (.newarray .int, 2) := by decide +kernel
theorem dX4_init_72 : decode cX4_init 72 = .ok (.putfield 35, 3) := by decide +kernel
theorem dX4_init_75 : decode cX4_init 75 = .ok (.aload_n 0, 1) := by decide +kernel
theorem dX4_init_76 : decode cX4_init 76 = .ok (.bipush 20, 2) := by decide +kernel
theorem dX4_init_78 : decode cX4_init 78 = .ok (.newarray .int, 2) := by decide +kernel
theorem dX4_init_80 : decode cX4_init 80 = .ok (.putfield 38, 3) := by decide +kernel
theorem dX4_init_83 : decode cX4_init 83 = .ok (.aload_n 0, 1) := by decide +kernel
theorem dX4_init_84 : decode cX4_init 84 = .ok (.bipush 20, 2) := by decide +kernel
theorem dX4_init_86 : decode cX4_init 86 = .ok (.newarray .int, 2) := by decide +kernel
theorem dX4_init_88 : decode cX4_init 88 = .ok (.putfield 41, 3) := by decide +kernel
theorem dX4_init_91 : decode cX4_init 91 = .ok (.aload_n 0, 1) := by decide +kernel
theorem dX4_init_92 : decode cX4_init 92 = .ok (.bipush 20, 2) := by decide +kernel
theorem dX4_init_94 : decode cX4_init 94 = .ok (.newarray .int, 2) := by decide +kernel
theorem dX4_init_96 : decode cX4_init 96 = .ok (.putfield 44, 3) := by decide +kernel
theorem dX4_init_99 : decode cX4_init 99 = .ok (.aload_n 0, 1) := by decide +kernel
theorem dX4_init_100 : decode cX4_init 100 = .ok (.bipush 20, 2) := by decide +kernel
theorem dX4_init_102 : decode cX4_init 102 = .ok (.newarray .int, 2) := by decide +kernel
theorem dX4_init_104 : decode cX4_init 104 = .ok (.putfield 47, 3) := by decide +kernel
theorem dX4_init_107 : decode cX4_init 107 = .ok (.aload_n 0, 1) := by decide +kernel
theorem dX4_init_108 : decode cX4_init 108 = .ok (.bipush 20, 2) := by decide +kernel
theorem dX4_init_110 : decode cX4_init 110 = .ok (.newarray .int, 2) := by decide +kernel
theorem dX4_init_112 : decode cX4_init 112 = .ok (.putfield 50, 3) := by decide +kernel
theorem dX4_init_115 : decode cX4_init 115 = .ok (.aload_n 0, 1) := by decide +kernel
theorem dX4_init_116 : decode cX4_init 116 = .ok (.bipush 20, 2) := by decide +kernel
theorem dX4_init_118 : decode cX4_init 118 = .ok (.newarray .boolean, 2) := by decide +kernel
theorem dX4_init_120 : decode cX4_init 120 = .ok (.putfield 53, 3) := by decide +kernel
theorem dX4_init_123 : decode cX4_init 123 = .ok (.aload_n 0, 1) := by decide +kernel
theorem dX4_init_124 : decode cX4_init 124 = .ok (.bipush 20, 2) := by decide +kernel
theorem dX4_init_126 : decode cX4_init 126 = .ok (.newarray .long, 2) := by decide +kernel
theorem dX4_init_128 : decode cX4_init 128 = .ok (.putfield 56, 3) := by decide +kernel
theorem dX4_init_131 : decode cX4_init 131 = .ok (.aload_n 0, 1) := by decide +kernel
theorem dX4_init_132 : decode cX4_init 132 = .ok (.iconst 3, 1) := by decide +kernel
theorem dX4_init_133 : decode cX4_init 133 = .ok (.newarray .long, 2) := by decide +kernel
theorem dX4_init_135 : decode cX4_init 135 = .ok (.putfield 60, 3) := by decide +kernel
theorem dX4_init_138 : decode cX4_init 138 = .ok (.aload_n 0, 1) := by decide +kernel
theorem dX4_init_139 : decode cX4_init 139 = .ok (.bipush 20, 2) := by decide +kernel
theorem dX4_init_141 : decode cX4_init 141 = .ok (.newarray .int, 2) := by decide +kernel
theorem dX4_init_143 : decode cX4_init 143 = .ok (.putfield 63, 3) := by decide +kernel
theorem dX4_init_146 : decode cX4_init 146 = .ok (.aload_n 0, 1) := by decide +kernel
theorem dX4_init_147 : decode cX4_init 147 = .ok (.bipush 8, 2) := by decide +kernel
theorem dX4_init_149 : decode cX4_init 149 = .ok (.newarray .int, 2) := by decide +kernel
theorem dX4_init_151 : decode cX4_init 151 = .ok (.putfield 66, 3) := by decide +kernel
theorem dX4_init_154 : decode cX4_init 154 = .ok (.aload_n 0, 1) := by decide +kernel
theorem dX4_init_155 : decode cX4_init 155 = .ok (.bipush 8, 2) := by decide +kernel
theorem dX4_init_157 : decode cX4_init 157 = .ok (.newarray .int, 2) := by decide +kernel
theorem dX4_init_159 : decode cX4_init 159 = .ok (.putfield 69, 3) := by decide +kernel
theorem dX4_init_162 : decode cX4_init 162 = .ok (.aload_n 0, 1) := by decide +kernel
theorem dX4_init_163 : decode cX4_init 163 = .ok (.bipush 8, 2) := by decide +kernel
theorem dX4_init_165 : decode cX4_init 165 = .ok (.newarray .int, 2) := by decide +kernel
theorem dX4_init_167 : decode cX4_init 167 = .ok (.putfield 72, 3) := by decide +kernel
theorem dX4_init_170 : decode cX4_init 170 = .ok (.aload_n 0, 1) := by decide +kernel
theorem dX4_init_171 : decode cX4_init 171 = .ok (.bipush 9, 2) := by decide +kernel
theorem dX4_init_173 : decode cX4_init 173 = .ok (.newarray .int, 2) := by decide +kernel
theorem dX4_init_175 : decode cX4_init 175 = .ok (.putfield 75, 3) := by decide +kernel
theorem dX4_init_178 : decode cX4_init 178 = .ok (.iconst 0, 1) := by decide +kernel
theorem dX4_init_179 : decode cX4_init 179 = .ok (.istore_n 1, 1) := by decide +kernel
theorem dX4_init_180 : decode cX4_init 180 = .ok (.iload_n 1, 1) := by decide +kernel
theorem dX4_init_181 : decode cX4_init 181 = .ok (.iconst 4, 1) := by decide +kernel
theorem dX4_init_182 : decode cX4_init 182 = .ok (.if_icmp .ge 16, 3) := by decide +kernel
theorem dX4_init_185 : decode cX4_init 185 = .ok (.aload_n 0, 1) := by decide +kernel
theorem dX4_init_186 : decode cX4_init 186 = .ok (.getfield 32, 3) := by decide +kernel
theorem dX4_init_189 : decode cX4_init 189 = .ok (.iload_n 1, 1) := by decide +kernel
theorem dX4_init_190 : decode cX4_init 190 = .ok (.iconst (-1), 1) := by decide +kernel
theorem dX4_init_191 : decode cX4_init 191 = .ok (.iastore, 1) := by decide +kernel
theorem dX4_init_192 : decode cX4_init 192 = .ok (.iinc 1 1, 3) := by decide +kernel
theorem dX4_init_195 : decode cX4_init 195 = .ok (.goto (-15), 3) := by decide +kernel
theorem dX4_init_198 : decode cX4_init 198 = .ok (.return_, 1) := by decide +kernel
theorem dX4_thrown_0 : decode cX4_thrown 0 = .ok (.aload_n 0, 1) := by decide +kernel
theorem dX4_thrown_1 : decode cX4_thrown 1 = .ok (.getfield 78, 3) := by decide +kernel
theorem dX4_thrown_4 : decode cX4_thrown 4 = .ok (.ireturn, 1) := by decide +kernel
theorem dX4_fails_0 : decode cX4_fails 0 = .ok (.aload_n 0, 1) := by decide +kernel
theorem dX4_fails_1 : decode cX4_fails 1 = .ok (.iload_n 1, 1) := by decide +kernel
theorem dX4_fails_2 : decode cX4_fails 2 = .ok (.putfield 78, 3) := by decide +kernel
theorem dX4_fails_5 : decode cX4_fails 5 = .ok (.iconst 0, 1) := by decide +kernel
theorem dX4_fails_6 : decode cX4_fails 6 = .ok (.ireturn, 1) := by decide +kernel
theorem dX4_in_0 : decode cX4_in 0 = .ok (.iload_n 0, 1) := by decide +kernel
theorem dX4_in_1 : decode cX4_in 1 = .ok (.iload_n 1, 1) := by decide +kernel
theorem dX4_in_2 : decode cX4_in 2 = .ok (.if_icmp .lt 12, 3) := by decide +kernel
theorem dX4_in_5 : decode cX4_in 5 = .ok (.iload_n 0, 1) := by decide +kernel
theorem dX4_in_6 : decode cX4_in 6 = .ok (.iload_n 2, 1) := by decide +kernel
theorem dX4_in_7 : decode cX4_in 7 = .ok (.if_icmp .gt 7, 3) := by decide +kernel
theorem dX4_in_10 : decode cX4_in 10 = .ok (.iconst 1, 1) := by decide +kernel
theorem dX4_in_11 : decode cX4_in 11 = .ok (.goto 4, 3) := by decide +kernel
theorem dX4_in_14 : decode cX4_in 14 = .ok (.iconst 0, 1) := by decide +kernel
theorem dX4_in_15 : decode cX4_in 15 = .ok (.ireturn, 1) := by decide +kernel
theorem dX4_isPlace_0 : decode cX4_isPlace 0 = .ok (.iload_n 0, 1) := by decide +kernel
theorem dX4_isPlace_1 : decode cX4_isPlace 1 = .ok (.iconst 0, 1) := by decide +kernel
theorem dX4_isPlace_2 : decode cX4_isPlace 2 = .ok (.bipush 9, 2) := by decide +kernel
theorem dX4_isPlace_4 : decode cX4_isPlace 4 = .ok (.invokestatic 82, 3) := by decide +kernel
theorem dX4_isPlace_7 : decode cX4_isPlace 7 = .ok (.ireturn, 1) := by decide +kernel
theorem dX4_isWord_0 : decode cX4_isWord 0 = .ok (.iload_n 0, 1) := by decide +kernel
theorem dX4_isWord_1 : decode cX4_isWord 1 = .ok (.iconst 0, 1) := by decide +kernel
theorem dX4_isWord_2 : decode cX4_isWord 2 = .ok (.iconst 3, 1) := by decide +kernel
theorem dX4_isWord_3 : decode cX4_isWord 3 = .ok (.invokestatic 82, 3) := by decide +kernel
theorem dX4_isWord_6 : decode cX4_isWord 6 = .ok (.ireturn, 1) := by decide +kernel
theorem dX4_isSound_0 : decode cX4_isSound 0 = .ok (.iload_n 0, 1) := by decide +kernel
theorem dX4_isSound_1 : decode cX4_isSound 1 = .ok (.iconst 0, 1) := by decide +kernel
theorem dX4_isSound_2 : decode cX4_isSound 2 = .ok (.bipush 7, 2) := by decide +kernel
theorem dX4_isSound_4 : decode cX4_isSound 4 = .ok (.invokestatic 82, 3) := by decide +kernel
theorem dX4_isSound_7 : decode cX4_isSound 7 = .ok (.ireturn, 1) := by decide +kernel
theorem dX4_isSchool_0 : decode cX4_isSchool 0 = .ok (.iload_n 0, 1) := by decide +kernel
theorem dX4_isSchool_1 : decode cX4_isSchool 1 = .ok (.iconst 0, 1) := by decide +kernel
theorem dX4_isSchool_2 : decode cX4_isSchool 2 = .ok (.iconst 2, 1) := by decide +kernel
theorem dX4_isSchool_3 : decode cX4_isSchool 3 = .ok (.invokestatic 82, 3) := by decide +kernel
theorem dX4_isSchool_6 : decode cX4_isSchool 6 = .ok (.ireturn, 1) := by decide +kernel
theorem dX4_isInterview_0 : decode cX4_isInterview 0 = .ok (.iload_n 1, 1) := by decide +kernel
theorem dX4_isInterview_1 : decode cX4_isInterview 1 = .ok (.iconst 0, 1) := by decide +kernel
theorem dX4_isInterview_2 : decode cX4_isInterview 2 = .ok (.aload_n 0, 1) := by decide +kernel
theorem dX4_isInterview_3 : decode cX4_isInterview 3 = .ok (.getfield 86, 3) := by decide +kernel
theorem dX4_isInterview_6 : decode cX4_isInterview 6 = .ok (.iconst 1, 1) := by decide +kernel
theorem dX4_isInterview_7 : decode cX4_isInterview 7 = .ok (.isub, 1) := by decide +kernel
theorem dX4_isInterview_8 : decode cX4_isInterview 8 = .ok (.invokestatic 82, 3) := by decide +kernel
theorem dX4_isInterview_11 : decode cX4_isInterview 11 = .ok (.ireturn, 1) := by decide +kernel
theorem dX4_isRule_0 : decode cX4_isRule 0 = .ok (.iload_n 1, 1) := by decide +kernel
theorem dX4_isRule_1 : decode cX4_isRule 1 = .ok (.iconst 0, 1) := by decide +kernel
theorem dX4_isRule_2 : decode cX4_isRule 2 = .ok (.aload_n 0, 1) := by decide +kernel
theorem dX4_isRule_3 : decode cX4_isRule 3 = .ok (.getfield 89, 3) := by decide +kernel
theorem dX4_isRule_6 : decode cX4_isRule 6 = .ok (.iconst 1, 1) := by decide +kernel
theorem dX4_isRule_7 : decode cX4_isRule 7 = .ok (.isub, 1) := by decide +kernel
theorem dX4_isRule_8 : decode cX4_isRule 8 = .ok (.invokestatic 82, 3) := by decide +kernel
theorem dX4_isRule_11 : decode cX4_isRule 11 = .ok (.ireturn, 1) := by decide +kernel
theorem dX4_number_0 : decode cX4_number 0 = .ok (.iconst 0, 1) := by decide +kernel
theorem dX4_number_1 : decode cX4_number 1 = .ok (.istore_n 2, 1) := by decide +kernel
theorem dX4_number_2 : decode cX4_number 2 = .ok (.iconst 0, 1) := by decide +kernel
theorem dX4_number_3 : decode cX4_number 3 = .ok (.istore_n 3, 1) := by decide +kernel
theorem dX4_number_4 : decode cX4_number 4 = .ok (.iload_n 3, 1) := by decide +kernel
theorem dX4_number_5 : decode cX4_number 5 = .ok (.iload_n 1, 1) := by decide +kernel
theorem dX4_number_6 : decode cX4_number 6 = .ok (.if_icmp .ge 20, 3) := by decide +kernel
theorem dX4_number_9 : decode cX4_number 9 = .ok (.bipush 9, 2) := by decide +kernel
theorem dX4_number_11 : decode cX4_number 11 = .ok (.iload_n 2, 1) := by decide +kernel
theorem dX4_number_12 : decode cX4_number 12 = .ok (.imul, 1) := by decide +kernel
theorem dX4_number_13 : decode cX4_number 13 = .ok (.aload_n 0, 1) := by decide +kernel
theorem dX4_number_14 : decode cX4_number 14 = .ok (.iload_n 3, 1) := by decide +kernel
theorem dX4_number_15 : decode cX4_number 15 = .ok (.iaload, 1) := by decide +kernel
theorem dX4_number_16 : decode cX4_number 16 = .ok (.iadd, 1) := by decide +kernel
theorem dX4_number_17 : decode cX4_number 17 = .ok (.iconst 1, 1) := by decide +kernel
theorem dX4_number_18 : decode cX4_number 18 = .ok (.iadd, 1) := by decide +kernel
theorem dX4_number_19 : decode cX4_number 19 = .ok (.istore_n 2, 1) := by decide +kernel
theorem dX4_number_20 : decode cX4_number 20 = .ok (.iinc 3 1, 3) := by decide +kernel
theorem dX4_number_23 : decode cX4_number 23 = .ok (.goto (-19), 3) := by decide +kernel
theorem dX4_number_26 : decode cX4_number 26 = .ok (.iload_n 2, 1) := by decide +kernel
theorem dX4_number_27 : decode cX4_number 27 = .ok (.ireturn, 1) := by decide +kernel
theorem dX4_lays_0 : decode cX4_lays 0 = .ok (.iconst 0, 1) := by decide +kernel
theorem dX4_lays_1 : decode cX4_lays 1 = .ok (.istore_n 2, 1) := by decide +kernel
theorem dX4_lays_2 : decode cX4_lays 2 = .ok (.iload_n 0, 1) := by decide +kernel
theorem dX4_lays_3 : decode cX4_lays 3 = .ok (.istore_n 3, 1) := by decide +kernel
theorem dX4_lays_4 : decode cX4_lays 4 = .ok (.iload_n 3, 1) := by decide +kernel
theorem dX4_lays_5 : decode cX4_lays 5 = .ok (.ifCond .le 14, 3) := by decide +kernel
theorem dX4_lays_8 : decode cX4_lays 8 = .ok (.iinc 2 1, 3) := by decide +kernel
theorem dX4_lays_11 : decode cX4_lays 11 = .ok (.iload_n 3, 1) := by decide +kernel
theorem dX4_lays_12 : decode cX4_lays 12 = .ok (.bipush 9, 2) := by decide +kernel
theorem dX4_lays_14 : decode cX4_lays 14 = .ok (.idiv, 1) := by decide +kernel
theorem dX4_lays_15 : decode cX4_lays 15 = .ok (.istore_n 3, 1) := by decide +kernel
theorem dX4_lays_16 : decode cX4_lays 16 = .ok (.goto (-12), 3) := by decide +kernel
theorem dX4_lays_19 : decode cX4_lays 19 = .ok (.iload_n 0, 1) := by decide +kernel
theorem dX4_lays_20 : decode cX4_lays 20 = .ok (.istore_n 3, 1) := by decide +kernel
theorem dX4_lays_21 : decode cX4_lays 21 = .ok (.iload_n 2, 1) := by decide +kernel
theorem dX4_lays_22 : decode cX4_lays 22 = .ok (.iconst 1, 1) := by decide +kernel
theorem dX4_lays_23 : decode cX4_lays 23 = .ok (.isub, 1) := by decide +kernel
theorem dX4_lays_24 : decode cX4_lays 24 = .ok (.istore 4, 2) := by decide +kernel
theorem dX4_lays_26 : decode cX4_lays 26 = .ok (.iload 4, 2) := by decide +kernel
theorem dX4_lays_28 : decode cX4_lays 28 = .ok (.ifCond .lt 24, 3) := by decide +kernel
theorem dX4_lays_31 : decode cX4_lays 31 = .ok (.aload_n 1, 1) := by decide +kernel
theorem dX4_lays_32 : decode cX4_lays 32 = .ok (.iload 4, 2) := by decide +kernel
theorem dX4_lays_34 : decode cX4_lays 34 = .ok (.iload_n 3, 1) := by decide +kernel
theorem dX4_lays_35 : decode cX4_lays 35 = .ok (.bipush 9, 2) := by decide +kernel
theorem dX4_lays_37 : decode cX4_lays 37 = .ok (.irem, 1) := by decide +kernel
theorem dX4_lays_38 : decode cX4_lays 38 = .ok (.iconst 1, 1) := by decide +kernel
theorem dX4_lays_39 : decode cX4_lays 39 = .ok (.isub, 1) := by decide +kernel
theorem dX4_lays_40 : decode cX4_lays 40 = .ok (.iastore, 1) := by decide +kernel
theorem dX4_lays_41 : decode cX4_lays 41 = .ok (.iload_n 3, 1) := by decide +kernel
theorem dX4_lays_42 : decode cX4_lays 42 = .ok (.bipush 9, 2) := by decide +kernel
theorem dX4_lays_44 : decode cX4_lays 44 = .ok (.idiv, 1) := by decide +kernel
theorem dX4_lays_45 : decode cX4_lays 45 = .ok (.istore_n 3, 1) := by decide +kernel
theorem dX4_lays_46 : decode cX4_lays 46 = .ok (.iinc 4 (-1), 3) := by decide +kernel
theorem dX4_lays_49 : decode cX4_lays 49 = .ok (.goto (-23), 3) := by decide +kernel
theorem dX4_lays_52 : decode cX4_lays 52 = .ok (.iload_n 2, 1) := by decide +kernel
theorem dX4_lays_53 : decode cX4_lays 53 = .ok (.ireturn, 1) := by decide +kernel
theorem dX4_drafted_0 : decode cX4_drafted 0 = .ok (.aload_n 0, 1) := by decide +kernel
theorem dX4_drafted_1 : decode cX4_drafted 1 = .ok (.getfield 7, 3) := by decide +kernel
theorem dX4_drafted_4 : decode cX4_drafted 4 = .ok (.aload_n 0, 1) := by decide +kernel
theorem dX4_drafted_5 : decode cX4_drafted 5 = .ok (.getfield 92, 3) := by decide +kernel
theorem dX4_drafted_8 : decode cX4_drafted 8 = .ok (.invokestatic 95, 3) := by decide +kernel
theorem dX4_drafted_11 : decode cX4_drafted 11 = .ok (.istore_n 1, 1) := by decide +kernel
theorem dX4_drafted_12 : decode cX4_drafted 12 = .ok (.aload_n 0, 1) := by decide +kernel
theorem dX4_drafted_13 : decode cX4_drafted 13 = .ok (.iconst 0, 1) := by decide +kernel
theorem dX4_drafted_14 : decode cX4_drafted 14 = .ok (.putfield 92, 3) := by decide +kernel
theorem dX4_drafted_17 : decode cX4_drafted 17 = .ok (.iload_n 1, 1) := by decide +kernel
theorem dX4_drafted_18 : decode cX4_drafted 18 = .ok (.ireturn, 1) := by decide +kernel
theorem dX4_sound_0 : decode cX4_sound 0 = .ok (.aload_n 0, 1) := by decide +kernel
theorem dX4_sound_1 : decode cX4_sound 1 = .ok (.iconst 0, 1) := by decide +kernel
theorem dX4_sound_2 : decode cX4_sound 2 = .ok (.putfield 78, 3) := by decide +kernel
theorem dX4_sound_5 : decode cX4_sound 5 = .ok (.iload_n 1, 1) := by decide +kernel
theorem dX4_sound_6 : decode cX4_sound 6 = .ok (.invokestatic 99, 3) := by decide +kernel
theorem dX4_sound_9 : decode cX4_sound 9 = .ok (.ifCond .ne 9, 3) := by decide +kernel
theorem dX4_sound_12 : decode cX4_sound 12 = .ok (.aload_n 0, 1) := by decide +kernel
theorem dX4_sound_13 : decode cX4_sound 13 = .ok (.iconst 1, 1) := by decide +kernel
theorem dX4_sound_14 : decode cX4_sound 14 = .ok (.invokevirtual 103, 3) := by decide +kernel
theorem dX4_sound_17 : decode cX4_sound 17 = .ok (.ireturn, 1) := by decide +kernel
theorem dX4_sound_18 : decode cX4_sound 18 = .ok (.aload_n 0, 1) := by decide +kernel
theorem dX4_sound_19 : decode cX4_sound 19 = .ok (.getfield 92, 3) := by decide +kernel
theorem dX4_sound_22 : decode cX4_sound 22 = .ok (.bipush 8, 2) := by decide +kernel
theorem dX4_sound_24 : decode cX4_sound 24 = .ok (.if_icmp .ne 9, 3) := by decide +kernel
theorem dX4_sound_27 : decode cX4_sound 27 = .ok (.aload_n 0, 1) := by decide +kernel
theorem dX4_sound_28 : decode cX4_sound 28 = .ok (.iconst 2, 1) := by decide +kernel
theorem dX4_sound_29 : decode cX4_sound 29 = .ok (.invokevirtual 103, 3) := by decide +kernel
theorem dX4_sound_32 : decode cX4_sound 32 = .ok (.ireturn, 1) := by decide +kernel
theorem dX4_sound_33 : decode cX4_sound 33 = .ok (.aload_n 0, 1) := by decide +kernel
theorem dX4_sound_34 : decode cX4_sound 34 = .ok (.getfield 7, 3) := by decide +kernel
theorem dX4_sound_37 : decode cX4_sound 37 = .ok (.aload_n 0, 1) := by decide +kernel
theorem dX4_sound_38 : decode cX4_sound 38 = .ok (.getfield 92, 3) := by decide +kernel
theorem dX4_sound_41 : decode cX4_sound 41 = .ok (.iload_n 1, 1) := by decide +kernel
theorem dX4_sound_42 : decode cX4_sound 42 = .ok (.iastore, 1) := by decide +kernel
theorem dX4_sound_43 : decode cX4_sound 43 = .ok (.aload_n 0, 1) := by decide +kernel
theorem dX4_sound_44 : decode cX4_sound 44 = .ok (.dup, 1) := by decide +kernel
theorem dX4_sound_45 : decode cX4_sound 45 = .ok (.getfield 92, 3) := by decide +kernel
theorem dX4_sound_48 : decode cX4_sound 48 = .ok (.iconst 1, 1) := by decide +kernel
theorem dX4_sound_49 : decode cX4_sound 49 = .ok (.iadd, 1) := by decide +kernel
theorem dX4_sound_50 : decode cX4_sound 50 = .ok (.putfield 92, 3) := by decide +kernel
theorem dX4_sound_53 : decode cX4_sound 53 = .ok (.aload_n 0, 1) := by decide +kernel
theorem dX4_sound_54 : decode cX4_sound 54 = .ok (.getfield 92, 3) := by decide +kernel
theorem dX4_sound_57 : decode cX4_sound 57 = .ok (.ireturn, 1) := by decide +kernel
theorem dX4_interview_0 : decode cX4_interview 0 = .ok (.aload_n 0, 1) := by decide +kernel
theorem dX4_interview_1 : decode cX4_interview 1 = .ok (.iconst 0, 1) := by decide +kernel
theorem dX4_interview_2 : decode cX4_interview 2 = .ok (.putfield 78, 3) := by decide +kernel
theorem dX4_interview_5 : decode cX4_interview 5 = .ok (.iload_n 1, 1) := by decide +kernel
theorem dX4_interview_6 : decode cX4_interview 6 = .ok (.iconst 0, 1) := by decide +kernel
theorem dX4_interview_7 : decode cX4_interview 7 = .ok (.bipush 7, 2) := by decide +kernel
theorem dX4_interview_9 : decode cX4_interview 9 = .ok (.invokestatic 82, 3) := by decide +kernel
theorem dX4_interview_12 : decode cX4_interview 12 = .ok (.ifCond .eq 18, 3) := by decide +kernel
theorem dX4_interview_15 : decode cX4_interview 15 = .ok (.iload_n 2, 1) := by decide +kernel
theorem dX4_interview_16 : decode cX4_interview 16 = .ok (.invokestatic 107, 3) := by decide +kernel
theorem dX4_interview_19 : decode cX4_interview 19 = .ok (.ifCond .eq 11, 3) := by decide +kernel
theorem dX4_interview_22 : decode cX4_interview 22 = .ok (.iload 4, 2) := by decide +kernel
theorem dX4_interview_24 : decode cX4_interview 24 = .ok (.invokestatic 110, 3) := by decide +kernel
theorem dX4_interview_27 : decode cX4_interview 27 = .ok (.ifCond .ne 9, 3) := by decide +kernel
theorem dX4_interview_30 : decode cX4_interview 30 = .ok (.aload_n 0, 1) := by decide +kernel
theorem dX4_interview_31 : decode cX4_interview 31 = .ok (.iconst 1, 1) := by decide +kernel
theorem dX4_interview_32 : decode cX4_interview 32 = .ok (.invokevirtual 103, 3) := by decide +kernel
theorem dX4_interview_35 : decode cX4_interview 35 = .ok (.ireturn, 1) := by decide +kernel
theorem dX4_interview_36 : decode cX4_interview 36 = .ok (.iload_n 3, 1) := by decide +kernel
theorem dX4_interview_37 : decode cX4_interview 37 = .ok (.iconst 0, 1) := by decide +kernel
theorem dX4_interview_38 : decode cX4_interview 38 = .ok (.sipush 300, 3) := by decide +kernel
theorem dX4_interview_41 : decode cX4_interview 41 = .ok (.invokestatic 82, 3) := by decide +kernel
theorem dX4_interview_44 : decode cX4_interview 44 = .ok (.ifCond .ne 9, 3) := by decide +kernel
theorem dX4_interview_47 : decode cX4_interview 47 = .ok (.aload_n 0, 1) := by decide +kernel
theorem dX4_interview_48 : decode cX4_interview 48 = .ok (.iconst 2, 1) := by decide +kernel
theorem dX4_interview_49 : decode cX4_interview 49 = .ok (.invokevirtual 103, 3) := by decide +kernel
theorem dX4_interview_52 : decode cX4_interview 52 = .ok (.ireturn, 1) := by decide +kernel
theorem dX4_interview_53 : decode cX4_interview 53 = .ok (.aload_n 0, 1) := by decide +kernel
theorem dX4_interview_54 : decode cX4_interview 54 = .ok (.getfield 92, 3) := by decide +kernel
theorem dX4_interview_57 : decode cX4_interview 57 = .ok (.ifCond .eq 12, 3) := by decide +kernel
theorem dX4_interview_60 : decode cX4_interview 60 = .ok (.aload_n 0, 1) := by decide +kernel
theorem dX4_interview_61 : decode cX4_interview 61 = .ok (.getfield 86, 3) := by decide +kernel
theorem dX4_interview_64 : decode cX4_interview 64 = .ok (.bipush 40, 2) := by decide +kernel
theorem dX4_interview_66 : decode cX4_interview 66 = .ok (.if_icmp .ne 9, 3) := by decide +kernel
theorem dX4_interview_69 : decode cX4_interview 69 = .ok (.aload_n 0, 1) := by decide +kernel
theorem dX4_interview_70 : decode cX4_interview 70 = .ok (.iconst 3, 1) := by decide +kernel
theorem dX4_interview_71 : decode cX4_interview 71 = .ok (.invokevirtual 103, 3) := by decide +kernel
theorem dX4_interview_74 : decode cX4_interview 74 = .ok (.ireturn, 1) := by decide +kernel
theorem dX4_interview_75 : decode cX4_interview 75 = .ok (.aload_n 0, 1) := by decide +kernel
theorem dX4_interview_76 : decode cX4_interview 76 = .ok (.getfield 13, 3) := by decide +kernel
theorem dX4_interview_79 : decode cX4_interview 79 = .ok (.aload_n 0, 1) := by decide +kernel
theorem dX4_interview_80 : decode cX4_interview 80 = .ok (.getfield 86, 3) := by decide +kernel
theorem dX4_interview_83 : decode cX4_interview 83 = .ok (.iload_n 1, 1) := by decide +kernel
theorem dX4_interview_84 : decode cX4_interview 84 = .ok (.iastore, 1) := by decide +kernel
theorem dX4_interview_85 : decode cX4_interview 85 = .ok (.aload_n 0, 1) := by decide +kernel
theorem dX4_interview_86 : decode cX4_interview 86 = .ok (.getfield 16, 3) := by decide +kernel
theorem dX4_interview_89 : decode cX4_interview 89 = .ok (.aload_n 0, 1) := by decide +kernel
theorem dX4_interview_90 : decode cX4_interview 90 = .ok (.getfield 86, 3) := by decide +kernel
theorem dX4_interview_93 : decode cX4_interview 93 = .ok (.iload_n 2, 1) := by decide +kernel
theorem dX4_interview_94 : decode cX4_interview 94 = .ok (.iastore, 1) := by decide +kernel
theorem dX4_interview_95 : decode cX4_interview 95 = .ok (.aload_n 0, 1) := by decide +kernel
theorem dX4_interview_96 : decode cX4_interview 96 = .ok (.getfield 19, 3) := by decide +kernel
theorem dX4_interview_99 : decode cX4_interview 99 = .ok (.aload_n 0, 1) := by decide +kernel
theorem dX4_interview_100 : decode cX4_interview 100 = .ok (.getfield 86, 3) := by decide +kernel
theorem dX4_interview_103 : decode cX4_interview 103 = .ok (.iload_n 3, 1) := by decide +kernel
theorem dX4_interview_104 : decode cX4_interview 104 = .ok (.iastore, 1) := by decide +kernel
theorem dX4_interview_105 : decode cX4_interview 105 = .ok (.aload_n 0, 1) := by decide +kernel
theorem dX4_interview_106 : decode cX4_interview 106 = .ok (.getfield 22, 3) := by decide +kernel
theorem dX4_interview_109 : decode cX4_interview 109 = .ok (.aload_n 0, 1) := by decide +kernel
theorem dX4_interview_110 : decode cX4_interview 110 = .ok (.getfield 86, 3) := by decide +kernel
theorem dX4_interview_113 : decode cX4_interview 113 = .ok (.iload 4, 2) := by decide +kernel
theorem dX4_interview_115 : decode cX4_interview 115 = .ok (.iastore, 1) := by decide +kernel
theorem dX4_interview_116 : decode cX4_interview 116 = .ok (.aload_n 0, 1) := by decide +kernel
theorem dX4_interview_117 : decode cX4_interview 117 = .ok (.getfield 25, 3) := by decide +kernel
theorem dX4_interview_120 : decode cX4_interview 120 = .ok (.aload_n 0, 1) := by decide +kernel
theorem dX4_interview_121 : decode cX4_interview 121 = .ok (.getfield 86, 3) := by decide +kernel
theorem dX4_interview_124 : decode cX4_interview 124 = .ok (.aload_n 0, 1) := by decide +kernel
theorem dX4_interview_125 : decode cX4_interview 125 = .ok (.invokevirtual 113, 3) := by decide +kernel
theorem dX4_interview_128 : decode cX4_interview 128 = .ok (.iastore, 1) := by decide +kernel
theorem dX4_interview_129 : decode cX4_interview 129 = .ok (.aload_n 0, 1) := by decide +kernel
theorem dX4_interview_130 : decode cX4_interview 130 = .ok (.dup, 1) := by decide +kernel
theorem dX4_interview_131 : decode cX4_interview 131 = .ok (.getfield 86, 3) := by decide +kernel
theorem dX4_interview_134 : decode cX4_interview 134 = .ok (.iconst 1, 1) := by decide +kernel
theorem dX4_interview_135 : decode cX4_interview 135 = .ok (.iadd, 1) := by decide +kernel
theorem dX4_interview_136 : decode cX4_interview 136 = .ok (.putfield 86, 3) := by decide +kernel
theorem dX4_interview_139 : decode cX4_interview 139 = .ok (.aload_n 0, 1) := by decide +kernel
theorem dX4_interview_140 : decode cX4_interview 140 = .ok (.getfield 86, 3) := by decide +kernel
theorem dX4_interview_143 : decode cX4_interview 143 = .ok (.iconst 1, 1) := by decide +kernel
theorem dX4_interview_144 : decode cX4_interview 144 = .ok (.isub, 1) := by decide +kernel
theorem dX4_interview_145 : decode cX4_interview 145 = .ok (.ireturn, 1) := by decide +kernel
theorem dX4_setRoot_0 : decode cX4_setRoot 0 = .ok (.aload_n 0, 1) := by decide +kernel
theorem dX4_setRoot_1 : decode cX4_setRoot 1 = .ok (.iconst 0, 1) := by decide +kernel
theorem dX4_setRoot_2 : decode cX4_setRoot 2 = .ok (.putfield 78, 3) := by decide +kernel
theorem dX4_setRoot_5 : decode cX4_setRoot 5 = .ok (.iload_n 1, 1) := by decide +kernel
theorem dX4_setRoot_6 : decode cX4_setRoot 6 = .ok (.invokestatic 110, 3) := by decide +kernel
theorem dX4_setRoot_9 : decode cX4_setRoot 9 = .ok (.ifCond .ne 9, 3) := by decide +kernel
theorem dX4_setRoot_12 : decode cX4_setRoot 12 = .ok (.aload_n 0, 1) := by decide +kernel
theorem dX4_setRoot_13 : decode cX4_setRoot 13 = .ok (.iconst 1, 1) := by decide +kernel
theorem dX4_setRoot_14 : decode cX4_setRoot 14 = .ok (.invokevirtual 103, 3) := by decide +kernel
theorem dX4_setRoot_17 : decode cX4_setRoot 17 = .ok (.ireturn, 1) := by decide +kernel
theorem dX4_setRoot_18 : decode cX4_setRoot 18 = .ok (.aload_n 0, 1) := by decide +kernel
theorem dX4_setRoot_19 : decode cX4_setRoot 19 = .ok (.getfield 92, 3) := by decide +kernel
theorem dX4_setRoot_22 : decode cX4_setRoot 22 = .ok (.ifCond .ne 9, 3) := by decide +kernel
theorem dX4_setRoot_25 : decode cX4_setRoot 25 = .ok (.aload_n 0, 1) := by decide +kernel
theorem dX4_setRoot_26 : decode cX4_setRoot 26 = .ok (.iconst 2, 1) := by decide +kernel
theorem dX4_setRoot_27 : decode cX4_setRoot 27 = .ok (.invokevirtual 103, 3) := by decide +kernel
theorem dX4_setRoot_30 : decode cX4_setRoot 30 = .ok (.ireturn, 1) := by decide +kernel
theorem dX4_setRoot_31 : decode cX4_setRoot 31 = .ok (.aload_n 0, 1) := by decide +kernel
theorem dX4_setRoot_32 : decode cX4_setRoot 32 = .ok (.getfield 32, 3) := by decide +kernel
theorem dX4_setRoot_35 : decode cX4_setRoot 35 = .ok (.iload_n 1, 1) := by decide +kernel
theorem dX4_setRoot_36 : decode cX4_setRoot 36 = .ok (.iaload, 1) := by decide +kernel
theorem dX4_setRoot_37 : decode cX4_setRoot 37 = .ok (.istore_n 2, 1) := by decide +kernel
theorem dX4_setRoot_38 : decode cX4_setRoot 38 = .ok (.aload_n 0, 1) := by decide +kernel
theorem dX4_setRoot_39 : decode cX4_setRoot 39 = .ok (.getfield 32, 3) := by decide +kernel
theorem dX4_setRoot_42 : decode cX4_setRoot 42 = .ok (.iload_n 1, 1) := by decide +kernel
theorem dX4_setRoot_43 : decode cX4_setRoot 43 = .ok (.aload_n 0, 1) := by decide +kernel
theorem dX4_setRoot_44 : decode cX4_setRoot 44 = .ok (.invokevirtual 113, 3) := by decide +kernel
theorem dX4_setRoot_47 : decode cX4_setRoot 47 = .ok (.iastore, 1) := by decide +kernel
theorem dX4_setRoot_48 : decode cX4_setRoot 48 = .ok (.iload_n 2, 1) := by decide +kernel
theorem dX4_setRoot_49 : decode cX4_setRoot 49 = .ok (.ireturn, 1) := by decide +kernel
theorem dX4_form_0 : decode cX4_form 0 = .ok (.aload_n 0, 1) := by decide +kernel
theorem dX4_form_1 : decode cX4_form 1 = .ok (.iconst 0, 1) := by decide +kernel
theorem dX4_form_2 : decode cX4_form 2 = .ok (.putfield 78, 3) := by decide +kernel
theorem dX4_form_5 : decode cX4_form 5 = .ok (.aload_n 0, 1) := by decide +kernel
theorem dX4_form_6 : decode cX4_form 6 = .ok (.iload_n 1, 1) := by decide +kernel
theorem dX4_form_7 : decode cX4_form 7 = .ok (.invokevirtual 117, 3) := by decide +kernel
theorem dX4_form_10 : decode cX4_form 10 = .ok (.ifCond .ne 9, 3) := by decide +kernel
theorem dX4_form_13 : decode cX4_form 13 = .ok (.aload_n 0, 1) := by decide +kernel
theorem dX4_form_14 : decode cX4_form 14 = .ok (.iconst 1, 1) := by decide +kernel
theorem dX4_form_15 : decode cX4_form 15 = .ok (.invokevirtual 103, 3) := by decide +kernel
theorem dX4_form_18 : decode cX4_form 18 = .ok (.ireturn, 1) := by decide +kernel
theorem dX4_form_19 : decode cX4_form 19 = .ok (.aload_n 0, 1) := by decide +kernel
theorem dX4_form_20 : decode cX4_form 20 = .ok (.getfield 28, 3) := by decide +kernel
theorem dX4_form_23 : decode cX4_form 23 = .ok (.iload_n 1, 1) := by decide +kernel
theorem dX4_form_24 : decode cX4_form 24 = .ok (.baload, 1) := by decide +kernel
theorem dX4_form_25 : decode cX4_form 25 = .ok (.ifCond .eq 7, 3) := by decide +kernel
theorem dX4_form_28 : decode cX4_form 28 = .ok (.iconst (-1), 1) := by decide +kernel
theorem dX4_form_29 : decode cX4_form 29 = .ok (.goto 9, 3) := by decide +kernel
theorem dX4_form_32 : decode cX4_form 32 = .ok (.aload_n 0, 1) := by decide +kernel
theorem dX4_form_33 : decode cX4_form 33 = .ok (.getfield 25, 3) := by decide +kernel
theorem dX4_form_36 : decode cX4_form 36 = .ok (.iload_n 1, 1) := by decide +kernel
theorem dX4_form_37 : decode cX4_form 37 = .ok (.iaload, 1) := by decide +kernel
theorem dX4_form_38 : decode cX4_form 38 = .ok (.ireturn, 1) := by decide +kernel
theorem dX4_rule_0 : decode cX4_rule 0 = .ok (.aload_n 0, 1) := by decide +kernel
theorem dX4_rule_1 : decode cX4_rule 1 = .ok (.iconst 0, 1) := by decide +kernel
theorem dX4_rule_2 : decode cX4_rule 2 = .ok (.putfield 78, 3) := by decide +kernel
theorem dX4_rule_5 : decode cX4_rule 5 = .ok (.iload_n 1, 1) := by decide +kernel
theorem dX4_rule_6 : decode cX4_rule 6 = .ok (.invokestatic 99, 3) := by decide +kernel
theorem dX4_rule_9 : decode cX4_rule 9 = .ok (.ifCond .eq 19, 3) := by decide +kernel
theorem dX4_rule_12 : decode cX4_rule 12 = .ok (.iload 4, 2) := by decide +kernel
theorem dX4_rule_14 : decode cX4_rule 14 = .ok (.invokestatic 107, 3) := by decide +kernel
theorem dX4_rule_17 : decode cX4_rule 17 = .ok (.ifCond .eq 11, 3) := by decide +kernel
theorem dX4_rule_20 : decode cX4_rule 20 = .ok (.iload 5, 2) := by decide +kernel
theorem dX4_rule_22 : decode cX4_rule 22 = .ok (.invokestatic 107, 3) := by decide +kernel
theorem dX4_rule_25 : decode cX4_rule 25 = .ok (.ifCond .ne 9, 3) := by decide +kernel
theorem dX4_rule_28 : decode cX4_rule 28 = .ok (.aload_n 0, 1) := by decide +kernel
theorem dX4_rule_29 : decode cX4_rule 29 = .ok (.iconst 1, 1) := by decide +kernel
theorem dX4_rule_30 : decode cX4_rule 30 = .ok (.invokevirtual 103, 3) := by decide +kernel
theorem dX4_rule_33 : decode cX4_rule 33 = .ok (.ireturn, 1) := by decide +kernel
theorem dX4_rule_34 : decode cX4_rule 34 = .ok (.iload_n 2, 1) := by decide +kernel
theorem dX4_rule_35 : decode cX4_rule 35 = .ok (.iconst (-1), 1) := by decide +kernel
theorem dX4_rule_36 : decode cX4_rule 36 = .ok (.bipush 7, 2) := by decide +kernel
theorem dX4_rule_38 : decode cX4_rule 38 = .ok (.invokestatic 82, 3) := by decide +kernel
theorem dX4_rule_41 : decode cX4_rule 41 = .ok (.ifCond .eq 37, 3) := by decide +kernel
theorem dX4_rule_44 : decode cX4_rule 44 = .ok (.iload_n 3, 1) := by decide +kernel
theorem dX4_rule_45 : decode cX4_rule 45 = .ok (.iconst 0, 1) := by decide +kernel
theorem dX4_rule_46 : decode cX4_rule 46 = .ok (.bipush 9, 2) := by decide +kernel
theorem dX4_rule_48 : decode cX4_rule 48 = .ok (.invokestatic 82, 3) := by decide +kernel
theorem dX4_rule_51 : decode cX4_rule 51 = .ok (.ifCond .eq 27, 3) := by decide +kernel
theorem dX4_rule_54 : decode cX4_rule 54 = .ok (.iload 6, 2) := by decide +kernel
theorem dX4_rule_56 : decode cX4_rule 56 = .ok (.iconst 0, 1) := by decide +kernel
theorem dX4_rule_57 : decode cX4_rule 57 = .ok (.sipush 300, 3) := by decide +kernel
theorem dX4_rule_60 : decode cX4_rule 60 = .ok (.invokestatic 82, 3) := by decide +kernel
theorem dX4_rule_63 : decode cX4_rule 63 = .ok (.ifCond .eq 15, 3) := by decide +kernel
theorem dX4_rule_66 : decode cX4_rule 66 = .ok (.iload_n 2, 1) := by decide +kernel
theorem dX4_rule_67 : decode cX4_rule 67 = .ok (.iload_n 1, 1) := by decide +kernel
theorem dX4_rule_68 : decode cX4_rule 68 = .ok (.if_icmp .eq 10, 3) := by decide +kernel
theorem dX4_rule_71 : decode cX4_rule 71 = .ok (.iload 5, 2) := by decide +kernel
theorem dX4_rule_73 : decode cX4_rule 73 = .ok (.iload 4, 2) := by decide +kernel
theorem dX4_rule_75 : decode cX4_rule 75 = .ok (.if_icmp .ge 9, 3) := by decide +kernel
theorem dX4_rule_78 : decode cX4_rule 78 = .ok (.aload_n 0, 1) := by decide +kernel
theorem dX4_rule_79 : decode cX4_rule 79 = .ok (.iconst 2, 1) := by decide +kernel
theorem dX4_rule_80 : decode cX4_rule 80 = .ok (.invokevirtual 103, 3) := by decide +kernel
theorem dX4_rule_83 : decode cX4_rule 83 = .ok (.ireturn, 1) := by decide +kernel
theorem dX4_rule_84 : decode cX4_rule 84 = .ok (.aload_n 0, 1) := by decide +kernel
theorem dX4_rule_85 : decode cX4_rule 85 = .ok (.getfield 89, 3) := by decide +kernel
theorem dX4_rule_88 : decode cX4_rule 88 = .ok (.bipush 20, 2) := by decide +kernel
theorem dX4_rule_90 : decode cX4_rule 90 = .ok (.if_icmp .ne 9, 3) := by decide +kernel
theorem dX4_rule_93 : decode cX4_rule 93 = .ok (.aload_n 0, 1) := by decide +kernel
theorem dX4_rule_94 : decode cX4_rule 94 = .ok (.iconst 3, 1) := by decide +kernel
theorem dX4_rule_95 : decode cX4_rule 95 = .ok (.invokevirtual 103, 3) := by decide +kernel
theorem dX4_rule_98 : decode cX4_rule 98 = .ok (.ireturn, 1) := by decide +kernel
theorem dX4_rule_99 : decode cX4_rule 99 = .ok (.aload_n 0, 1) := by decide +kernel
theorem dX4_rule_100 : decode cX4_rule 100 = .ok (.getfield 35, 3) := by decide +kernel
theorem dX4_rule_103 : decode cX4_rule 103 = .ok (.aload_n 0, 1) := by decide +kernel
theorem dX4_rule_104 : decode cX4_rule 104 = .ok (.getfield 89, 3) := by decide +kernel
theorem dX4_rule_107 : decode cX4_rule 107 = .ok (.iload_n 1, 1) := by decide +kernel
theorem dX4_rule_108 : decode cX4_rule 108 = .ok (.iastore, 1) := by decide +kernel
theorem dX4_rule_109 : decode cX4_rule 109 = .ok (.aload_n 0, 1) := by decide +kernel
theorem dX4_rule_110 : decode cX4_rule 110 = .ok (.getfield 38, 3) := by decide +kernel
theorem dX4_rule_113 : decode cX4_rule 113 = .ok (.aload_n 0, 1) := by decide +kernel
theorem dX4_rule_114 : decode cX4_rule 114 = .ok (.getfield 89, 3) := by decide +kernel
theorem dX4_rule_117 : decode cX4_rule 117 = .ok (.iload_n 2, 1) := by decide +kernel
theorem dX4_rule_118 : decode cX4_rule 118 = .ok (.iastore, 1) := by decide +kernel
theorem dX4_rule_119 : decode cX4_rule 119 = .ok (.aload_n 0, 1) := by decide +kernel
theorem dX4_rule_120 : decode cX4_rule 120 = .ok (.getfield 41, 3) := by decide +kernel
theorem dX4_rule_123 : decode cX4_rule 123 = .ok (.aload_n 0, 1) := by decide +kernel
theorem dX4_rule_124 : decode cX4_rule 124 = .ok (.getfield 89, 3) := by decide +kernel
theorem dX4_rule_127 : decode cX4_rule 127 = .ok (.iload_n 3, 1) := by decide +kernel
theorem dX4_rule_128 : decode cX4_rule 128 = .ok (.iastore, 1) := by decide +kernel
theorem dX4_rule_129 : decode cX4_rule 129 = .ok (.aload_n 0, 1) := by decide +kernel
theorem dX4_rule_130 : decode cX4_rule 130 = .ok (.getfield 44, 3) := by decide +kernel
theorem dX4_rule_133 : decode cX4_rule 133 = .ok (.aload_n 0, 1) := by decide +kernel
theorem dX4_rule_134 : decode cX4_rule 134 = .ok (.getfield 89, 3) := by decide +kernel
theorem dX4_rule_137 : decode cX4_rule 137 = .ok (.iload 4, 2) := by decide +kernel
theorem dX4_rule_139 : decode cX4_rule 139 = .ok (.iastore, 1) := by decide +kernel
theorem dX4_rule_140 : decode cX4_rule 140 = .ok (.aload_n 0, 1) := by decide +kernel
theorem dX4_rule_141 : decode cX4_rule 141 = .ok (.getfield 47, 3) := by decide +kernel
theorem dX4_rule_144 : decode cX4_rule 144 = .ok (.aload_n 0, 1) := by decide +kernel
theorem dX4_rule_145 : decode cX4_rule 145 = .ok (.getfield 89, 3) := by decide +kernel
theorem dX4_rule_148 : decode cX4_rule 148 = .ok (.iload 5, 2) := by decide +kernel
theorem dX4_rule_150 : decode cX4_rule 150 = .ok (.iastore, 1) := by decide +kernel
theorem dX4_rule_151 : decode cX4_rule 151 = .ok (.aload_n 0, 1) := by decide +kernel
theorem dX4_rule_152 : decode cX4_rule 152 = .ok (.getfield 50, 3) := by decide +kernel
theorem dX4_rule_155 : decode cX4_rule 155 = .ok (.aload_n 0, 1) := by decide +kernel
theorem dX4_rule_156 : decode cX4_rule 156 = .ok (.getfield 89, 3) := by decide +kernel
theorem dX4_rule_159 : decode cX4_rule 159 = .ok (.iload 6, 2) := by decide +kernel
theorem dX4_rule_161 : decode cX4_rule 161 = .ok (.iastore, 1) := by decide +kernel
theorem dX4_rule_162 : decode cX4_rule 162 = .ok (.aload_n 0, 1) := by decide +kernel
theorem dX4_rule_163 : decode cX4_rule 163 = .ok (.dup, 1) := by decide +kernel
theorem dX4_rule_164 : decode cX4_rule 164 = .ok (.getfield 89, 3) := by decide +kernel
theorem dX4_rule_167 : decode cX4_rule 167 = .ok (.iconst 1, 1) := by decide +kernel
theorem dX4_rule_168 : decode cX4_rule 168 = .ok (.iadd, 1) := by decide +kernel
theorem dX4_rule_169 : decode cX4_rule 169 = .ok (.putfield 89, 3) := by decide +kernel
theorem dX4_rule_172 : decode cX4_rule 172 = .ok (.aload_n 0, 1) := by decide +kernel
theorem dX4_rule_173 : decode cX4_rule 173 = .ok (.getfield 89, 3) := by decide +kernel
theorem dX4_rule_176 : decode cX4_rule 176 = .ok (.iconst 1, 1) := by decide +kernel
theorem dX4_rule_177 : decode cX4_rule 177 = .ok (.isub, 1) := by decide +kernel
theorem dX4_rule_178 : decode cX4_rule 178 = .ok (.ireturn, 1) := by decide +kernel
theorem dX4_count_0 : decode cX4_count 0 = .ok (.iconst 0, 1) := by decide +kernel
theorem dX4_count_1 : decode cX4_count 1 = .ok (.istore_n 2, 1) := by decide +kernel
theorem dX4_count_2 : decode cX4_count 2 = .ok (.iconst 0, 1) := by decide +kernel
theorem dX4_count_3 : decode cX4_count 3 = .ok (.istore_n 3, 1) := by decide +kernel
theorem dX4_count_4 : decode cX4_count 4 = .ok (.iload_n 3, 1) := by decide +kernel
theorem dX4_count_5 : decode cX4_count 5 = .ok (.bipush 40, 2) := by decide +kernel
theorem dX4_count_7 : decode cX4_count 7 = .ok (.if_icmp .ge 18, 3) := by decide +kernel
theorem dX4_count_10 : decode cX4_count 10 = .ok (.iload_n 2, 1) := by decide +kernel
theorem dX4_count_11 : decode cX4_count 11 = .ok (.lload_n 0, 1) := by decide +kernel
theorem dX4_count_12 : decode cX4_count 12 = .ok (.iload_n 3, 1) := by decide +kernel
theorem dX4_count_13 : decode cX4_count 13 = .ok (.lshr, 1) := by decide +kernel
theorem dX4_count_14 : decode cX4_count 14 = .ok (.lconst 1, 1) := by decide +kernel
theorem dX4_count_15 : decode cX4_count 15 = .ok (.land, 1) := by decide +kernel
theorem dX4_count_16 : decode cX4_count 16 = .ok (.l2i, 1) := by decide +kernel
theorem dX4_count_17 : decode cX4_count 17 = .ok (.iadd, 1) := by decide +kernel
theorem dX4_count_18 : decode cX4_count 18 = .ok (.istore_n 2, 1) := by decide +kernel
theorem dX4_count_19 : decode cX4_count 19 = .ok (.iinc 3 1, 3) := by decide +kernel
theorem dX4_count_22 : decode cX4_count 22 = .ok (.goto (-18), 3) := by decide +kernel
theorem dX4_count_25 : decode cX4_count 25 = .ok (.iload_n 2, 1) := by decide +kernel
theorem dX4_count_26 : decode cX4_count 26 = .ok (.ireturn, 1) := by decide +kernel
theorem dX4_rest_0 : decode cX4_rest 0 = .ok (.aload_n 0, 1) := by decide +kernel
theorem dX4_rest_1 : decode cX4_rest 1 = .ok (.iconst 0, 1) := by decide +kernel
theorem dX4_rest_2 : decode cX4_rest 2 = .ok (.putfield 78, 3) := by decide +kernel
theorem dX4_rest_5 : decode cX4_rest 5 = .ok (.aload_n 0, 1) := by decide +kernel
theorem dX4_rest_6 : decode cX4_rest 6 = .ok (.iload_n 1, 1) := by decide +kernel
theorem dX4_rest_7 : decode cX4_rest 7 = .ok (.invokevirtual 120, 3) := by decide +kernel
theorem dX4_rest_10 : decode cX4_rest 10 = .ok (.ifCond .eq 11, 3) := by decide +kernel
theorem dX4_rest_13 : decode cX4_rest 13 = .ok (.aload_n 0, 1) := by decide +kernel
theorem dX4_rest_14 : decode cX4_rest 14 = .ok (.iload_n 2, 1) := by decide +kernel
theorem dX4_rest_15 : decode cX4_rest 15 = .ok (.invokevirtual 117, 3) := by decide +kernel
theorem dX4_rest_18 : decode cX4_rest 18 = .ok (.ifCond .ne 9, 3) := by decide +kernel
theorem dX4_rest_21 : decode cX4_rest 21 = .ok (.aload_n 0, 1) := by decide +kernel
theorem dX4_rest_22 : decode cX4_rest 22 = .ok (.iconst 1, 1) := by decide +kernel
theorem dX4_rest_23 : decode cX4_rest 23 = .ok (.invokevirtual 103, 3) := by decide +kernel
theorem dX4_rest_26 : decode cX4_rest 26 = .ok (.ireturn, 1) := by decide +kernel
theorem dX4_rest_27 : decode cX4_rest 27 = .ok (.aload_n 0, 1) := by decide +kernel
theorem dX4_rest_28 : decode cX4_rest 28 = .ok (.getfield 53, 3) := by decide +kernel
theorem dX4_rest_31 : decode cX4_rest 31 = .ok (.iload_n 1, 1) := by decide +kernel
theorem dX4_rest_32 : decode cX4_rest 32 = .ok (.baload, 1) := by decide +kernel
theorem dX4_rest_33 : decode cX4_rest 33 = .ok (.ifCond .ne 27, 3) := by decide +kernel
theorem dX4_rest_36 : decode cX4_rest 36 = .ok (.aload_n 0, 1) := by decide +kernel
theorem dX4_rest_37 : decode cX4_rest 37 = .ok (.getfield 28, 3) := by decide +kernel
theorem dX4_rest_40 : decode cX4_rest 40 = .ok (.iload_n 2, 1) := by decide +kernel
theorem dX4_rest_41 : decode cX4_rest 41 = .ok (.baload, 1) := by decide +kernel
theorem dX4_rest_42 : decode cX4_rest 42 = .ok (.ifCond .ne 18, 3) := by decide +kernel
theorem dX4_rest_45 : decode cX4_rest 45 = .ok (.aload_n 0, 1) := by decide +kernel
theorem dX4_rest_46 : decode cX4_rest 46 = .ok (.getfield 56, 3) := by decide +kernel
theorem dX4_rest_49 : decode cX4_rest 49 = .ok (.iload_n 1, 1) := by decide +kernel
theorem dX4_rest_50 : decode cX4_rest 50 = .ok (.laload, 1) := by decide +kernel
theorem dX4_rest_51 : decode cX4_rest 51 = .ok (.iload_n 2, 1) := by decide +kernel
theorem dX4_rest_52 : decode cX4_rest 52 = .ok (.lshr, 1) := by decide +kernel
theorem dX4_rest_53 : decode cX4_rest 53 = .ok (.lconst 1, 1) := by decide +kernel
theorem dX4_rest_54 : decode cX4_rest 54 = .ok (.land, 1) := by decide +kernel
theorem dX4_rest_55 : decode cX4_rest 55 = .ok (.lconst 1, 1) := by decide +kernel
theorem dX4_rest_56 : decode cX4_rest 56 = .ok (.lcmp, 1) := by decide +kernel
theorem dX4_rest_57 : decode cX4_rest 57 = .ok (.ifCond .ne 9, 3) := by decide +kernel
theorem dX4_rest_60 : decode cX4_rest 60 = .ok (.aload_n 0, 1) := by decide +kernel
theorem dX4_rest_61 : decode cX4_rest 61 = .ok (.iconst 2, 1) := by decide +kernel
theorem dX4_rest_62 : decode cX4_rest 62 = .ok (.invokevirtual 103, 3) := by decide +kernel
theorem dX4_rest_65 : decode cX4_rest 65 = .ok (.ireturn, 1) := by decide +kernel
theorem dX4_rest_66 : decode cX4_rest 66 = .ok (.aload_n 0, 1) := by decide +kernel
theorem dX4_rest_67 : decode cX4_rest 67 = .ok (.getfield 56, 3) := by decide +kernel
theorem dX4_rest_70 : decode cX4_rest 70 = .ok (.iload_n 1, 1) := by decide +kernel
theorem dX4_rest_71 : decode cX4_rest 71 = .ok (.dup2, 1) := by decide +kernel
theorem dX4_rest_72 : decode cX4_rest 72 = .ok (.laload, 1) := by decide +kernel
theorem dX4_rest_73 : decode cX4_rest 73 = .ok (.lconst 1, 1) := by decide +kernel
theorem dX4_rest_74 : decode cX4_rest 74 = .ok (.iload_n 2, 1) := by decide +kernel
theorem dX4_rest_75 : decode cX4_rest 75 = .ok (.lshl, 1) := by decide +kernel
theorem dX4_rest_76 : decode cX4_rest 76 = .ok (.lor, 1) := by decide +kernel
theorem dX4_rest_77 : decode cX4_rest 77 = .ok (.lastore, 1) := by decide +kernel
theorem dX4_rest_78 : decode cX4_rest 78 = .ok (.aload_n 0, 1) := by decide +kernel
theorem dX4_rest_79 : decode cX4_rest 79 = .ok (.getfield 56, 3) := by decide +kernel
theorem dX4_rest_82 : decode cX4_rest 82 = .ok (.iload_n 1, 1) := by decide +kernel
theorem dX4_rest_83 : decode cX4_rest 83 = .ok (.laload, 1) := by decide +kernel
theorem dX4_rest_84 : decode cX4_rest 84 = .ok (.invokestatic 123, 3) := by decide +kernel
theorem dX4_rest_87 : decode cX4_rest 87 = .ok (.ireturn, 1) := by decide +kernel
theorem dX4_stands_0 : decode cX4_stands 0 = .ok (.aload_n 0, 1) := by decide +kernel
theorem dX4_stands_1 : decode cX4_stands 1 = .ok (.aload_n 0, 1) := by decide +kernel
theorem dX4_stands_2 : decode cX4_stands 2 = .ok (.iload_n 1, 1) := by decide +kernel
theorem dX4_stands_3 : decode cX4_stands 3 = .ok (.invokevirtual 120, 3) := by decide +kernel
theorem dX4_stands_6 : decode cX4_stands 6 = .ok (.ifCond .eq 7, 3) := by decide +kernel
theorem dX4_stands_9 : decode cX4_stands 9 = .ok (.iconst 0, 1) := by decide +kernel
theorem dX4_stands_10 : decode cX4_stands 10 = .ok (.goto 4, 3) := by decide +kernel
theorem dX4_stands_13 : decode cX4_stands 13 = .ok (.iconst 1, 1) := by decide +kernel
theorem dX4_stands_14 : decode cX4_stands 14 = .ok (.putfield 78, 3) := by decide +kernel
theorem dX4_stands_17 : decode cX4_stands 17 = .ok (.aload_n 0, 1) := by decide +kernel
theorem dX4_stands_18 : decode cX4_stands 18 = .ok (.getfield 78, 3) := by decide +kernel
theorem dX4_stands_21 : decode cX4_stands 21 = .ok (.ifCond .ne 16, 3) := by decide +kernel
theorem dX4_stands_24 : decode cX4_stands 24 = .ok (.aload_n 0, 1) := by decide +kernel
theorem dX4_stands_25 : decode cX4_stands 25 = .ok (.getfield 53, 3) := by decide +kernel
theorem dX4_stands_28 : decode cX4_stands 28 = .ok (.iload_n 1, 1) := by decide +kernel
theorem dX4_stands_29 : decode cX4_stands 29 = .ok (.baload, 1) := by decide +kernel
theorem dX4_stands_30 : decode cX4_stands 30 = .ok (.ifCond .ne 7, 3) := by decide +kernel
theorem dX4_stands_33 : decode cX4_stands 33 = .ok (.iconst 1, 1) := by decide +kernel
theorem dX4_stands_34 : decode cX4_stands 34 = .ok (.goto 4, 3) := by decide +kernel
theorem dX4_stands_37 : decode cX4_stands 37 = .ok (.iconst 0, 1) := by decide +kernel
theorem dX4_stands_38 : decode cX4_stands 38 = .ok (.ireturn, 1) := by decide +kernel
theorem dX4_applies_0 : decode cX4_applies 0 = .ok (.iconst 0, 1) := by decide +kernel
theorem dX4_applies_1 : decode cX4_applies 1 = .ok (.istore_n 3, 1) := by decide +kernel
theorem dX4_applies_2 : decode cX4_applies 2 = .ok (.iconst 0, 1) := by decide +kernel
theorem dX4_applies_3 : decode cX4_applies 3 = .ok (.istore 4, 2) := by decide +kernel
theorem dX4_applies_5 : decode cX4_applies 5 = .ok (.iload 4, 2) := by decide +kernel
theorem dX4_applies_7 : decode cX4_applies 7 = .ok (.iload_n 2, 1) := by decide +kernel
theorem dX4_applies_8 : decode cX4_applies 8 = .ok (.if_icmp .ge 118, 3) := by decide +kernel
theorem dX4_applies_11 : decode cX4_applies 11 = .ok (.iload 4, 2) := by decide +kernel
theorem dX4_applies_13 : decode cX4_applies 13 = .ok (.iconst 1, 1) := by decide +kernel
theorem dX4_applies_14 : decode cX4_applies 14 = .ok (.iadd, 1) := by decide +kernel
theorem dX4_applies_15 : decode cX4_applies 15 = .ok (.iload_n 2, 1) := by decide +kernel
theorem dX4_applies_16 : decode cX4_applies 16 = .ok (.if_icmp .ge 15, 3) := by decide +kernel
theorem dX4_applies_19 : decode cX4_applies 19 = .ok (.aload_n 0, 1) := by decide +kernel
theorem dX4_applies_20 : decode cX4_applies 20 = .ok (.getfield 66, 3) := by decide +kernel
theorem dX4_applies_23 : decode cX4_applies 23 = .ok (.iload 4, 2) := by decide +kernel
theorem dX4_applies_25 : decode cX4_applies 25 = .ok (.iconst 1, 1) := by decide +kernel
theorem dX4_applies_26 : decode cX4_applies 26 = .ok (.iadd, 1) := by decide +kernel
theorem dX4_applies_27 : decode cX4_applies 27 = .ok (.iaload, 1) := by decide +kernel
theorem dX4_applies_28 : decode cX4_applies 28 = .ok (.goto 5, 3) := by decide +kernel
theorem dX4_applies_31 : decode cX4_applies 31 = .ok (.bipush 8, 2) := by decide +kernel
theorem dX4_applies_33 : decode cX4_applies 33 = .ok (.istore 5, 2) := by decide +kernel
theorem dX4_applies_35 : decode cX4_applies 35 = .ok (.aload_n 0, 1) := by decide +kernel
theorem dX4_applies_36 : decode cX4_applies 36 = .ok (.getfield 66, 3) := by decide +kernel
theorem dX4_applies_39 : decode cX4_applies 39 = .ok (.iload 4, 2) := by decide +kernel
theorem dX4_applies_41 : decode cX4_applies 41 = .ok (.iaload, 1) := by decide +kernel
theorem dX4_applies_42 : decode cX4_applies 42 = .ok (.aload_n 0, 1) := by decide +kernel
theorem dX4_applies_43 : decode cX4_applies 43 = .ok (.getfield 35, 3) := by decide +kernel
theorem dX4_applies_46 : decode cX4_applies 46 = .ok (.iload_n 1, 1) := by decide +kernel
theorem dX4_applies_47 : decode cX4_applies 47 = .ok (.iaload, 1) := by decide +kernel
theorem dX4_applies_48 : decode cX4_applies 48 = .ok (.if_icmp .ne 29, 3) := by decide +kernel
theorem dX4_applies_51 : decode cX4_applies 51 = .ok (.aload_n 0, 1) := by decide +kernel
theorem dX4_applies_52 : decode cX4_applies 52 = .ok (.getfield 41, 3) := by decide +kernel
theorem dX4_applies_55 : decode cX4_applies 55 = .ok (.iload_n 1, 1) := by decide +kernel
theorem dX4_applies_56 : decode cX4_applies 56 = .ok (.iaload, 1) := by decide +kernel
theorem dX4_applies_57 : decode cX4_applies 57 = .ok (.bipush 9, 2) := by decide +kernel
theorem dX4_applies_59 : decode cX4_applies 59 = .ok (.if_icmp .eq 14, 3) := by decide +kernel
theorem dX4_applies_62 : decode cX4_applies 62 = .ok (.aload_n 0, 1) := by decide +kernel
theorem dX4_applies_63 : decode cX4_applies 63 = .ok (.getfield 41, 3) := by decide +kernel
theorem dX4_applies_66 : decode cX4_applies 66 = .ok (.iload_n 1, 1) := by decide +kernel
theorem dX4_applies_67 : decode cX4_applies 67 = .ok (.iaload, 1) := by decide +kernel
theorem dX4_applies_68 : decode cX4_applies 68 = .ok (.iload 5, 2) := by decide +kernel
theorem dX4_applies_70 : decode cX4_applies 70 = .ok (.if_icmp .ne 7, 3) := by decide +kernel
theorem dX4_applies_73 : decode cX4_applies 73 = .ok (.iconst 1, 1) := by decide +kernel
theorem dX4_applies_74 : decode cX4_applies 74 = .ok (.goto 4, 3) := by decide +kernel
theorem dX4_applies_77 : decode cX4_applies 77 = .ok (.iconst 0, 1) := by decide +kernel
theorem dX4_applies_78 : decode cX4_applies 78 = .ok (.istore 6, 2) := by decide +kernel
theorem dX4_applies_80 : decode cX4_applies 80 = .ok (.iload 6, 2) := by decide +kernel
theorem dX4_applies_82 : decode cX4_applies 82 = .ok (.ifCond .eq 12, 3) := by decide +kernel
theorem dX4_applies_85 : decode cX4_applies 85 = .ok (.aload_n 0, 1) := by decide +kernel
theorem dX4_applies_86 : decode cX4_applies 86 = .ok (.getfield 38, 3) := by decide +kernel
theorem dX4_applies_89 : decode cX4_applies 89 = .ok (.iload_n 1, 1) := by decide +kernel
theorem dX4_applies_90 : decode cX4_applies 90 = .ok (.iaload, 1) := by decide +kernel
theorem dX4_applies_91 : decode cX4_applies 91 = .ok (.goto 10, 3) := by decide +kernel
theorem dX4_applies_94 : decode cX4_applies 94 = .ok (.aload_n 0, 1) := by decide +kernel
theorem dX4_applies_95 : decode cX4_applies 95 = .ok (.getfield 66, 3) := by decide +kernel
theorem dX4_applies_98 : decode cX4_applies 98 = .ok (.iload 4, 2) := by decide +kernel
theorem dX4_applies_100 : decode cX4_applies 100 = .ok (.iaload, 1) := by decide +kernel
theorem dX4_applies_101 : decode cX4_applies 101 = .ok (.istore 7, 2) := by decide +kernel
theorem dX4_applies_103 : decode cX4_applies 103 = .ok (.iload 7, 2) := by decide +kernel
theorem dX4_applies_105 : decode cX4_applies 105 = .ok (.iconst (-1), 1) := by decide +kernel
theorem dX4_applies_106 : decode cX4_applies 106 = .ok (.if_icmp .eq 14, 3) := by decide +kernel
theorem dX4_applies_109 : decode cX4_applies 109 = .ok (.aload_n 0, 1) := by decide +kernel
theorem dX4_applies_110 : decode cX4_applies 110 = .ok (.getfield 69, 3) := by decide +kernel
theorem dX4_applies_113 : decode cX4_applies 113 = .ok (.iload_n 3, 1) := by decide +kernel
theorem dX4_applies_114 : decode cX4_applies 114 = .ok (.iload 7, 2) := by decide +kernel
theorem dX4_applies_116 : decode cX4_applies 116 = .ok (.iastore, 1) := by decide +kernel
theorem dX4_applies_117 : decode cX4_applies 117 = .ok (.iinc 3 1, 3) := by decide +kernel
theorem dX4_applies_120 : decode cX4_applies 120 = .ok (.iinc 4 1, 3) := by decide +kernel
theorem dX4_applies_123 : decode cX4_applies 123 = .ok (.goto (-118), 3) := by decide +kernel
theorem dX4_applies_126 : decode cX4_applies 126 = .ok (.iconst 0, 1) := by decide +kernel
theorem dX4_applies_127 : decode cX4_applies 127 = .ok (.istore 4, 2) := by decide +kernel
theorem dX4_applies_129 : decode cX4_applies 129 = .ok (.iload 4, 2) := by decide +kernel
theorem dX4_applies_131 : decode cX4_applies 131 = .ok (.iload_n 3, 1) := by decide +kernel
theorem dX4_applies_132 : decode cX4_applies 132 = .ok (.if_icmp .ge 23, 3) := by decide +kernel
theorem dX4_applies_135 : decode cX4_applies 135 = .ok (.aload_n 0, 1) := by decide +kernel
theorem dX4_applies_136 : decode cX4_applies 136 = .ok (.getfield 66, 3) := by decide +kernel
theorem dX4_applies_139 : decode cX4_applies 139 = .ok (.iload 4, 2) := by decide +kernel
theorem dX4_applies_141 : decode cX4_applies 141 = .ok (.aload_n 0, 1) := by decide +kernel
theorem dX4_applies_142 : decode cX4_applies 142 = .ok (.getfield 69, 3) := by decide +kernel
theorem dX4_applies_145 : decode cX4_applies 145 = .ok (.iload 4, 2) := by decide +kernel
theorem dX4_applies_147 : decode cX4_applies 147 = .ok (.iaload, 1) := by decide +kernel
theorem dX4_applies_148 : decode cX4_applies 148 = .ok (.iastore, 1) := by decide +kernel
theorem dX4_applies_149 : decode cX4_applies 149 = .ok (.iinc 4 1, 3) := by decide +kernel
theorem dX4_applies_152 : decode cX4_applies 152 = .ok (.goto (-23), 3) := by decide +kernel
theorem dX4_applies_155 : decode cX4_applies 155 = .ok (.iload_n 3, 1) := by decide +kernel
theorem dX4_applies_156 : decode cX4_applies 156 = .ok (.ifCond .ne 7, 3) := by decide +kernel
theorem dX4_applies_159 : decode cX4_applies 159 = .ok (.iload_n 2, 1) := by decide +kernel
theorem dX4_applies_160 : decode cX4_applies 160 = .ok (.goto 4, 3) := by decide +kernel
theorem dX4_applies_163 : decode cX4_applies 163 = .ok (.iload_n 3, 1) := by decide +kernel
theorem dX4_applies_164 : decode cX4_applies 164 = .ok (.ireturn, 1) := by decide +kernel
theorem dX4_expects_0 : decode cX4_expects 0 = .ok (.aload_n 0, 1) := by decide +kernel
theorem dX4_expects_1 : decode cX4_expects 1 = .ok (.getfield 32, 3) := by decide +kernel
theorem dX4_expects_4 : decode cX4_expects 4 = .ok (.iload_n 1, 1) := by decide +kernel
theorem dX4_expects_5 : decode cX4_expects 5 = .ok (.iaload, 1) := by decide +kernel
theorem dX4_expects_6 : decode cX4_expects 6 = .ok (.iconst (-1), 1) := by decide +kernel
theorem dX4_expects_7 : decode cX4_expects 7 = .ok (.if_icmp .ne 5, 3) := by decide +kernel
theorem dX4_expects_10 : decode cX4_expects 10 = .ok (.iconst (-1), 1) := by decide +kernel
theorem dX4_expects_11 : decode cX4_expects 11 = .ok (.ireturn, 1) := by decide +kernel
theorem dX4_expects_12 : decode cX4_expects 12 = .ok (.aload_n 0, 1) := by decide +kernel
theorem dX4_expects_13 : decode cX4_expects 13 = .ok (.getfield 32, 3) := by decide +kernel
theorem dX4_expects_16 : decode cX4_expects 16 = .ok (.iload_n 1, 1) := by decide +kernel
theorem dX4_expects_17 : decode cX4_expects 17 = .ok (.iaload, 1) := by decide +kernel
theorem dX4_expects_18 : decode cX4_expects 18 = .ok (.aload_n 0, 1) := by decide +kernel
theorem dX4_expects_19 : decode cX4_expects 19 = .ok (.getfield 66, 3) := by decide +kernel
theorem dX4_expects_22 : decode cX4_expects 22 = .ok (.invokestatic 127, 3) := by decide +kernel
theorem dX4_expects_25 : decode cX4_expects 25 = .ok (.istore 4, 2) := by decide +kernel
theorem dX4_expects_27 : decode cX4_expects 27 = .ok (.iconst 0, 1) := by decide +kernel
theorem dX4_expects_28 : decode cX4_expects 28 = .ok (.istore 5, 2) := by decide +kernel
theorem dX4_expects_30 : decode cX4_expects 30 = .ok (.iload 5, 2) := by decide +kernel
theorem dX4_expects_32 : decode cX4_expects 32 = .ok (.aload_n 0, 1) := by decide +kernel
theorem dX4_expects_33 : decode cX4_expects 33 = .ok (.getfield 89, 3) := by decide +kernel
theorem dX4_expects_36 : decode cX4_expects 36 = .ok (.if_icmp .ge 61, 3) := by decide +kernel
theorem dX4_expects_39 : decode cX4_expects 39 = .ok (.aload_n 0, 1) := by decide +kernel
theorem dX4_expects_40 : decode cX4_expects 40 = .ok (.getfield 53, 3) := by decide +kernel
theorem dX4_expects_43 : decode cX4_expects 43 = .ok (.iload 5, 2) := by decide +kernel
theorem dX4_expects_45 : decode cX4_expects 45 = .ok (.baload, 1) := by decide +kernel
theorem dX4_expects_46 : decode cX4_expects 46 = .ok (.ifCond .ne 45, 3) := by decide +kernel
theorem dX4_expects_49 : decode cX4_expects 49 = .ok (.iload_n 2, 1) := by decide +kernel
theorem dX4_expects_50 : decode cX4_expects 50 = .ok (.aload_n 0, 1) := by decide +kernel
theorem dX4_expects_51 : decode cX4_expects 51 = .ok (.getfield 44, 3) := by decide +kernel
theorem dX4_expects_54 : decode cX4_expects 54 = .ok (.iload 5, 2) := by decide +kernel
theorem dX4_expects_56 : decode cX4_expects 56 = .ok (.iaload, 1) := by decide +kernel
theorem dX4_expects_57 : decode cX4_expects 57 = .ok (.aload_n 0, 1) := by decide +kernel
theorem dX4_expects_58 : decode cX4_expects 58 = .ok (.getfield 47, 3) := by decide +kernel
theorem dX4_expects_61 : decode cX4_expects 61 = .ok (.iload 5, 2) := by decide +kernel
theorem dX4_expects_63 : decode cX4_expects 63 = .ok (.iaload, 1) := by decide +kernel
theorem dX4_expects_64 : decode cX4_expects 64 = .ok (.invokestatic 82, 3) := by decide +kernel
theorem dX4_expects_67 : decode cX4_expects 67 = .ok (.ifCond .eq 24, 3) := by decide +kernel
theorem dX4_expects_70 : decode cX4_expects 70 = .ok (.aload_n 0, 1) := by decide +kernel
theorem dX4_expects_71 : decode cX4_expects 71 = .ok (.getfield 50, 3) := by decide +kernel
theorem dX4_expects_74 : decode cX4_expects 74 = .ok (.iload 5, 2) := by decide +kernel
theorem dX4_expects_76 : decode cX4_expects 76 = .ok (.iaload, 1) := by decide +kernel
theorem dX4_expects_77 : decode cX4_expects 77 = .ok (.iload_n 3, 1) := by decide +kernel
theorem dX4_expects_78 : decode cX4_expects 78 = .ok (.if_icmp .gt 13, 3) := by decide +kernel
theorem dX4_expects_81 : decode cX4_expects 81 = .ok (.aload_n 0, 1) := by decide +kernel
theorem dX4_expects_82 : decode cX4_expects 82 = .ok (.iload 5, 2) := by decide +kernel
theorem dX4_expects_84 : decode cX4_expects 84 = .ok (.iload 4, 2) := by decide +kernel
theorem dX4_expects_86 : decode cX4_expects 86 = .ok (.invokevirtual 131, 3) := by decide +kernel
theorem dX4_expects_89 : decode cX4_expects 89 = .ok (.istore 4, 2) := by decide +kernel
theorem dX4_expects_91 : decode cX4_expects 91 = .ok (.iinc 5 1, 3) := by decide +kernel
theorem dX4_expects_94 : decode cX4_expects 94 = .ok (.goto (-64), 3) := by decide +kernel
theorem dX4_expects_97 : decode cX4_expects 97 = .ok (.aload_n 0, 1) := by decide +kernel
theorem dX4_expects_98 : decode cX4_expects 98 = .ok (.getfield 66, 3) := by decide +kernel
theorem dX4_expects_101 : decode cX4_expects 101 = .ok (.iload 4, 2) := by decide +kernel
theorem dX4_expects_103 : decode cX4_expects 103 = .ok (.invokestatic 95, 3) := by decide +kernel
theorem dX4_expects_106 : decode cX4_expects 106 = .ok (.ireturn, 1) := by decide +kernel
theorem dX4_expected_0 : decode cX4_expected 0 = .ok (.aload_n 0, 1) := by decide +kernel
theorem dX4_expected_1 : decode cX4_expected 1 = .ok (.iconst 0, 1) := by decide +kernel
theorem dX4_expected_2 : decode cX4_expected 2 = .ok (.putfield 78, 3) := by decide +kernel
theorem dX4_expected_5 : decode cX4_expected 5 = .ok (.iload_n 1, 1) := by decide +kernel
theorem dX4_expected_6 : decode cX4_expected 6 = .ok (.invokestatic 110, 3) := by decide +kernel
theorem dX4_expected_9 : decode cX4_expected 9 = .ok (.ifCond .eq 10, 3) := by decide +kernel
theorem dX4_expected_12 : decode cX4_expected 12 = .ok (.iload_n 2, 1) := by decide +kernel
theorem dX4_expected_13 : decode cX4_expected 13 = .ok (.invokestatic 107, 3) := by decide +kernel
theorem dX4_expected_16 : decode cX4_expected 16 = .ok (.ifCond .ne 9, 3) := by decide +kernel
theorem dX4_expected_19 : decode cX4_expected 19 = .ok (.aload_n 0, 1) := by decide +kernel
theorem dX4_expected_20 : decode cX4_expected 20 = .ok (.iconst 1, 1) := by decide +kernel
theorem dX4_expected_21 : decode cX4_expected 21 = .ok (.invokevirtual 103, 3) := by decide +kernel
theorem dX4_expected_24 : decode cX4_expected 24 = .ok (.ireturn, 1) := by decide +kernel
theorem dX4_expected_25 : decode cX4_expected 25 = .ok (.iload_n 3, 1) := by decide +kernel
theorem dX4_expected_26 : decode cX4_expected 26 = .ok (.iconst 0, 1) := by decide +kernel
theorem dX4_expected_27 : decode cX4_expected 27 = .ok (.sipush 300, 3) := by decide +kernel
theorem dX4_expected_30 : decode cX4_expected 30 = .ok (.invokestatic 82, 3) := by decide +kernel
theorem dX4_expected_33 : decode cX4_expected 33 = .ok (.ifCond .eq 13, 3) := by decide +kernel
theorem dX4_expected_36 : decode cX4_expected 36 = .ok (.aload_n 0, 1) := by decide +kernel
theorem dX4_expected_37 : decode cX4_expected 37 = .ok (.iload_n 1, 1) := by decide +kernel
theorem dX4_expected_38 : decode cX4_expected 38 = .ok (.iload_n 2, 1) := by decide +kernel
theorem dX4_expected_39 : decode cX4_expected 39 = .ok (.iload_n 3, 1) := by decide +kernel
theorem dX4_expected_40 : decode cX4_expected 40 = .ok (.invokevirtual 135, 3) := by decide +kernel
theorem dX4_expected_43 : decode cX4_expected 43 = .ok (.goto 8, 3) := by decide +kernel
theorem dX4_expected_46 : decode cX4_expected 46 = .ok (.aload_n 0, 1) := by decide +kernel
theorem dX4_expected_47 : decode cX4_expected 47 = .ok (.iconst 2, 1) := by decide +kernel
theorem dX4_expected_48 : decode cX4_expected 48 = .ok (.invokevirtual 103, 3) := by decide +kernel
theorem dX4_expected_51 : decode cX4_expected 51 = .ok (.ireturn, 1) := by decide +kernel
theorem dX4_distance_0 : decode cX4_distance 0 = .ok (.iload_n 1, 1) := by decide +kernel
theorem dX4_distance_1 : decode cX4_distance 1 = .ok (.aload_n 0, 1) := by decide +kernel
theorem dX4_distance_2 : decode cX4_distance 2 = .ok (.getfield 66, 3) := by decide +kernel
theorem dX4_distance_5 : decode cX4_distance 5 = .ok (.invokestatic 127, 3) := by decide +kernel
theorem dX4_distance_8 : decode cX4_distance 8 = .ok (.istore_n 3, 1) := by decide +kernel
theorem dX4_distance_9 : decode cX4_distance 9 = .ok (.iload_n 2, 1) := by decide +kernel
theorem dX4_distance_10 : decode cX4_distance 10 = .ok (.aload_n 0, 1) := by decide +kernel
theorem dX4_distance_11 : decode cX4_distance 11 = .ok (.getfield 72, 3) := by decide +kernel
theorem dX4_distance_14 : decode cX4_distance 14 = .ok (.invokestatic 127, 3) := by decide +kernel
theorem dX4_distance_17 : decode cX4_distance 17 = .ok (.istore 4, 2) := by decide +kernel
theorem dX4_distance_19 : decode cX4_distance 19 = .ok (.iconst 0, 1) := by decide +kernel
theorem dX4_distance_20 : decode cX4_distance 20 = .ok (.istore 5, 2) := by decide +kernel
theorem dX4_distance_22 : decode cX4_distance 22 = .ok (.iload 5, 2) := by decide +kernel
theorem dX4_distance_24 : decode cX4_distance 24 = .ok (.iload 4, 2) := by decide +kernel
theorem dX4_distance_26 : decode cX4_distance 26 = .ok (.if_icmp .gt 18, 3) := by decide +kernel
theorem dX4_distance_29 : decode cX4_distance 29 = .ok (.aload_n 0, 1) := by decide +kernel
theorem dX4_distance_30 : decode cX4_distance 30 = .ok (.getfield 75, 3) := by decide +kernel
theorem dX4_distance_33 : decode cX4_distance 33 = .ok (.iload 5, 2) := by decide +kernel
theorem dX4_distance_35 : decode cX4_distance 35 = .ok (.iload 5, 2) := by decide +kernel
theorem dX4_distance_37 : decode cX4_distance 37 = .ok (.iastore, 1) := by decide +kernel
theorem dX4_distance_38 : decode cX4_distance 38 = .ok (.iinc 5 1, 3) := by decide +kernel
theorem dX4_distance_41 : decode cX4_distance 41 = .ok (.goto (-19), 3) := by decide +kernel
theorem dX4_distance_44 : decode cX4_distance 44 = .ok (.iconst 1, 1) := by decide +kernel
theorem dX4_distance_45 : decode cX4_distance 45 = .ok (.istore 5, 2) := by decide +kernel
theorem dX4_distance_47 : decode cX4_distance 47 = .ok (.iload 5, 2) := by decide +kernel
theorem dX4_distance_49 : decode cX4_distance 49 = .ok (.iload_n 3, 1) := by decide +kernel
theorem dX4_distance_50 : decode cX4_distance 50 = .ok (.if_icmp .gt 146, 3) := by decide +kernel
theorem dX4_distance_53 : decode cX4_distance 53 = .ok (.aload_n 0, 1) := by decide +kernel
theorem dX4_distance_54 : decode cX4_distance 54 = .ok (.getfield 75, 3) := by decide +kernel
theorem dX4_distance_57 : decode cX4_distance 57 = .ok (.iconst 0, 1) := by decide +kernel
theorem dX4_distance_58 : decode cX4_distance 58 = .ok (.iaload, 1) := by decide +kernel
theorem dX4_distance_59 : decode cX4_distance 59 = .ok (.istore 6, 2) := by decide +kernel
theorem dX4_distance_61 : decode cX4_distance 61 = .ok (.aload_n 0, 1) := by decide +kernel
theorem dX4_distance_62 : decode cX4_distance 62 = .ok (.getfield 75, 3) := by decide +kernel
theorem dX4_distance_65 : decode cX4_distance 65 = .ok (.iconst 0, 1) := by decide +kernel
theorem dX4_distance_66 : decode cX4_distance 66 = .ok (.iload 5, 2) := by decide +kernel
theorem dX4_distance_68 : decode cX4_distance 68 = .ok (.iastore, 1) := by decide +kernel
theorem dX4_distance_69 : decode cX4_distance 69 = .ok (.iconst 1, 1) := by decide +kernel
theorem dX4_distance_70 : decode cX4_distance 70 = .ok (.istore 7, 2) := by decide +kernel
theorem dX4_distance_72 : decode cX4_distance 72 = .ok (.iload 7, 2) := by decide +kernel
theorem dX4_distance_74 : decode cX4_distance 74 = .ok (.iload 4, 2) := by decide +kernel
theorem dX4_distance_76 : decode cX4_distance 76 = .ok (.if_icmp .gt 114, 3) := by decide +kernel
theorem dX4_distance_79 : decode cX4_distance 79 = .ok (.aload_n 0, 1) := by decide +kernel
theorem dX4_distance_80 : decode cX4_distance 80 = .ok (.getfield 75, 3) := by decide +kernel
theorem dX4_distance_83 : decode cX4_distance 83 = .ok (.iload 7, 2) := by decide +kernel
theorem dX4_distance_85 : decode cX4_distance 85 = .ok (.iaload, 1) := by decide +kernel
theorem dX4_distance_86 : decode cX4_distance 86 = .ok (.aload_n 0, 1) := by decide +kernel
theorem dX4_distance_87 : decode cX4_distance 87 = .ok (.getfield 75, 3) := by decide +kernel
theorem dX4_distance_90 : decode cX4_distance 90 = .ok (.iload 7, 2) := by decide +kernel
theorem dX4_distance_92 : decode cX4_distance 92 = .ok (.iconst 1, 1) := by decide +kernel
theorem dX4_distance_93 : decode cX4_distance 93 = .ok (.isub, 1) := by decide +kernel
theorem dX4_distance_94 : decode cX4_distance 94 = .ok (.iaload, 1) := by decide +kernel
theorem dX4_distance_95 : decode cX4_distance 95 = .ok (.if_icmp .ge 15, 3) := by decide +kernel
theorem dX4_distance_98 : decode cX4_distance 98 = .ok (.aload_n 0, 1) := by decide +kernel
theorem dX4_distance_99 : decode cX4_distance 99 = .ok (.getfield 75, 3) := by decide +kernel
theorem dX4_distance_102 : decode cX4_distance 102 = .ok (.iload 7, 2) := by decide +kernel
theorem dX4_distance_104 : decode cX4_distance 104 = .ok (.iaload, 1) := by decide +kernel
theorem dX4_distance_105 : decode cX4_distance 105 = .ok (.iconst 1, 1) := by decide +kernel
theorem dX4_distance_106 : decode cX4_distance 106 = .ok (.iadd, 1) := by decide +kernel
theorem dX4_distance_107 : decode cX4_distance 107 = .ok (.goto 14, 3) := by decide +kernel
theorem dX4_distance_110 : decode cX4_distance 110 = .ok (.aload_n 0, 1) := by decide +kernel
theorem dX4_distance_111 : decode cX4_distance 111 = .ok (.getfield 75, 3) := by decide +kernel
theorem dX4_distance_114 : decode cX4_distance 114 = .ok (.iload 7, 2) := by decide +kernel
theorem dX4_distance_116 : decode cX4_distance 116 = .ok (.iconst 1, 1) := by decide +kernel
theorem dX4_distance_117 : decode cX4_distance 117 = .ok (.isub, 1) := by decide +kernel
theorem dX4_distance_118 : decode cX4_distance 118 = .ok (.iaload, 1) := by decide +kernel
theorem dX4_distance_119 : decode cX4_distance 119 = .ok (.iconst 1, 1) := by decide +kernel
theorem dX4_distance_120 : decode cX4_distance 120 = .ok (.iadd, 1) := by decide +kernel
theorem dX4_distance_121 : decode cX4_distance 121 = .ok (.istore 8, 2) := by decide +kernel
theorem dX4_distance_123 : decode cX4_distance 123 = .ok (.iload 6, 2) := by decide +kernel
theorem dX4_distance_125 : decode cX4_distance 125 = .ok (.aload_n 0, 1) := by decide +kernel
theorem dX4_distance_126 : decode cX4_distance 126 = .ok (.getfield 66, 3) := by decide +kernel
theorem dX4_distance_129 : decode cX4_distance 129 = .ok (.iload 5, 2) := by decide +kernel
theorem dX4_distance_131 : decode cX4_distance 131 = .ok (.iconst 1, 1) := by decide +kernel
theorem dX4_distance_132 : decode cX4_distance 132 = .ok (.isub, 1) := by decide +kernel
theorem dX4_distance_133 : decode cX4_distance 133 = .ok (.iaload, 1) := by decide +kernel
theorem dX4_distance_134 : decode cX4_distance 134 = .ok (.aload_n 0, 1) := by decide +kernel
theorem dX4_distance_135 : decode cX4_distance 135 = .ok (.getfield 72, 3) := by decide +kernel
theorem dX4_distance_138 : decode cX4_distance 138 = .ok (.iload 7, 2) := by decide +kernel
theorem dX4_distance_140 : decode cX4_distance 140 = .ok (.iconst 1, 1) := by decide +kernel
theorem dX4_distance_141 : decode cX4_distance 141 = .ok (.isub, 1) := by decide +kernel
theorem dX4_distance_142 : decode cX4_distance 142 = .ok (.iaload, 1) := by decide +kernel
theorem dX4_distance_143 : decode cX4_distance 143 = .ok (.if_icmp .ne 7, 3) := by decide +kernel
theorem dX4_distance_146 : decode cX4_distance 146 = .ok (.iconst 0, 1) := by decide +kernel
theorem dX4_distance_147 : decode cX4_distance 147 = .ok (.goto 4, 3) := by decide +kernel
theorem dX4_distance_150 : decode cX4_distance 150 = .ok (.iconst 1, 1) := by decide +kernel
theorem dX4_distance_151 : decode cX4_distance 151 = .ok (.iadd, 1) := by decide +kernel
theorem dX4_distance_152 : decode cX4_distance 152 = .ok (.istore 9, 2) := by decide +kernel
theorem dX4_distance_154 : decode cX4_distance 154 = .ok (.aload_n 0, 1) := by decide +kernel
theorem dX4_distance_155 : decode cX4_distance 155 = .ok (.getfield 75, 3) := by decide +kernel
theorem dX4_distance_158 : decode cX4_distance 158 = .ok (.iload 7, 2) := by decide +kernel
theorem dX4_distance_160 : decode cX4_distance 160 = .ok (.iaload, 1) := by decide +kernel
theorem dX4_distance_161 : decode cX4_distance 161 = .ok (.istore 6, 2) := by decide +kernel
theorem dX4_distance_163 : decode cX4_distance 163 = .ok (.aload_n 0, 1) := by decide +kernel
theorem dX4_distance_164 : decode cX4_distance 164 = .ok (.getfield 75, 3) := by decide +kernel
theorem dX4_distance_167 : decode cX4_distance 167 = .ok (.iload 7, 2) := by decide +kernel
theorem dX4_distance_169 : decode cX4_distance 169 = .ok (.iload 9, 2) := by decide +kernel
theorem dX4_distance_171 : decode cX4_distance 171 = .ok (.iload 8, 2) := by decide +kernel
theorem dX4_distance_173 : decode cX4_distance 173 = .ok (.if_icmp .ge 8, 3) := by decide +kernel
theorem dX4_distance_176 : decode cX4_distance 176 = .ok (.iload 9, 2) := by decide +kernel
theorem dX4_distance_178 : decode cX4_distance 178 = .ok (.goto 5, 3) := by decide +kernel
theorem dX4_distance_181 : decode cX4_distance 181 = .ok (.iload 8, 2) := by decide +kernel
theorem dX4_distance_183 : decode cX4_distance 183 = .ok (.iastore, 1) := by decide +kernel
theorem dX4_distance_184 : decode cX4_distance 184 = .ok (.iinc 7 1, 3) := by decide +kernel
theorem dX4_distance_187 : decode cX4_distance 187 = .ok (.goto (-115), 3) := by decide +kernel
theorem dX4_distance_190 : decode cX4_distance 190 = .ok (.iinc 5 1, 3) := by decide +kernel
theorem dX4_distance_193 : decode cX4_distance 193 = .ok (.goto (-146), 3) := by decide +kernel
theorem dX4_distance_196 : decode cX4_distance 196 = .ok (.aload_n 0, 1) := by decide +kernel
theorem dX4_distance_197 : decode cX4_distance 197 = .ok (.getfield 75, 3) := by decide +kernel
theorem dX4_distance_200 : decode cX4_distance 200 = .ok (.iload 4, 2) := by decide +kernel
theorem dX4_distance_202 : decode cX4_distance 202 = .ok (.iaload, 1) := by decide +kernel
theorem dX4_distance_203 : decode cX4_distance 203 = .ok (.ireturn, 1) := by decide +kernel
theorem dX4_far_0 : decode cX4_far 0 = .ok (.aload_n 0, 1) := by decide +kernel
theorem dX4_far_1 : decode cX4_far 1 = .ok (.iconst 0, 1) := by decide +kernel
theorem dX4_far_2 : decode cX4_far 2 = .ok (.putfield 78, 3) := by decide +kernel
theorem dX4_far_5 : decode cX4_far 5 = .ok (.aload_n 0, 1) := by decide +kernel
theorem dX4_far_6 : decode cX4_far 6 = .ok (.iload_n 1, 1) := by decide +kernel
theorem dX4_far_7 : decode cX4_far 7 = .ok (.invokevirtual 117, 3) := by decide +kernel
theorem dX4_far_10 : decode cX4_far 10 = .ok (.ifCond .ne 9, 3) := by decide +kernel
theorem dX4_far_13 : decode cX4_far 13 = .ok (.aload_n 0, 1) := by decide +kernel
theorem dX4_far_14 : decode cX4_far 14 = .ok (.iconst 1, 1) := by decide +kernel
theorem dX4_far_15 : decode cX4_far 15 = .ok (.invokevirtual 103, 3) := by decide +kernel
theorem dX4_far_18 : decode cX4_far 18 = .ok (.ireturn, 1) := by decide +kernel
theorem dX4_far_19 : decode cX4_far 19 = .ok (.aload_n 0, 1) := by decide +kernel
theorem dX4_far_20 : decode cX4_far 20 = .ok (.getfield 28, 3) := by decide +kernel
theorem dX4_far_23 : decode cX4_far 23 = .ok (.iload_n 1, 1) := by decide +kernel
theorem dX4_far_24 : decode cX4_far 24 = .ok (.baload, 1) := by decide +kernel
theorem dX4_far_25 : decode cX4_far 25 = .ok (.ifCond .ne 18, 3) := by decide +kernel
theorem dX4_far_28 : decode cX4_far 28 = .ok (.aload_n 0, 1) := by decide +kernel
theorem dX4_far_29 : decode cX4_far 29 = .ok (.getfield 32, 3) := by decide +kernel
theorem dX4_far_32 : decode cX4_far 32 = .ok (.aload_n 0, 1) := by decide +kernel
theorem dX4_far_33 : decode cX4_far 33 = .ok (.getfield 22, 3) := by decide +kernel
theorem dX4_far_36 : decode cX4_far 36 = .ok (.iload_n 1, 1) := by decide +kernel
theorem dX4_far_37 : decode cX4_far 37 = .ok (.iaload, 1) := by decide +kernel
theorem dX4_far_38 : decode cX4_far 38 = .ok (.iaload, 1) := by decide +kernel
theorem dX4_far_39 : decode cX4_far 39 = .ok (.iconst (-1), 1) := by decide +kernel
theorem dX4_far_40 : decode cX4_far 40 = .ok (.if_icmp .ne 5, 3) := by decide +kernel
theorem dX4_far_43 : decode cX4_far 43 = .ok (.iconst (-1), 1) := by decide +kernel
theorem dX4_far_44 : decode cX4_far 44 = .ok (.ireturn, 1) := by decide +kernel
theorem dX4_far_45 : decode cX4_far 45 = .ok (.aload_n 0, 1) := by decide +kernel
theorem dX4_far_46 : decode cX4_far 46 = .ok (.aload_n 0, 1) := by decide +kernel
theorem dX4_far_47 : decode cX4_far 47 = .ok (.aload_n 0, 1) := by decide +kernel
theorem dX4_far_48 : decode cX4_far 48 = .ok (.getfield 22, 3) := by decide +kernel
theorem dX4_far_51 : decode cX4_far 51 = .ok (.iload_n 1, 1) := by decide +kernel
theorem dX4_far_52 : decode cX4_far 52 = .ok (.iaload, 1) := by decide +kernel
theorem dX4_far_53 : decode cX4_far 53 = .ok (.aload_n 0, 1) := by decide +kernel
theorem dX4_far_54 : decode cX4_far 54 = .ok (.getfield 16, 3) := by decide +kernel
theorem dX4_far_57 : decode cX4_far 57 = .ok (.iload_n 1, 1) := by decide +kernel
theorem dX4_far_58 : decode cX4_far 58 = .ok (.iaload, 1) := by decide +kernel
theorem dX4_far_59 : decode cX4_far 59 = .ok (.aload_n 0, 1) := by decide +kernel
theorem dX4_far_60 : decode cX4_far 60 = .ok (.getfield 19, 3) := by decide +kernel
theorem dX4_far_63 : decode cX4_far 63 = .ok (.iload_n 1, 1) := by decide +kernel
theorem dX4_far_64 : decode cX4_far 64 = .ok (.iaload, 1) := by decide +kernel
theorem dX4_far_65 : decode cX4_far 65 = .ok (.invokevirtual 135, 3) := by decide +kernel
theorem dX4_far_68 : decode cX4_far 68 = .ok (.aload_n 0, 1) := by decide +kernel
theorem dX4_far_69 : decode cX4_far 69 = .ok (.getfield 25, 3) := by decide +kernel
theorem dX4_far_72 : decode cX4_far 72 = .ok (.iload_n 1, 1) := by decide +kernel
theorem dX4_far_73 : decode cX4_far 73 = .ok (.iaload, 1) := by decide +kernel
theorem dX4_far_74 : decode cX4_far 74 = .ok (.invokevirtual 139, 3) := by decide +kernel
theorem dX4_far_77 : decode cX4_far 77 = .ok (.ireturn, 1) := by decide +kernel
theorem dX4_most_0 : decode cX4_most 0 = .ok (.iconst (-1), 1) := by decide +kernel
theorem dX4_most_1 : decode cX4_most 1 = .ok (.istore_n 3, 1) := by decide +kernel
theorem dX4_most_2 : decode cX4_most 2 = .ok (.iconst 0, 1) := by decide +kernel
theorem dX4_most_3 : decode cX4_most 3 = .ok (.istore 4, 2) := by decide +kernel
theorem dX4_most_5 : decode cX4_most 5 = .ok (.iconst 0, 1) := by decide +kernel
theorem dX4_most_6 : decode cX4_most 6 = .ok (.istore 5, 2) := by decide +kernel
theorem dX4_most_8 : decode cX4_most 8 = .ok (.iload 5, 2) := by decide +kernel
theorem dX4_most_10 : decode cX4_most 10 = .ok (.aload_n 0, 1) := by decide +kernel
theorem dX4_most_11 : decode cX4_most 11 = .ok (.getfield 86, 3) := by decide +kernel
theorem dX4_most_14 : decode cX4_most 14 = .ok (.if_icmp .ge 173, 3) := by decide +kernel
theorem dX4_most_17 : decode cX4_most 17 = .ok (.iconst 0, 1) := by decide +kernel
theorem dX4_most_18 : decode cX4_most 18 = .ok (.istore 6, 2) := by decide +kernel
theorem dX4_most_20 : decode cX4_most 20 = .ok (.iconst 0, 1) := by decide +kernel
theorem dX4_most_21 : decode cX4_most 21 = .ok (.istore 7, 2) := by decide +kernel
theorem dX4_most_23 : decode cX4_most 23 = .ok (.iload 7, 2) := by decide +kernel
theorem dX4_most_25 : decode cX4_most 25 = .ok (.aload_n 0, 1) := by decide +kernel
theorem dX4_most_26 : decode cX4_most 26 = .ok (.getfield 86, 3) := by decide +kernel
theorem dX4_most_29 : decode cX4_most 29 = .ok (.if_icmp .ge 68, 3) := by decide +kernel
theorem dX4_most_32 : decode cX4_most 32 = .ok (.iload 6, 2) := by decide +kernel
theorem dX4_most_34 : decode cX4_most 34 = .ok (.aload_n 0, 1) := by decide +kernel
theorem dX4_most_35 : decode cX4_most 35 = .ok (.getfield 28, 3) := by decide +kernel
theorem dX4_most_38 : decode cX4_most 38 = .ok (.iload 7, 2) := by decide +kernel
theorem dX4_most_40 : decode cX4_most 40 = .ok (.baload, 1) := by decide +kernel
theorem dX4_most_41 : decode cX4_most 41 = .ok (.ifCond .ne 46, 3) := by decide +kernel
theorem dX4_most_44 : decode cX4_most 44 = .ok (.aload_n 0, 1) := by decide +kernel
theorem dX4_most_45 : decode cX4_most 45 = .ok (.getfield 22, 3) := by decide +kernel
theorem dX4_most_48 : decode cX4_most 48 = .ok (.iload 7, 2) := by decide +kernel
theorem dX4_most_50 : decode cX4_most 50 = .ok (.iaload, 1) := by decide +kernel
theorem dX4_most_51 : decode cX4_most 51 = .ok (.iload_n 1, 1) := by decide +kernel
theorem dX4_most_52 : decode cX4_most 52 = .ok (.if_icmp .ne 35, 3) := by decide +kernel
theorem dX4_most_55 : decode cX4_most 55 = .ok (.aload_n 0, 1) := by decide +kernel
theorem dX4_most_56 : decode cX4_most 56 = .ok (.getfield 16, 3) := by decide +kernel
theorem dX4_most_59 : decode cX4_most 59 = .ok (.iload 7, 2) := by decide +kernel
theorem dX4_most_61 : decode cX4_most 61 = .ok (.iaload, 1) := by decide +kernel
theorem dX4_most_62 : decode cX4_most 62 = .ok (.iload_n 2, 1) := by decide +kernel
theorem dX4_most_63 : decode cX4_most 63 = .ok (.if_icmp .ne 24, 3) := by decide +kernel
theorem dX4_most_66 : decode cX4_most 66 = .ok (.aload_n 0, 1) := by decide +kernel
theorem dX4_most_67 : decode cX4_most 67 = .ok (.getfield 25, 3) := by decide +kernel
theorem dX4_most_70 : decode cX4_most 70 = .ok (.iload 7, 2) := by decide +kernel
theorem dX4_most_72 : decode cX4_most 72 = .ok (.iaload, 1) := by decide +kernel
theorem dX4_most_73 : decode cX4_most 73 = .ok (.aload_n 0, 1) := by decide +kernel
theorem dX4_most_74 : decode cX4_most 74 = .ok (.getfield 25, 3) := by decide +kernel
theorem dX4_most_77 : decode cX4_most 77 = .ok (.iload 5, 2) := by decide +kernel
theorem dX4_most_79 : decode cX4_most 79 = .ok (.iaload, 1) := by decide +kernel
theorem dX4_most_80 : decode cX4_most 80 = .ok (.if_icmp .ne 7, 3) := by decide +kernel
theorem dX4_most_83 : decode cX4_most 83 = .ok (.iconst 1, 1) := by decide +kernel
theorem dX4_most_84 : decode cX4_most 84 = .ok (.goto 4, 3) := by decide +kernel
theorem dX4_most_87 : decode cX4_most 87 = .ok (.iconst 0, 1) := by decide +kernel
theorem dX4_most_88 : decode cX4_most 88 = .ok (.iadd, 1) := by decide +kernel
theorem dX4_most_89 : decode cX4_most 89 = .ok (.istore 6, 2) := by decide +kernel
theorem dX4_most_91 : decode cX4_most 91 = .ok (.iinc 7 1, 3) := by decide +kernel
theorem dX4_most_94 : decode cX4_most 94 = .ok (.goto (-71), 3) := by decide +kernel
theorem dX4_most_97 : decode cX4_most 97 = .ok (.aload_n 0, 1) := by decide +kernel
theorem dX4_most_98 : decode cX4_most 98 = .ok (.getfield 28, 3) := by decide +kernel
theorem dX4_most_101 : decode cX4_most 101 = .ok (.iload 5, 2) := by decide +kernel
theorem dX4_most_103 : decode cX4_most 103 = .ok (.baload, 1) := by decide +kernel
theorem dX4_most_104 : decode cX4_most 104 = .ok (.ifCond .ne 29, 3) := by decide +kernel
theorem dX4_most_107 : decode cX4_most 107 = .ok (.aload_n 0, 1) := by decide +kernel
theorem dX4_most_108 : decode cX4_most 108 = .ok (.getfield 22, 3) := by decide +kernel
theorem dX4_most_111 : decode cX4_most 111 = .ok (.iload 5, 2) := by decide +kernel
theorem dX4_most_113 : decode cX4_most 113 = .ok (.iaload, 1) := by decide +kernel
theorem dX4_most_114 : decode cX4_most 114 = .ok (.iload_n 1, 1) := by decide +kernel
theorem dX4_most_115 : decode cX4_most 115 = .ok (.if_icmp .ne 18, 3) := by decide +kernel
theorem dX4_most_118 : decode cX4_most 118 = .ok (.aload_n 0, 1) := by decide +kernel
theorem dX4_most_119 : decode cX4_most 119 = .ok (.getfield 16, 3) := by decide +kernel
theorem dX4_most_122 : decode cX4_most 122 = .ok (.iload 5, 2) := by decide +kernel
theorem dX4_most_124 : decode cX4_most 124 = .ok (.iaload, 1) := by decide +kernel
theorem dX4_most_125 : decode cX4_most 125 = .ok (.iload_n 2, 1) := by decide +kernel
theorem dX4_most_126 : decode cX4_most 126 = .ok (.if_icmp .ne 7, 3) := by decide +kernel
theorem dX4_most_129 : decode cX4_most 129 = .ok (.iconst 1, 1) := by decide +kernel
theorem dX4_most_130 : decode cX4_most 130 = .ok (.goto 4, 3) := by decide +kernel
theorem dX4_most_133 : decode cX4_most 133 = .ok (.iconst 0, 1) := by decide +kernel
theorem dX4_most_134 : decode cX4_most 134 = .ok (.istore 7, 2) := by decide +kernel
theorem dX4_most_136 : decode cX4_most 136 = .ok (.iload 7, 2) := by decide +kernel
theorem dX4_most_138 : decode cX4_most 138 = .ok (.ifCond .eq 20, 3) := by decide +kernel
theorem dX4_most_141 : decode cX4_most 141 = .ok (.iload 6, 2) := by decide +kernel
theorem dX4_most_143 : decode cX4_most 143 = .ok (.iload 4, 2) := by decide +kernel
theorem dX4_most_145 : decode cX4_most 145 = .ok (.if_icmp .le 13, 3) := by decide +kernel
theorem dX4_most_148 : decode cX4_most 148 = .ok (.aload_n 0, 1) := by decide +kernel
theorem dX4_most_149 : decode cX4_most 149 = .ok (.getfield 25, 3) := by decide +kernel
theorem dX4_most_152 : decode cX4_most 152 = .ok (.iload 5, 2) := by decide +kernel
theorem dX4_most_154 : decode cX4_most 154 = .ok (.iaload, 1) := by decide +kernel
theorem dX4_most_155 : decode cX4_most 155 = .ok (.goto 4, 3) := by decide +kernel
theorem dX4_most_158 : decode cX4_most 158 = .ok (.iload_n 3, 1) := by decide +kernel
theorem dX4_most_159 : decode cX4_most 159 = .ok (.istore_n 3, 1) := by decide +kernel
theorem dX4_most_160 : decode cX4_most 160 = .ok (.iload 7, 2) := by decide +kernel
theorem dX4_most_162 : decode cX4_most 162 = .ok (.ifCond .eq 15, 3) := by decide +kernel
theorem dX4_most_165 : decode cX4_most 165 = .ok (.iload 6, 2) := by decide +kernel
theorem dX4_most_167 : decode cX4_most 167 = .ok (.iload 4, 2) := by decide +kernel
theorem dX4_most_169 : decode cX4_most 169 = .ok (.if_icmp .le 8, 3) := by decide +kernel
theorem dX4_most_172 : decode cX4_most 172 = .ok (.iload 6, 2) := by decide +kernel
theorem dX4_most_174 : decode cX4_most 174 = .ok (.goto 5, 3) := by decide +kernel
theorem dX4_most_177 : decode cX4_most 177 = .ok (.iload 4, 2) := by decide +kernel
theorem dX4_most_179 : decode cX4_most 179 = .ok (.istore 4, 2) := by decide +kernel
theorem dX4_most_181 : decode cX4_most 181 = .ok (.iinc 5 1, 3) := by decide +kernel
theorem dX4_most_184 : decode cX4_most 184 = .ok (.goto (-176), 3) := by decide +kernel
theorem dX4_most_187 : decode cX4_most 187 = .ok (.iload_n 3, 1) := by decide +kernel
theorem dX4_most_188 : decode cX4_most 188 = .ok (.ireturn, 1) := by decide +kernel
theorem dX4_formAt_0 : decode cX4_formAt 0 = .ok (.aload_n 0, 1) := by decide +kernel
theorem dX4_formAt_1 : decode cX4_formAt 1 = .ok (.iconst 0, 1) := by decide +kernel
theorem dX4_formAt_2 : decode cX4_formAt 2 = .ok (.putfield 78, 3) := by decide +kernel
theorem dX4_formAt_5 : decode cX4_formAt 5 = .ok (.iload_n 1, 1) := by decide +kernel
theorem dX4_formAt_6 : decode cX4_formAt 6 = .ok (.invokestatic 110, 3) := by decide +kernel
theorem dX4_formAt_9 : decode cX4_formAt 9 = .ok (.ifCond .eq 19, 3) := by decide +kernel
theorem dX4_formAt_12 : decode cX4_formAt 12 = .ok (.iload_n 2, 1) := by decide +kernel
theorem dX4_formAt_13 : decode cX4_formAt 13 = .ok (.invokestatic 107, 3) := by decide +kernel
theorem dX4_formAt_16 : decode cX4_formAt 16 = .ok (.ifCond .eq 12, 3) := by decide +kernel
theorem dX4_formAt_19 : decode cX4_formAt 19 = .ok (.aload_n 0, 1) := by decide +kernel
theorem dX4_formAt_20 : decode cX4_formAt 20 = .ok (.iload_n 1, 1) := by decide +kernel
theorem dX4_formAt_21 : decode cX4_formAt 21 = .ok (.iload_n 2, 1) := by decide +kernel
theorem dX4_formAt_22 : decode cX4_formAt 22 = .ok (.invokevirtual 142, 3) := by decide +kernel
theorem dX4_formAt_25 : decode cX4_formAt 25 = .ok (.goto 8, 3) := by decide +kernel
theorem dX4_formAt_28 : decode cX4_formAt 28 = .ok (.aload_n 0, 1) := by decide +kernel
theorem dX4_formAt_29 : decode cX4_formAt 29 = .ok (.iconst 1, 1) := by decide +kernel
theorem dX4_formAt_30 : decode cX4_formAt 30 = .ok (.invokevirtual 103, 3) := by decide +kernel
theorem dX4_formAt_33 : decode cX4_formAt 33 = .ok (.ireturn, 1) := by decide +kernel
theorem dX4_drawn_0 : decode cX4_drawn 0 = .ok (.iconst 0, 1) := by decide +kernel
theorem dX4_drawn_1 : decode cX4_drawn 1 = .ok (.istore_n 2, 1) := by decide +kernel
theorem dX4_drawn_2 : decode cX4_drawn 2 = .ok (.aload_n 0, 1) := by decide +kernel
theorem dX4_drawn_3 : decode cX4_drawn 3 = .ok (.iload_n 1, 1) := by decide +kernel
theorem dX4_drawn_4 : decode cX4_drawn 4 = .ok (.iconst 0, 1) := by decide +kernel
theorem dX4_drawn_5 : decode cX4_drawn 5 = .ok (.invokevirtual 142, 3) := by decide +kernel
theorem dX4_drawn_8 : decode cX4_drawn 8 = .ok (.istore_n 3, 1) := by decide +kernel
theorem dX4_drawn_9 : decode cX4_drawn 9 = .ok (.iconst 0, 1) := by decide +kernel
theorem dX4_drawn_10 : decode cX4_drawn 10 = .ok (.istore 4, 2) := by decide +kernel
theorem dX4_drawn_12 : decode cX4_drawn 12 = .ok (.iload 4, 2) := by decide +kernel
theorem dX4_drawn_14 : decode cX4_drawn 14 = .ok (.iconst 1, 1) := by decide +kernel
theorem dX4_drawn_15 : decode cX4_drawn 15 = .ok (.iadd, 1) := by decide +kernel
theorem dX4_drawn_16 : decode cX4_drawn 16 = .ok (.bipush 10, 2) := by decide +kernel
theorem dX4_drawn_18 : decode cX4_drawn 18 = .ok (.if_icmp .ge 51, 3) := by decide +kernel
theorem dX4_drawn_21 : decode cX4_drawn 21 = .ok (.aload_n 0, 1) := by decide +kernel
theorem dX4_drawn_22 : decode cX4_drawn 22 = .ok (.iload_n 1, 1) := by decide +kernel
theorem dX4_drawn_23 : decode cX4_drawn 23 = .ok (.iload 4, 2) := by decide +kernel
theorem dX4_drawn_25 : decode cX4_drawn 25 = .ok (.iconst 1, 1) := by decide +kernel
theorem dX4_drawn_26 : decode cX4_drawn 26 = .ok (.iadd, 1) := by decide +kernel
theorem dX4_drawn_27 : decode cX4_drawn 27 = .ok (.invokevirtual 142, 3) := by decide +kernel
theorem dX4_drawn_30 : decode cX4_drawn 30 = .ok (.istore 5, 2) := by decide +kernel
theorem dX4_drawn_32 : decode cX4_drawn 32 = .ok (.iload_n 2, 1) := by decide +kernel
theorem dX4_drawn_33 : decode cX4_drawn 33 = .ok (.iload_n 3, 1) := by decide +kernel
theorem dX4_drawn_34 : decode cX4_drawn 34 = .ok (.iconst (-1), 1) := by decide +kernel
theorem dX4_drawn_35 : decode cX4_drawn 35 = .ok (.if_icmp .eq 22, 3) := by decide +kernel
theorem dX4_drawn_38 : decode cX4_drawn 38 = .ok (.iload 5, 2) := by decide +kernel
theorem dX4_drawn_40 : decode cX4_drawn 40 = .ok (.iconst (-1), 1) := by decide +kernel
theorem dX4_drawn_41 : decode cX4_drawn 41 = .ok (.if_icmp .eq 16, 3) := by decide +kernel
theorem dX4_drawn_44 : decode cX4_drawn 44 = .ok (.iload_n 3, 1) := by decide +kernel
theorem dX4_drawn_45 : decode cX4_drawn 45 = .ok (.iload 5, 2) := by decide +kernel
theorem dX4_drawn_47 : decode cX4_drawn 47 = .ok (.if_icmp .eq 10, 3) := by decide +kernel
theorem dX4_drawn_50 : decode cX4_drawn 50 = .ok (.iconst 1, 1) := by decide +kernel
theorem dX4_drawn_51 : decode cX4_drawn 51 = .ok (.iload 4, 2) := by decide +kernel
theorem dX4_drawn_53 : decode cX4_drawn 53 = .ok (.ishl, 1) := by decide +kernel
theorem dX4_drawn_54 : decode cX4_drawn 54 = .ok (.goto 4, 3) := by decide +kernel
theorem dX4_drawn_57 : decode cX4_drawn 57 = .ok (.iconst 0, 1) := by decide +kernel
theorem dX4_drawn_58 : decode cX4_drawn 58 = .ok (.ior, 1) := by decide +kernel
theorem dX4_drawn_59 : decode cX4_drawn 59 = .ok (.istore_n 2, 1) := by decide +kernel
theorem dX4_drawn_60 : decode cX4_drawn 60 = .ok (.iload 5, 2) := by decide +kernel
theorem dX4_drawn_62 : decode cX4_drawn 62 = .ok (.istore_n 3, 1) := by decide +kernel
theorem dX4_drawn_63 : decode cX4_drawn 63 = .ok (.iinc 4 1, 3) := by decide +kernel
theorem dX4_drawn_66 : decode cX4_drawn 66 = .ok (.goto (-54), 3) := by decide +kernel
theorem dX4_drawn_69 : decode cX4_drawn 69 = .ok (.iload_n 2, 1) := by decide +kernel
theorem dX4_drawn_70 : decode cX4_drawn 70 = .ok (.ireturn, 1) := by decide +kernel
theorem dX4_lines_0 : decode cX4_lines 0 = .ok (.aload_n 0, 1) := by decide +kernel
theorem dX4_lines_1 : decode cX4_lines 1 = .ok (.iconst 0, 1) := by decide +kernel
theorem dX4_lines_2 : decode cX4_lines 2 = .ok (.putfield 78, 3) := by decide +kernel
theorem dX4_lines_5 : decode cX4_lines 5 = .ok (.iload_n 1, 1) := by decide +kernel
theorem dX4_lines_6 : decode cX4_lines 6 = .ok (.invokestatic 110, 3) := by decide +kernel
theorem dX4_lines_9 : decode cX4_lines 9 = .ok (.ifCond .eq 11, 3) := by decide +kernel
theorem dX4_lines_12 : decode cX4_lines 12 = .ok (.aload_n 0, 1) := by decide +kernel
theorem dX4_lines_13 : decode cX4_lines 13 = .ok (.iload_n 1, 1) := by decide +kernel
theorem dX4_lines_14 : decode cX4_lines 14 = .ok (.invokevirtual 145, 3) := by decide +kernel
theorem dX4_lines_17 : decode cX4_lines 17 = .ok (.goto 8, 3) := by decide +kernel
theorem dX4_lines_20 : decode cX4_lines 20 = .ok (.aload_n 0, 1) := by decide +kernel
theorem dX4_lines_21 : decode cX4_lines 21 = .ok (.iconst 1, 1) := by decide +kernel
theorem dX4_lines_22 : decode cX4_lines 22 = .ok (.invokevirtual 103, 3) := by decide +kernel
theorem dX4_lines_25 : decode cX4_lines 25 = .ok (.ireturn, 1) := by decide +kernel
theorem dX4_linesByForms_0 : decode cX4_linesByForms 0 = .ok (.aload_n 0, 1) := by decide +kernel
theorem dX4_linesByForms_1 : decode cX4_linesByForms 1 = .ok (.iconst 0, 1) := by decide +kernel
theorem dX4_linesByForms_2 : decode cX4_linesByForms 2 = .ok (.putfield 78, 3) := by decide +kernel
theorem dX4_linesByForms_5 : decode cX4_linesByForms 5 = .ok (.iload_n 1, 1) := by decide +kernel
theorem dX4_linesByForms_6 : decode cX4_linesByForms 6 = .ok (.invokestatic 110, 3) := by decide +kernel
theorem dX4_linesByForms_9 : decode cX4_linesByForms 9 = .ok (.ifCond .eq 11, 3) := by decide +kernel
theorem dX4_linesByForms_12 : decode cX4_linesByForms 12 = .ok (.aload_n 0, 1) := by decide +kernel
theorem dX4_linesByForms_13 : decode cX4_linesByForms 13 = .ok (.iload_n 1, 1) := by decide +kernel
theorem dX4_linesByForms_14 : decode cX4_linesByForms 14 = .ok (.invokevirtual 145, 3) := by decide +kernel
theorem dX4_linesByForms_17 : decode cX4_linesByForms 17 = .ok (.goto 8, 3) := by decide +kernel
theorem dX4_linesByForms_20 : decode cX4_linesByForms 20 = .ok (.aload_n 0, 1) := by decide +kernel
theorem dX4_linesByForms_21 : decode cX4_linesByForms 21 = .ok (.iconst 1, 1) := by decide +kernel
theorem dX4_linesByForms_22 : decode cX4_linesByForms 22 = .ok (.invokevirtual 103, 3) := by decide +kernel
theorem dX4_linesByForms_25 : decode cX4_linesByForms 25 = .ok (.ireturn, 1) := by decide +kernel
theorem dX4_forget_0 : decode cX4_forget 0 = .ok (.aload_n 0, 1) := by decide +kernel
theorem dX4_forget_1 : decode cX4_forget 1 = .ok (.iconst 0, 1) := by decide +kernel
theorem dX4_forget_2 : decode cX4_forget 2 = .ok (.putfield 78, 3) := by decide +kernel
theorem dX4_forget_5 : decode cX4_forget 5 = .ok (.iload_n 1, 1) := by decide +kernel
theorem dX4_forget_6 : decode cX4_forget 6 = .ok (.iconst 0, 1) := by decide +kernel
theorem dX4_forget_7 : decode cX4_forget 7 = .ok (.bipush 7, 2) := by decide +kernel
theorem dX4_forget_9 : decode cX4_forget 9 = .ok (.invokestatic 82, 3) := by decide +kernel
theorem dX4_forget_12 : decode cX4_forget 12 = .ok (.ifCond .ne 9, 3) := by decide +kernel
theorem dX4_forget_15 : decode cX4_forget 15 = .ok (.aload_n 0, 1) := by decide +kernel
theorem dX4_forget_16 : decode cX4_forget 16 = .ok (.iconst 1, 1) := by decide +kernel
theorem dX4_forget_17 : decode cX4_forget 17 = .ok (.invokevirtual 103, 3) := by decide +kernel
theorem dX4_forget_20 : decode cX4_forget 20 = .ok (.ireturn, 1) := by decide +kernel
theorem dX4_forget_21 : decode cX4_forget 21 = .ok (.iconst 0, 1) := by decide +kernel
theorem dX4_forget_22 : decode cX4_forget 22 = .ok (.istore_n 2, 1) := by decide +kernel
theorem dX4_forget_23 : decode cX4_forget 23 = .ok (.lconst 0, 1) := by decide +kernel
theorem dX4_forget_24 : decode cX4_forget 24 = .ok (.lstore_n 3, 1) := by decide +kernel
theorem dX4_forget_25 : decode cX4_forget 25 = .ok (.iconst 0, 1) := by decide +kernel
theorem dX4_forget_26 : decode cX4_forget 26 = .ok (.istore 5, 2) := by decide +kernel
theorem dX4_forget_28 : decode cX4_forget 28 = .ok (.iload 5, 2) := by decide +kernel
theorem dX4_forget_30 : decode cX4_forget 30 = .ok (.aload_n 0, 1) := by decide +kernel
theorem dX4_forget_31 : decode cX4_forget 31 = .ok (.getfield 86, 3) := by decide +kernel
theorem dX4_forget_34 : decode cX4_forget 34 = .ok (.if_icmp .ge 93, 3) := by decide +kernel
theorem dX4_forget_37 : decode cX4_forget 37 = .ok (.aload_n 0, 1) := by decide +kernel
theorem dX4_forget_38 : decode cX4_forget 38 = .ok (.getfield 13, 3) := by decide +kernel
theorem dX4_forget_41 : decode cX4_forget 41 = .ok (.iload 5, 2) := by decide +kernel
theorem dX4_forget_43 : decode cX4_forget 43 = .ok (.iaload, 1) := by decide +kernel
theorem dX4_forget_44 : decode cX4_forget 44 = .ok (.iload_n 1, 1) := by decide +kernel
theorem dX4_forget_45 : decode cX4_forget 45 = .ok (.if_icmp .ne 17, 3) := by decide +kernel
theorem dX4_forget_48 : decode cX4_forget 48 = .ok (.aload_n 0, 1) := by decide +kernel
theorem dX4_forget_49 : decode cX4_forget 49 = .ok (.getfield 28, 3) := by decide +kernel
theorem dX4_forget_52 : decode cX4_forget 52 = .ok (.iload 5, 2) := by decide +kernel
theorem dX4_forget_54 : decode cX4_forget 54 = .ok (.baload, 1) := by decide +kernel
theorem dX4_forget_55 : decode cX4_forget 55 = .ok (.ifCond .ne 7, 3) := by decide +kernel
theorem dX4_forget_58 : decode cX4_forget 58 = .ok (.iconst 1, 1) := by decide +kernel
theorem dX4_forget_59 : decode cX4_forget 59 = .ok (.goto 4, 3) := by decide +kernel
theorem dX4_forget_62 : decode cX4_forget 62 = .ok (.iconst 0, 1) := by decide +kernel
theorem dX4_forget_63 : decode cX4_forget 63 = .ok (.istore 6, 2) := by decide +kernel
theorem dX4_forget_65 : decode cX4_forget 65 = .ok (.iload_n 2, 1) := by decide +kernel
theorem dX4_forget_66 : decode cX4_forget 66 = .ok (.iload 6, 2) := by decide +kernel
theorem dX4_forget_68 : decode cX4_forget 68 = .ok (.ifCond .eq 7, 3) := by decide +kernel
theorem dX4_forget_71 : decode cX4_forget 71 = .ok (.iconst 1, 1) := by decide +kernel
theorem dX4_forget_72 : decode cX4_forget 72 = .ok (.goto 4, 3) := by decide +kernel
theorem dX4_forget_75 : decode cX4_forget 75 = .ok (.iconst 0, 1) := by decide +kernel
theorem dX4_forget_76 : decode cX4_forget 76 = .ok (.iadd, 1) := by decide +kernel
theorem dX4_forget_77 : decode cX4_forget 77 = .ok (.istore_n 2, 1) := by decide +kernel
theorem dX4_forget_78 : decode cX4_forget 78 = .ok (.lload_n 3, 1) := by decide +kernel
theorem dX4_forget_79 : decode cX4_forget 79 = .ok (.iload 6, 2) := by decide +kernel
theorem dX4_forget_81 : decode cX4_forget 81 = .ok (.ifCond .eq 10, 3) := by decide +kernel
theorem dX4_forget_84 : decode cX4_forget 84 = .ok (.lconst 1, 1) := by decide +kernel
theorem dX4_forget_85 : decode cX4_forget 85 = .ok (.iload 5, 2) := by decide +kernel
theorem dX4_forget_87 : decode cX4_forget 87 = .ok (.lshl, 1) := by decide +kernel
theorem dX4_forget_88 : decode cX4_forget 88 = .ok (.goto 4, 3) := by decide +kernel
theorem dX4_forget_91 : decode cX4_forget 91 = .ok (.lconst 0, 1) := by decide +kernel
theorem dX4_forget_92 : decode cX4_forget 92 = .ok (.lor, 1) := by decide +kernel
theorem dX4_forget_93 : decode cX4_forget 93 = .ok (.lstore_n 3, 1) := by decide +kernel
theorem dX4_forget_94 : decode cX4_forget 94 = .ok (.aload_n 0, 1) := by decide +kernel
theorem dX4_forget_95 : decode cX4_forget 95 = .ok (.getfield 28, 3) := by decide +kernel
theorem dX4_forget_98 : decode cX4_forget 98 = .ok (.iload 5, 2) := by decide +kernel
theorem dX4_forget_100 : decode cX4_forget 100 = .ok (.aload_n 0, 1) := by decide +kernel
theorem dX4_forget_101 : decode cX4_forget 101 = .ok (.getfield 28, 3) := by decide +kernel
theorem dX4_forget_104 : decode cX4_forget 104 = .ok (.iload 5, 2) := by decide +kernel
theorem dX4_forget_106 : decode cX4_forget 106 = .ok (.baload, 1) := by decide +kernel
theorem dX4_forget_107 : decode cX4_forget 107 = .ok (.ifCond .ne 8, 3) := by decide +kernel
theorem dX4_forget_110 : decode cX4_forget 110 = .ok (.iload 6, 2) := by decide +kernel
theorem dX4_forget_112 : decode cX4_forget 112 = .ok (.ifCond .eq 7, 3) := by decide +kernel
theorem dX4_forget_115 : decode cX4_forget 115 = .ok (.iconst 1, 1) := by decide +kernel
theorem dX4_forget_116 : decode cX4_forget 116 = .ok (.goto 4, 3) := by decide +kernel
theorem dX4_forget_119 : decode cX4_forget 119 = .ok (.iconst 0, 1) := by decide +kernel
theorem dX4_forget_120 : decode cX4_forget 120 = .ok (.bastore, 1) := by decide +kernel
theorem dX4_forget_121 : decode cX4_forget 121 = .ok (.iinc 5 1, 3) := by decide +kernel
theorem dX4_forget_124 : decode cX4_forget 124 = .ok (.goto (-96), 3) := by decide +kernel
theorem dX4_forget_127 : decode cX4_forget 127 = .ok (.iconst 0, 1) := by decide +kernel
theorem dX4_forget_128 : decode cX4_forget 128 = .ok (.istore 5, 2) := by decide +kernel
theorem dX4_forget_130 : decode cX4_forget 130 = .ok (.iload 5, 2) := by decide +kernel
theorem dX4_forget_132 : decode cX4_forget 132 = .ok (.aload_n 0, 1) := by decide +kernel
theorem dX4_forget_133 : decode cX4_forget 133 = .ok (.getfield 89, 3) := by decide +kernel
theorem dX4_forget_136 : decode cX4_forget 136 = .ok (.if_icmp .ge 82, 3) := by decide +kernel
theorem dX4_forget_139 : decode cX4_forget 139 = .ok (.aload_n 0, 1) := by decide +kernel
theorem dX4_forget_140 : decode cX4_forget 140 = .ok (.getfield 56, 3) := by decide +kernel
theorem dX4_forget_143 : decode cX4_forget 143 = .ok (.iload 5, 2) := by decide +kernel
theorem dX4_forget_145 : decode cX4_forget 145 = .ok (.laload, 1) := by decide +kernel
theorem dX4_forget_146 : decode cX4_forget 146 = .ok (.lconst 0, 1) := by decide +kernel
theorem dX4_forget_147 : decode cX4_forget 147 = .ok (.lcmp, 1) := by decide +kernel
theorem dX4_forget_148 : decode cX4_forget 148 = .ok (.ifCond .eq 7, 3) := by decide +kernel
theorem dX4_forget_151 : decode cX4_forget 151 = .ok (.iconst 1, 1) := by decide +kernel
theorem dX4_forget_152 : decode cX4_forget 152 = .ok (.goto 4, 3) := by decide +kernel
theorem dX4_forget_155 : decode cX4_forget 155 = .ok (.iconst 0, 1) := by decide +kernel
theorem dX4_forget_156 : decode cX4_forget 156 = .ok (.istore 6, 2) := by decide +kernel
theorem dX4_forget_158 : decode cX4_forget 158 = .ok (.aload_n 0, 1) := by decide +kernel
theorem dX4_forget_159 : decode cX4_forget 159 = .ok (.getfield 56, 3) := by decide +kernel
theorem dX4_forget_162 : decode cX4_forget 162 = .ok (.iload 5, 2) := by decide +kernel
theorem dX4_forget_164 : decode cX4_forget 164 = .ok (.dup2, 1) := by decide +kernel
theorem dX4_forget_165 : decode cX4_forget 165 = .ok (.laload, 1) := by decide +kernel
theorem dX4_forget_166 : decode cX4_forget 166 = .ok (.lload_n 3, 1) := by decide +kernel
theorem dX4_forget_167 : decode cX4_forget 167 = .ok (.ldc2_w 148, 3) := by decide +kernel
theorem dX4_forget_170 : decode cX4_forget 170 = .ok (.lxor, 1) := by decide +kernel
theorem dX4_forget_171 : decode cX4_forget 171 = .ok (.land, 1) := by decide +kernel
theorem dX4_forget_172 : decode cX4_forget 172 = .ok (.lastore, 1) := by decide +kernel
theorem dX4_forget_173 : decode cX4_forget 173 = .ok (.aload_n 0, 1) := by decide +kernel
theorem dX4_forget_174 : decode cX4_forget 174 = .ok (.getfield 53, 3) := by decide +kernel
theorem dX4_forget_177 : decode cX4_forget 177 = .ok (.iload 5, 2) := by decide +kernel
theorem dX4_forget_179 : decode cX4_forget 179 = .ok (.aload_n 0, 1) := by decide +kernel
theorem dX4_forget_180 : decode cX4_forget 180 = .ok (.getfield 53, 3) := by decide +kernel
theorem dX4_forget_183 : decode cX4_forget 183 = .ok (.iload 5, 2) := by decide +kernel
theorem dX4_forget_185 : decode cX4_forget 185 = .ok (.baload, 1) := by decide +kernel
theorem dX4_forget_186 : decode cX4_forget 186 = .ok (.ifCond .ne 20, 3) := by decide +kernel
theorem dX4_forget_189 : decode cX4_forget 189 = .ok (.iload 6, 2) := by decide +kernel
theorem dX4_forget_191 : decode cX4_forget 191 = .ok (.ifCond .eq 19, 3) := by decide +kernel
theorem dX4_forget_194 : decode cX4_forget 194 = .ok (.aload_n 0, 1) := by decide +kernel
theorem dX4_forget_195 : decode cX4_forget 195 = .ok (.getfield 56, 3) := by decide +kernel
theorem dX4_forget_198 : decode cX4_forget 198 = .ok (.iload 5, 2) := by decide +kernel
theorem dX4_forget_200 : decode cX4_forget 200 = .ok (.laload, 1) := by decide +kernel
theorem dX4_forget_201 : decode cX4_forget 201 = .ok (.lconst 0, 1) := by decide +kernel
theorem dX4_forget_202 : decode cX4_forget 202 = .ok (.lcmp, 1) := by decide +kernel
theorem dX4_forget_203 : decode cX4_forget 203 = .ok (.ifCond .ne 7, 3) := by decide +kernel
theorem dX4_forget_206 : decode cX4_forget 206 = .ok (.iconst 1, 1) := by decide +kernel
theorem dX4_forget_207 : decode cX4_forget 207 = .ok (.goto 4, 3) := by decide +kernel
theorem dX4_forget_210 : decode cX4_forget 210 = .ok (.iconst 0, 1) := by decide +kernel
theorem dX4_forget_211 : decode cX4_forget 211 = .ok (.bastore, 1) := by decide +kernel
theorem dX4_forget_212 : decode cX4_forget 212 = .ok (.iinc 5 1, 3) := by decide +kernel
theorem dX4_forget_215 : decode cX4_forget 215 = .ok (.goto (-85), 3) := by decide +kernel
theorem dX4_forget_218 : decode cX4_forget 218 = .ok (.iload_n 2, 1) := by decide +kernel
theorem dX4_forget_219 : decode cX4_forget 219 = .ok (.ireturn, 1) := by decide +kernel
theorem dX4_there_0 : decode cX4_there 0 = .ok (.lconst 0, 1) := by decide +kernel
theorem dX4_there_1 : decode cX4_there 1 = .ok (.lstore_n 1, 1) := by decide +kernel
theorem dX4_there_2 : decode cX4_there 2 = .ok (.iconst 0, 1) := by decide +kernel
theorem dX4_there_3 : decode cX4_there 3 = .ok (.istore_n 3, 1) := by decide +kernel
theorem dX4_there_4 : decode cX4_there 4 = .ok (.iload_n 3, 1) := by decide +kernel
theorem dX4_there_5 : decode cX4_there 5 = .ok (.aload_n 0, 1) := by decide +kernel
theorem dX4_there_6 : decode cX4_there 6 = .ok (.getfield 86, 3) := by decide +kernel
theorem dX4_there_9 : decode cX4_there 9 = .ok (.if_icmp .ge 28, 3) := by decide +kernel
theorem dX4_there_12 : decode cX4_there 12 = .ok (.lload_n 1, 1) := by decide +kernel
theorem dX4_there_13 : decode cX4_there 13 = .ok (.aload_n 0, 1) := by decide +kernel
theorem dX4_there_14 : decode cX4_there 14 = .ok (.getfield 28, 3) := by decide +kernel
theorem dX4_there_17 : decode cX4_there 17 = .ok (.iload_n 3, 1) := by decide +kernel
theorem dX4_there_18 : decode cX4_there 18 = .ok (.baload, 1) := by decide +kernel
theorem dX4_there_19 : decode cX4_there 19 = .ok (.ifCond .eq 7, 3) := by decide +kernel
theorem dX4_there_22 : decode cX4_there 22 = .ok (.lconst 0, 1) := by decide +kernel
theorem dX4_there_23 : decode cX4_there 23 = .ok (.goto 6, 3) := by decide +kernel
theorem dX4_there_26 : decode cX4_there 26 = .ok (.lconst 1, 1) := by decide +kernel
theorem dX4_there_27 : decode cX4_there 27 = .ok (.iload_n 3, 1) := by decide +kernel
theorem dX4_there_28 : decode cX4_there 28 = .ok (.lshl, 1) := by decide +kernel
theorem dX4_there_29 : decode cX4_there 29 = .ok (.lor, 1) := by decide +kernel
theorem dX4_there_30 : decode cX4_there 30 = .ok (.lstore_n 1, 1) := by decide +kernel
theorem dX4_there_31 : decode cX4_there 31 = .ok (.iinc 3 1, 3) := by decide +kernel
theorem dX4_there_34 : decode cX4_there 34 = .ok (.goto (-30), 3) := by decide +kernel
theorem dX4_there_37 : decode cX4_there 37 = .ok (.lload_n 1, 1) := by decide +kernel
theorem dX4_there_38 : decode cX4_there 38 = .ok (.lreturn, 1) := by decide +kernel
theorem dX4_copy_0 : decode cX4_copy 0 = .ok (.aload_n 0, 1) := by decide +kernel
theorem dX4_copy_1 : decode cX4_copy 1 = .ok (.iconst 0, 1) := by decide +kernel
theorem dX4_copy_2 : decode cX4_copy 2 = .ok (.putfield 78, 3) := by decide +kernel
theorem dX4_copy_5 : decode cX4_copy 5 = .ok (.iload_n 1, 1) := by decide +kernel
theorem dX4_copy_6 : decode cX4_copy 6 = .ok (.invokestatic 150, 3) := by decide +kernel
theorem dX4_copy_9 : decode cX4_copy 9 = .ok (.ifCond .ne 9, 3) := by decide +kernel
theorem dX4_copy_12 : decode cX4_copy 12 = .ok (.aload_n 0, 1) := by decide +kernel
theorem dX4_copy_13 : decode cX4_copy 13 = .ok (.iconst 1, 1) := by decide +kernel
theorem dX4_copy_14 : decode cX4_copy 14 = .ok (.invokevirtual 103, 3) := by decide +kernel
theorem dX4_copy_17 : decode cX4_copy 17 = .ok (.ireturn, 1) := by decide +kernel
theorem dX4_copy_18 : decode cX4_copy 18 = .ok (.aload_n 0, 1) := by decide +kernel
theorem dX4_copy_19 : decode cX4_copy 19 = .ok (.getfield 60, 3) := by decide +kernel
theorem dX4_copy_22 : decode cX4_copy 22 = .ok (.iload_n 1, 1) := by decide +kernel
theorem dX4_copy_23 : decode cX4_copy 23 = .ok (.aload_n 0, 1) := by decide +kernel
theorem dX4_copy_24 : decode cX4_copy 24 = .ok (.invokevirtual 153, 3) := by decide +kernel
theorem dX4_copy_27 : decode cX4_copy 27 = .ok (.lastore, 1) := by decide +kernel
theorem dX4_copy_28 : decode cX4_copy 28 = .ok (.aload_n 0, 1) := by decide +kernel
theorem dX4_copy_29 : decode cX4_copy 29 = .ok (.getfield 60, 3) := by decide +kernel
theorem dX4_copy_32 : decode cX4_copy 32 = .ok (.iload_n 1, 1) := by decide +kernel
theorem dX4_copy_33 : decode cX4_copy 33 = .ok (.laload, 1) := by decide +kernel
theorem dX4_copy_34 : decode cX4_copy 34 = .ok (.invokestatic 123, 3) := by decide +kernel
theorem dX4_copy_37 : decode cX4_copy 37 = .ok (.ireturn, 1) := by decide +kernel
theorem dX4_tell_0 : decode cX4_tell 0 = .ok (.aload_n 0, 1) := by decide +kernel
theorem dX4_tell_1 : decode cX4_tell 1 = .ok (.iconst 0, 1) := by decide +kernel
theorem dX4_tell_2 : decode cX4_tell 2 = .ok (.putfield 78, 3) := by decide +kernel
theorem dX4_tell_5 : decode cX4_tell 5 = .ok (.iload_n 1, 1) := by decide +kernel
theorem dX4_tell_6 : decode cX4_tell 6 = .ok (.invokestatic 150, 3) := by decide +kernel
theorem dX4_tell_9 : decode cX4_tell 9 = .ok (.ifCond .ne 9, 3) := by decide +kernel
theorem dX4_tell_12 : decode cX4_tell 12 = .ok (.aload_n 0, 1) := by decide +kernel
theorem dX4_tell_13 : decode cX4_tell 13 = .ok (.iconst 1, 1) := by decide +kernel
theorem dX4_tell_14 : decode cX4_tell 14 = .ok (.invokevirtual 103, 3) := by decide +kernel
theorem dX4_tell_17 : decode cX4_tell 17 = .ok (.ireturn, 1) := by decide +kernel
theorem dX4_tell_18 : decode cX4_tell 18 = .ok (.aload_n 0, 1) := by decide +kernel
theorem dX4_tell_19 : decode cX4_tell 19 = .ok (.getfield 60, 3) := by decide +kernel
theorem dX4_tell_22 : decode cX4_tell 22 = .ok (.iload_n 1, 1) := by decide +kernel
theorem dX4_tell_23 : decode cX4_tell 23 = .ok (.laload, 1) := by decide +kernel
theorem dX4_tell_24 : decode cX4_tell 24 = .ok (.aload_n 0, 1) := by decide +kernel
theorem dX4_tell_25 : decode cX4_tell 25 = .ok (.invokevirtual 153, 3) := by decide +kernel
theorem dX4_tell_28 : decode cX4_tell 28 = .ok (.ldc2_w 148, 3) := by decide +kernel
theorem dX4_tell_31 : decode cX4_tell 31 = .ok (.lxor, 1) := by decide +kernel
theorem dX4_tell_32 : decode cX4_tell 32 = .ok (.land, 1) := by decide +kernel
theorem dX4_tell_33 : decode cX4_tell 33 = .ok (.invokestatic 123, 3) := by decide +kernel
theorem dX4_tell_36 : decode cX4_tell 36 = .ok (.istore_n 2, 1) := by decide +kernel
theorem dX4_tell_37 : decode cX4_tell 37 = .ok (.aload_n 0, 1) := by decide +kernel
theorem dX4_tell_38 : decode cX4_tell 38 = .ok (.getfield 60, 3) := by decide +kernel
theorem dX4_tell_41 : decode cX4_tell 41 = .ok (.iload_n 1, 1) := by decide +kernel
theorem dX4_tell_42 : decode cX4_tell 42 = .ok (.dup2, 1) := by decide +kernel
theorem dX4_tell_43 : decode cX4_tell 43 = .ok (.laload, 1) := by decide +kernel
theorem dX4_tell_44 : decode cX4_tell 44 = .ok (.aload_n 0, 1) := by decide +kernel
theorem dX4_tell_45 : decode cX4_tell 45 = .ok (.invokevirtual 153, 3) := by decide +kernel
theorem dX4_tell_48 : decode cX4_tell 48 = .ok (.land, 1) := by decide +kernel
theorem dX4_tell_49 : decode cX4_tell 49 = .ok (.lastore, 1) := by decide +kernel
theorem dX4_tell_50 : decode cX4_tell 50 = .ok (.iload_n 2, 1) := by decide +kernel
theorem dX4_tell_51 : decode cX4_tell 51 = .ok (.ireturn, 1) := by decide +kernel
theorem dX4_owed_0 : decode cX4_owed 0 = .ok (.aload_n 0, 1) := by decide +kernel
theorem dX4_owed_1 : decode cX4_owed 1 = .ok (.iconst 0, 1) := by decide +kernel
theorem dX4_owed_2 : decode cX4_owed 2 = .ok (.putfield 78, 3) := by decide +kernel
theorem dX4_owed_5 : decode cX4_owed 5 = .ok (.iload_n 1, 1) := by decide +kernel
theorem dX4_owed_6 : decode cX4_owed 6 = .ok (.invokestatic 150, 3) := by decide +kernel
theorem dX4_owed_9 : decode cX4_owed 9 = .ok (.ifCond .eq 24, 3) := by decide +kernel
theorem dX4_owed_12 : decode cX4_owed 12 = .ok (.aload_n 0, 1) := by decide +kernel
theorem dX4_owed_13 : decode cX4_owed 13 = .ok (.getfield 60, 3) := by decide +kernel
theorem dX4_owed_16 : decode cX4_owed 16 = .ok (.iload_n 1, 1) := by decide +kernel
theorem dX4_owed_17 : decode cX4_owed 17 = .ok (.laload, 1) := by decide +kernel
theorem dX4_owed_18 : decode cX4_owed 18 = .ok (.aload_n 0, 1) := by decide +kernel
theorem dX4_owed_19 : decode cX4_owed 19 = .ok (.invokevirtual 153, 3) := by decide +kernel
theorem dX4_owed_22 : decode cX4_owed 22 = .ok (.ldc2_w 148, 3) := by decide +kernel
theorem dX4_owed_25 : decode cX4_owed 25 = .ok (.lxor, 1) := by decide +kernel
theorem dX4_owed_26 : decode cX4_owed 26 = .ok (.land, 1) := by decide +kernel
theorem dX4_owed_27 : decode cX4_owed 27 = .ok (.invokestatic 123, 3) := by decide +kernel
theorem dX4_owed_30 : decode cX4_owed 30 = .ok (.goto 8, 3) := by decide +kernel
theorem dX4_owed_33 : decode cX4_owed 33 = .ok (.aload_n 0, 1) := by decide +kernel
theorem dX4_owed_34 : decode cX4_owed 34 = .ok (.iconst 1, 1) := by decide +kernel
theorem dX4_owed_35 : decode cX4_owed 35 = .ok (.invokevirtual 103, 3) := by decide +kernel
theorem dX4_owed_38 : decode cX4_owed 38 = .ok (.ireturn, 1) := by decide +kernel
theorem dX4_quote_0 : decode cX4_quote 0 = .ok (.aload_n 0, 1) := by decide +kernel
theorem dX4_quote_1 : decode cX4_quote 1 = .ok (.iconst 0, 1) := by decide +kernel
theorem dX4_quote_2 : decode cX4_quote 2 = .ok (.putfield 78, 3) := by decide +kernel
theorem dX4_quote_5 : decode cX4_quote 5 = .ok (.aload_n 0, 1) := by decide +kernel
theorem dX4_quote_6 : decode cX4_quote 6 = .ok (.iload_n 1, 1) := by decide +kernel
theorem dX4_quote_7 : decode cX4_quote 7 = .ok (.invokevirtual 117, 3) := by decide +kernel
theorem dX4_quote_10 : decode cX4_quote 10 = .ok (.ifCond .ne 9, 3) := by decide +kernel
theorem dX4_quote_13 : decode cX4_quote 13 = .ok (.aload_n 0, 1) := by decide +kernel
theorem dX4_quote_14 : decode cX4_quote 14 = .ok (.iconst 1, 1) := by decide +kernel
theorem dX4_quote_15 : decode cX4_quote 15 = .ok (.invokevirtual 103, 3) := by decide +kernel
theorem dX4_quote_18 : decode cX4_quote 18 = .ok (.ireturn, 1) := by decide +kernel
theorem dX4_quote_19 : decode cX4_quote 19 = .ok (.aload_n 0, 1) := by decide +kernel
theorem dX4_quote_20 : decode cX4_quote 20 = .ok (.getfield 28, 3) := by decide +kernel
theorem dX4_quote_23 : decode cX4_quote 23 = .ok (.iload_n 1, 1) := by decide +kernel
theorem dX4_quote_24 : decode cX4_quote 24 = .ok (.baload, 1) := by decide +kernel
theorem dX4_quote_25 : decode cX4_quote 25 = .ok (.ifCond .ne 12, 3) := by decide +kernel
theorem dX4_quote_28 : decode cX4_quote 28 = .ok (.aload_n 0, 1) := by decide +kernel
theorem dX4_quote_29 : decode cX4_quote 29 = .ok (.getfield 157, 3) := by decide +kernel
theorem dX4_quote_32 : decode cX4_quote 32 = .ok (.bipush 20, 2) := by decide +kernel
theorem dX4_quote_34 : decode cX4_quote 34 = .ok (.if_icmp .ne 9, 3) := by decide +kernel
theorem dX4_quote_37 : decode cX4_quote 37 = .ok (.aload_n 0, 1) := by decide +kernel
theorem dX4_quote_38 : decode cX4_quote 38 = .ok (.iconst 2, 1) := by decide +kernel
theorem dX4_quote_39 : decode cX4_quote 39 = .ok (.invokevirtual 103, 3) := by decide +kernel
theorem dX4_quote_42 : decode cX4_quote 42 = .ok (.ireturn, 1) := by decide +kernel
theorem dX4_quote_43 : decode cX4_quote 43 = .ok (.aload_n 0, 1) := by decide +kernel
theorem dX4_quote_44 : decode cX4_quote 44 = .ok (.getfield 63, 3) := by decide +kernel
theorem dX4_quote_47 : decode cX4_quote 47 = .ok (.aload_n 0, 1) := by decide +kernel
theorem dX4_quote_48 : decode cX4_quote 48 = .ok (.getfield 157, 3) := by decide +kernel
theorem dX4_quote_51 : decode cX4_quote 51 = .ok (.iload_n 1, 1) := by decide +kernel
theorem dX4_quote_52 : decode cX4_quote 52 = .ok (.iastore, 1) := by decide +kernel
theorem dX4_quote_53 : decode cX4_quote 53 = .ok (.aload_n 0, 1) := by decide +kernel
theorem dX4_quote_54 : decode cX4_quote 54 = .ok (.dup, 1) := by decide +kernel
theorem dX4_quote_55 : decode cX4_quote 55 = .ok (.getfield 157, 3) := by decide +kernel
theorem dX4_quote_58 : decode cX4_quote 58 = .ok (.iconst 1, 1) := by decide +kernel
theorem dX4_quote_59 : decode cX4_quote 59 = .ok (.iadd, 1) := by decide +kernel
theorem dX4_quote_60 : decode cX4_quote 60 = .ok (.putfield 157, 3) := by decide +kernel
theorem dX4_quote_63 : decode cX4_quote 63 = .ok (.aload_n 0, 1) := by decide +kernel
theorem dX4_quote_64 : decode cX4_quote 64 = .ok (.getfield 157, 3) := by decide +kernel
theorem dX4_quote_67 : decode cX4_quote 67 = .ok (.iconst 1, 1) := by decide +kernel
theorem dX4_quote_68 : decode cX4_quote 68 = .ok (.isub, 1) := by decide +kernel
theorem dX4_quote_69 : decode cX4_quote 69 = .ok (.ireturn, 1) := by decide +kernel
theorem dX4_quoted_0 : decode cX4_quoted 0 = .ok (.aload_n 0, 1) := by decide +kernel
theorem dX4_quoted_1 : decode cX4_quoted 1 = .ok (.iconst 0, 1) := by decide +kernel
theorem dX4_quoted_2 : decode cX4_quoted 2 = .ok (.putfield 78, 3) := by decide +kernel
theorem dX4_quoted_5 : decode cX4_quoted 5 = .ok (.iload_n 1, 1) := by decide +kernel
theorem dX4_quoted_6 : decode cX4_quoted 6 = .ok (.iconst 0, 1) := by decide +kernel
theorem dX4_quoted_7 : decode cX4_quoted 7 = .ok (.aload_n 0, 1) := by decide +kernel
theorem dX4_quoted_8 : decode cX4_quoted 8 = .ok (.getfield 157, 3) := by decide +kernel
theorem dX4_quoted_11 : decode cX4_quoted 11 = .ok (.iconst 1, 1) := by decide +kernel
theorem dX4_quoted_12 : decode cX4_quoted 12 = .ok (.isub, 1) := by decide +kernel
theorem dX4_quoted_13 : decode cX4_quoted 13 = .ok (.invokestatic 82, 3) := by decide +kernel
theorem dX4_quoted_16 : decode cX4_quoted 16 = .ok (.ifCond .ne 9, 3) := by decide +kernel
theorem dX4_quoted_19 : decode cX4_quoted 19 = .ok (.aload_n 0, 1) := by decide +kernel
theorem dX4_quoted_20 : decode cX4_quoted 20 = .ok (.iconst 1, 1) := by decide +kernel
theorem dX4_quoted_21 : decode cX4_quoted 21 = .ok (.invokevirtual 103, 3) := by decide +kernel
theorem dX4_quoted_24 : decode cX4_quoted 24 = .ok (.ireturn, 1) := by decide +kernel
theorem dX4_quoted_25 : decode cX4_quoted 25 = .ok (.aload_n 0, 1) := by decide +kernel
theorem dX4_quoted_26 : decode cX4_quoted 26 = .ok (.getfield 28, 3) := by decide +kernel
theorem dX4_quoted_29 : decode cX4_quoted 29 = .ok (.aload_n 0, 1) := by decide +kernel
theorem dX4_quoted_30 : decode cX4_quoted 30 = .ok (.getfield 63, 3) := by decide +kernel
theorem dX4_quoted_33 : decode cX4_quoted 33 = .ok (.iload_n 1, 1) := by decide +kernel
theorem dX4_quoted_34 : decode cX4_quoted 34 = .ok (.iaload, 1) := by decide +kernel
theorem dX4_quoted_35 : decode cX4_quoted 35 = .ok (.baload, 1) := by decide +kernel
theorem dX4_quoted_36 : decode cX4_quoted 36 = .ok (.ifCond .eq 7, 3) := by decide +kernel
theorem dX4_quoted_39 : decode cX4_quoted 39 = .ok (.iconst (-1), 1) := by decide +kernel
theorem dX4_quoted_40 : decode cX4_quoted 40 = .ok (.goto 14, 3) := by decide +kernel
theorem dX4_quoted_43 : decode cX4_quoted 43 = .ok (.aload_n 0, 1) := by decide +kernel
theorem dX4_quoted_44 : decode cX4_quoted 44 = .ok (.getfield 25, 3) := by decide +kernel
theorem dX4_quoted_47 : decode cX4_quoted 47 = .ok (.aload_n 0, 1) := by decide +kernel
theorem dX4_quoted_48 : decode cX4_quoted 48 = .ok (.getfield 63, 3) := by decide +kernel
theorem dX4_quoted_51 : decode cX4_quoted 51 = .ok (.iload_n 1, 1) := by decide +kernel
theorem dX4_quoted_52 : decode cX4_quoted 52 = .ok (.iaload, 1) := by decide +kernel
theorem dX4_quoted_53 : decode cX4_quoted 53 = .ok (.iaload, 1) := by decide +kernel
theorem dX4_quoted_54 : decode cX4_quoted 54 = .ok (.ireturn, 1) := by decide +kernel
theorem dJ13_bitCount_95d88_0 : decode cJ13_bitCount_95d88 0 = .ok (.lload_n 0, 1) := by decide +kernel
theorem dJ13_bitCount_95d88_1 : decode cJ13_bitCount_95d88 1 = .ok (.lload_n 0, 1) := by decide +kernel
theorem dJ13_bitCount_95d88_2 : decode cJ13_bitCount_95d88 2 = .ok (.iconst 1, 1) := by decide +kernel
theorem dJ13_bitCount_95d88_3 : decode cJ13_bitCount_95d88 3 = .ok (.lushr, 1) := by decide +kernel
theorem dJ13_bitCount_95d88_4 : decode cJ13_bitCount_95d88 4 = .ok (.ldc2_w 314, 3) := by decide +kernel
theorem dJ13_bitCount_95d88_7 : decode cJ13_bitCount_95d88 7 = .ok (.land, 1) := by decide +kernel
theorem dJ13_bitCount_95d88_8 : decode cJ13_bitCount_95d88 8 = .ok (.lsub, 1) := by decide +kernel
theorem dJ13_bitCount_95d88_9 : decode cJ13_bitCount_95d88 9 = .ok (.lstore_n 0, 1) := by decide +kernel
theorem dJ13_bitCount_95d88_10 : decode cJ13_bitCount_95d88 10 = .ok (.lload_n 0, 1) := by decide +kernel
theorem dJ13_bitCount_95d88_11 : decode cJ13_bitCount_95d88 11 = .ok (.ldc2_w 316, 3) := by decide +kernel
theorem dJ13_bitCount_95d88_14 : decode cJ13_bitCount_95d88 14 = .ok (.land, 1) := by decide +kernel
theorem dJ13_bitCount_95d88_15 : decode cJ13_bitCount_95d88 15 = .ok (.lload_n 0, 1) := by decide +kernel
theorem dJ13_bitCount_95d88_16 : decode cJ13_bitCount_95d88 16 = .ok (.iconst 2, 1) := by decide +kernel
theorem dJ13_bitCount_95d88_17 : decode cJ13_bitCount_95d88 17 = .ok (.lushr, 1) := by decide +kernel
theorem dJ13_bitCount_95d88_18 : decode cJ13_bitCount_95d88 18 = .ok (.ldc2_w 316, 3) := by decide +kernel
theorem dJ13_bitCount_95d88_21 : decode cJ13_bitCount_95d88 21 = .ok (.land, 1) := by decide +kernel
theorem dJ13_bitCount_95d88_22 : decode cJ13_bitCount_95d88 22 = .ok (.ladd, 1) := by decide +kernel
theorem dJ13_bitCount_95d88_23 : decode cJ13_bitCount_95d88 23 = .ok (.lstore_n 0, 1) := by decide +kernel
theorem dJ13_bitCount_95d88_24 : decode cJ13_bitCount_95d88 24 = .ok (.lload_n 0, 1) := by decide +kernel
theorem dJ13_bitCount_95d88_25 : decode cJ13_bitCount_95d88 25 = .ok (.lload_n 0, 1) := by decide +kernel
theorem dJ13_bitCount_95d88_26 : decode cJ13_bitCount_95d88 26 = .ok (.iconst 4, 1) := by decide +kernel
theorem dJ13_bitCount_95d88_27 : decode cJ13_bitCount_95d88 27 = .ok (.lushr, 1) := by decide +kernel
theorem dJ13_bitCount_95d88_28 : decode cJ13_bitCount_95d88 28 = .ok (.ladd, 1) := by decide +kernel
theorem dJ13_bitCount_95d88_29 : decode cJ13_bitCount_95d88 29 = .ok (.ldc2_w 318, 3) := by decide +kernel
theorem dJ13_bitCount_95d88_32 : decode cJ13_bitCount_95d88 32 = .ok (.land, 1) := by decide +kernel
theorem dJ13_bitCount_95d88_33 : decode cJ13_bitCount_95d88 33 = .ok (.lstore_n 0, 1) := by decide +kernel
theorem dJ13_bitCount_95d88_34 : decode cJ13_bitCount_95d88 34 = .ok (.lload_n 0, 1) := by decide +kernel
theorem dJ13_bitCount_95d88_35 : decode cJ13_bitCount_95d88 35 = .ok (.lload_n 0, 1) := by decide +kernel
theorem dJ13_bitCount_95d88_36 : decode cJ13_bitCount_95d88 36 = .ok (.bipush 8, 2) := by decide +kernel
theorem dJ13_bitCount_95d88_38 : decode cJ13_bitCount_95d88 38 = .ok (.lushr, 1) := by decide +kernel
theorem dJ13_bitCount_95d88_39 : decode cJ13_bitCount_95d88 39 = .ok (.ladd, 1) := by decide +kernel
theorem dJ13_bitCount_95d88_40 : decode cJ13_bitCount_95d88 40 = .ok (.lstore_n 0, 1) := by decide +kernel
theorem dJ13_bitCount_95d88_41 : decode cJ13_bitCount_95d88 41 = .ok (.lload_n 0, 1) := by decide +kernel
theorem dJ13_bitCount_95d88_42 : decode cJ13_bitCount_95d88 42 = .ok (.lload_n 0, 1) := by decide +kernel
theorem dJ13_bitCount_95d88_43 : decode cJ13_bitCount_95d88 43 = .ok (.bipush 16, 2) := by decide +kernel
theorem dJ13_bitCount_95d88_45 : decode cJ13_bitCount_95d88 45 = .ok (.lushr, 1) := by decide +kernel
theorem dJ13_bitCount_95d88_46 : decode cJ13_bitCount_95d88 46 = .ok (.ladd, 1) := by decide +kernel
theorem dJ13_bitCount_95d88_47 : decode cJ13_bitCount_95d88 47 = .ok (.lstore_n 0, 1) := by decide +kernel
theorem dJ13_bitCount_95d88_48 : decode cJ13_bitCount_95d88 48 = .ok (.lload_n 0, 1) := by decide +kernel
theorem dJ13_bitCount_95d88_49 : decode cJ13_bitCount_95d88 49 = .ok (.lload_n 0, 1) := by decide +kernel
theorem dJ13_bitCount_95d88_50 : decode cJ13_bitCount_95d88 50 = .ok (.bipush 32, 2) := by decide +kernel
theorem dJ13_bitCount_95d88_52 : decode cJ13_bitCount_95d88 52 = .ok (.lushr, 1) := by decide +kernel
theorem dJ13_bitCount_95d88_53 : decode cJ13_bitCount_95d88 53 = .ok (.ladd, 1) := by decide +kernel
theorem dJ13_bitCount_95d88_54 : decode cJ13_bitCount_95d88 54 = .ok (.lstore_n 0, 1) := by decide +kernel
theorem dJ13_bitCount_95d88_55 : decode cJ13_bitCount_95d88 55 = .ok (.lload_n 0, 1) := by decide +kernel
theorem dJ13_bitCount_95d88_56 : decode cJ13_bitCount_95d88 56 = .ok (.l2i, 1) := by decide +kernel
theorem dJ13_bitCount_95d88_57 : decode cJ13_bitCount_95d88 57 = .ok (.bipush 127, 2) := by decide +kernel
theorem dJ13_bitCount_95d88_59 : decode cJ13_bitCount_95d88 59 = .ok (.iand, 1) := by decide +kernel
theorem dJ13_bitCount_95d88_60 : decode cJ13_bitCount_95d88 60 = .ok (.ireturn, 1) := by decide +kernel
theorem dJ9_max_7cf53_0 : decode cJ9_max_7cf53 0 = .ok (.iload_n 0, 1) := by decide +kernel
theorem dJ9_max_7cf53_1 : decode cJ9_max_7cf53 1 = .ok (.iload_n 1, 1) := by decide +kernel
theorem dJ9_max_7cf53_2 : decode cJ9_max_7cf53 2 = .ok (.if_icmp .lt 7, 3) := by decide +kernel
theorem dJ9_max_7cf53_5 : decode cJ9_max_7cf53 5 = .ok (.iload_n 0, 1) := by decide +kernel
theorem dJ9_max_7cf53_6 : decode cJ9_max_7cf53 6 = .ok (.goto 4, 3) := by decide +kernel
theorem dJ9_max_7cf53_9 : decode cJ9_max_7cf53 9 = .ok (.iload_n 1, 1) := by decide +kernel
theorem dJ9_max_7cf53_10 : decode cJ9_max_7cf53 10 = .ok (.ireturn, 1) := by decide +kernel
theorem dJ9_min_7cf53_0 : decode cJ9_min_7cf53 0 = .ok (.iload_n 0, 1) := by decide +kernel
theorem dJ9_min_7cf53_1 : decode cJ9_min_7cf53 1 = .ok (.iload_n 1, 1) := by decide +kernel
theorem dJ9_min_7cf53_2 : decode cJ9_min_7cf53 2 = .ok (.if_icmp .gt 7, 3) := by decide +kernel
theorem dJ9_min_7cf53_5 : decode cJ9_min_7cf53 5 = .ok (.iload_n 0, 1) := by decide +kernel
theorem dJ9_min_7cf53_6 : decode cJ9_min_7cf53 6 = .ok (.goto 4, 3) := by decide +kernel
theorem dJ9_min_7cf53_9 : decode cJ9_min_7cf53 9 = .ok (.iload_n 1, 1) := by decide +kernel
theorem dJ9_min_7cf53_10 : decode cJ9_min_7cf53 10 = .ok (.ireturn, 1) := by decide +kernel
theorem dJxa1e45_init_da8c8_0 : decode cJxa1e45_init_da8c8 0 = .ok (.aload_n 0, 1) := by decide +kernel
theorem dJxa1e45_init_da8c8_1 : decode cJxa1e45_init_da8c8 1 = .ok (.invokespecial 1, 3) := by decide +kernel
theorem dJxa1e45_init_da8c8_4 : decode cJxa1e45_init_da8c8 4 = .ok (.return_, 1) := by decide +kernel
theorem dJxc12de_init_da8c8_0 : decode cJxc12de_init_da8c8 0 = .ok (.aload_n 0, 1) := by decide +kernel
theorem dJxc12de_init_da8c8_1 : decode cJxc12de_init_da8c8 1 = .ok (.invokespecial 1, 3) := by decide +kernel
theorem dJxc12de_init_da8c8_4 : decode cJxc12de_init_da8c8 4 = .ok (.aload_n 0, 1) := by decide +kernel
theorem dJxc12de_init_da8c8_5 : decode cJxc12de_init_da8c8 5 = .ok (.iconst 0, 1) := by decide +kernel
theorem dJxc12de_init_da8c8_6 : decode cJxc12de_init_da8c8 6 = .ok (.putfield 7, 3) := by decide +kernel
theorem dJxc12de_init_da8c8_9 : decode cJxc12de_init_da8c8 9 = .ok (.return_, 1) := by decide +kernel
theorem dJx4a65c_init_da8c8_0 : decode cJx4a65c_init_da8c8 0 = .ok (.aload_n 0, 1) := by decide +kernel
theorem dJx4a65c_init_da8c8_1 : decode cJx4a65c_init_da8c8 1 = .ok (.invokespecial 1, 3) := by decide +kernel
theorem dJx4a65c_init_da8c8_4 : decode cJx4a65c_init_da8c8 4 = .ok (.aload_n 0, 1) := by decide +kernel
theorem dJx4a65c_init_da8c8_5 : decode cJx4a65c_init_da8c8 5 = .ok (.getstatic 39, 3) := by decide +kernel
theorem dJx4a65c_init_da8c8_8 : decode cJx4a65c_init_da8c8 8 = .ok (.putfield 9, 3) := by decide +kernel
theorem dJx4a65c_init_da8c8_11 : decode cJx4a65c_init_da8c8 11 = .ok (.return_, 1) := by decide +kernel
theorem dJx4a65c_grow_92f84_0 : decode cJx4a65c_grow_92f84 0 = .ok (.aload_n 0, 1) := by decide +kernel
theorem dJx4a65c_grow_92f84_1 : decode cJx4a65c_grow_92f84 1 = .ok (.getfield 9, 3) := by decide +kernel
theorem dJx4a65c_grow_92f84_4 : decode cJx4a65c_grow_92f84 4 = .ok (.arraylength, 1) := by decide +kernel
theorem dJx4a65c_grow_92f84_5 : decode cJx4a65c_grow_92f84 5 = .ok (.istore_n 2, 1) := by decide +kernel
theorem dJx4a65c_grow_92f84_6 : decode cJx4a65c_grow_92f84 6 = .ok (.iload_n 2, 1) := by decide +kernel
theorem dJx4a65c_grow_92f84_7 : decode cJx4a65c_grow_92f84 7 = .ok (.ifCond .gt 13, 3) := by decide +kernel
theorem dJx4a65c_grow_92f84_10 : decode cJx4a65c_grow_92f84 10 = .ok (.aload_n 0, 1) := by decide +kernel
theorem dJx4a65c_grow_92f84_11 : decode cJx4a65c_grow_92f84 11 = .ok (.getfield 9, 3) := by decide +kernel
theorem dJx4a65c_grow_92f84_14 : decode cJx4a65c_grow_92f84 14 = .ok (.getstatic 39, 3) := by decide +kernel
theorem dJx4a65c_grow_92f84_17 : decode cJx4a65c_grow_92f84 17 = .ok (.if_acmp .eq 28, 3) := by decide +kernel
theorem dJx4a65c_grow_92f84_20 : decode cJx4a65c_grow_92f84 20 = .ok (.iload_n 2, 1) := by decide +kernel
theorem dJx4a65c_grow_92f84_21 : decode cJx4a65c_grow_92f84 21 = .ok (.iload_n 1, 1) := by decide +kernel
theorem dJx4a65c_grow_92f84_22 : decode cJx4a65c_grow_92f84 22 = .ok (.iload_n 2, 1) := by decide +kernel
theorem dJx4a65c_grow_92f84_23 : decode cJx4a65c_grow_92f84 23 = .ok (.isub, 1) := by decide +kernel
theorem dJx4a65c_grow_92f84_24 : decode cJx4a65c_grow_92f84 24 = .ok (.iload_n 2, 1) := by decide +kernel
theorem dJx4a65c_grow_92f84_25 : decode cJx4a65c_grow_92f84 25 = .ok (.iconst 1, 1) := by decide +kernel
theorem dJx4a65c_grow_92f84_26 : decode cJx4a65c_grow_92f84 26 = .ok (.ishr, 1) := by decide +kernel
theorem dJx4a65c_grow_92f84_27 : decode cJx4a65c_grow_92f84 27 = .ok (.invokestatic 73, 3) := by decide +kernel
theorem dJx4a65c_grow_92f84_30 : decode cJx4a65c_grow_92f84 30 = .ok (.istore_n 3, 1) := by decide +kernel
theorem dJx4a65c_grow_92f84_31 : decode cJx4a65c_grow_92f84 31 = .ok (.aload_n 0, 1) := by decide +kernel
theorem dJx4a65c_grow_92f84_32 : decode cJx4a65c_grow_92f84 32 = .ok (.aload_n 0, 1) := by decide +kernel
theorem dJx4a65c_grow_92f84_33 : decode cJx4a65c_grow_92f84 33 = .ok (.getfield 9, 3) := by decide +kernel
theorem dJx4a65c_grow_92f84_36 : decode cJx4a65c_grow_92f84 36 = .ok (.iload_n 3, 1) := by decide +kernel
theorem dJx4a65c_grow_92f84_37 : decode cJx4a65c_grow_92f84 37 = .ok (.invokestatic 66, 3) := by decide +kernel
theorem dJx4a65c_grow_92f84_40 : decode cJx4a65c_grow_92f84 40 = .ok (.dup_x1, 1) := by decide +kernel
theorem dJx4a65c_grow_92f84_41 : decode cJx4a65c_grow_92f84 41 = .ok (.putfield 9, 3) := by decide +kernel
theorem dJx4a65c_grow_92f84_44 : decode cJx4a65c_grow_92f84 44 = .ok (.areturn, 1) := by decide +kernel
theorem dJx4a65c_grow_92f84_45 : decode cJx4a65c_grow_92f84 45 = .ok (.aload_n 0, 1) := by decide +kernel
theorem dJx4a65c_grow_92f84_46 : decode cJx4a65c_grow_92f84 46 = .ok (.bipush 10, 2) := by decide +kernel
theorem dJx4a65c_grow_92f84_48 : decode cJx4a65c_grow_92f84 48 = .ok (.iload_n 1, 1) := by decide +kernel
theorem dJx4a65c_grow_92f84_49 : decode cJx4a65c_grow_92f84 49 = .ok (.invokestatic 79, 3) := by decide +kernel
theorem dJx4a65c_grow_92f84_52 : decode cJx4a65c_grow_92f84 52 = .ok (.anewarray 7, 3) := by decide +kernel
theorem dJx4a65c_grow_92f84_55 : decode cJx4a65c_grow_92f84 55 = .ok (.dup_x1, 1) := by decide +kernel
theorem dJx4a65c_grow_92f84_56 : decode cJx4a65c_grow_92f84 56 = .ok (.putfield 9, 3) := by decide +kernel
theorem dJx4a65c_grow_92f84_59 : decode cJx4a65c_grow_92f84 59 = .ok (.areturn, 1) := by decide +kernel
theorem dJx4a65c_grow_d5877_0 : decode cJx4a65c_grow_d5877 0 = .ok (.aload_n 0, 1) := by decide +kernel
theorem dJx4a65c_grow_d5877_1 : decode cJx4a65c_grow_d5877 1 = .ok (.aload_n 0, 1) := by decide +kernel
theorem dJx4a65c_grow_d5877_2 : decode cJx4a65c_grow_d5877 2 = .ok (.getfield 48, 3) := by decide +kernel
theorem dJx4a65c_grow_d5877_5 : decode cJx4a65c_grow_d5877 5 = .ok (.iconst 1, 1) := by decide +kernel
theorem dJx4a65c_grow_d5877_6 : decode cJx4a65c_grow_d5877 6 = .ok (.iadd, 1) := by decide +kernel
theorem dJx4a65c_grow_d5877_7 : decode cJx4a65c_grow_d5877 7 = .ok (.invokevirtual 69, 3) := by decide +kernel
theorem dJx4a65c_grow_d5877_10 : decode cJx4a65c_grow_d5877 10 = .ok (.areturn, 1) := by decide +kernel
theorem dJx4a65c_size_8abf5_0 : decode cJx4a65c_size_8abf5 0 = .ok (.aload_n 0, 1) := by decide +kernel
theorem dJx4a65c_size_8abf5_1 : decode cJx4a65c_size_8abf5 1 = .ok (.getfield 48, 3) := by decide +kernel
theorem dJx4a65c_size_8abf5_4 : decode cJx4a65c_size_8abf5 4 = .ok (.ireturn, 1) := by decide +kernel
theorem dJx4a65c_elementData_915e3_0 : decode cJx4a65c_elementData_915e3 0 = .ok (.aload_n 0, 1) := by decide +kernel
theorem dJx4a65c_elementData_915e3_1 : decode cJx4a65c_elementData_915e3 1 = .ok (.getfield 9, 3) := by decide +kernel
theorem dJx4a65c_elementData_915e3_4 : decode cJx4a65c_elementData_915e3 4 = .ok (.iload_n 1, 1) := by decide +kernel
theorem dJx4a65c_elementData_915e3_5 : decode cJx4a65c_elementData_915e3 5 = .ok (.aaload, 1) := by decide +kernel
theorem dJx4a65c_elementData_915e3_6 : decode cJx4a65c_elementData_915e3 6 = .ok (.areturn, 1) := by decide +kernel
theorem dJx4a65c_get_915e3_0 : decode cJx4a65c_get_915e3 0 = .ok (.iload_n 1, 1) := by decide +kernel
theorem dJx4a65c_get_915e3_1 : decode cJx4a65c_get_915e3 1 = .ok (.aload_n 0, 1) := by decide +kernel
theorem dJx4a65c_get_915e3_2 : decode cJx4a65c_get_915e3 2 = .ok (.getfield 48, 3) := by decide +kernel
theorem dJx4a65c_get_915e3_5 : decode cJx4a65c_get_915e3 5 = .ok (.invokestatic 118, 3) := by decide +kernel
theorem dJx4a65c_get_915e3_8 : decode cJx4a65c_get_915e3 8 = .ok (.pop, 1) := by decide +kernel
theorem dJx4a65c_get_915e3_9 : decode cJx4a65c_get_915e3 9 = .ok (.aload_n 0, 1) := by decide +kernel
theorem dJx4a65c_get_915e3_10 : decode cJx4a65c_get_915e3 10 = .ok (.iload_n 1, 1) := by decide +kernel
theorem dJx4a65c_get_915e3_11 : decode cJx4a65c_get_915e3 11 = .ok (.invokevirtual 123, 3) := by decide +kernel
theorem dJx4a65c_get_915e3_14 : decode cJx4a65c_get_915e3 14 = .ok (.areturn, 1) := by decide +kernel
theorem dJx4a65c_add_72be8_0 : decode cJx4a65c_add_72be8 0 = .ok (.iload_n 3, 1) := by decide +kernel
theorem dJx4a65c_add_72be8_1 : decode cJx4a65c_add_72be8 1 = .ok (.aload_n 2, 1) := by decide +kernel
theorem dJx4a65c_add_72be8_2 : decode cJx4a65c_add_72be8 2 = .ok (.arraylength, 1) := by decide +kernel
theorem dJx4a65c_add_72be8_3 : decode cJx4a65c_add_72be8 3 = .ok (.if_icmp .ne 8, 3) := by decide +kernel
theorem dJx4a65c_add_72be8_6 : decode cJx4a65c_add_72be8 6 = .ok (.aload_n 0, 1) := by decide +kernel
theorem dJx4a65c_add_72be8_7 : decode cJx4a65c_add_72be8 7 = .ok (.invokevirtual 129, 3) := by decide +kernel
theorem dJx4a65c_add_72be8_10 : decode cJx4a65c_add_72be8 10 = .ok (.astore_n 2, 1) := by decide +kernel
theorem dJx4a65c_add_72be8_11 : decode cJx4a65c_add_72be8 11 = .ok (.aload_n 2, 1) := by decide +kernel
theorem dJx4a65c_add_72be8_12 : decode cJx4a65c_add_72be8 12 = .ok (.iload_n 3, 1) := by decide +kernel
theorem dJx4a65c_add_72be8_13 : decode cJx4a65c_add_72be8 13 = .ok (.aload_n 1, 1) := by decide +kernel
theorem dJx4a65c_add_72be8_14 : decode cJx4a65c_add_72be8 14 = .ok (.aastore, 1) := by decide +kernel
theorem dJx4a65c_add_72be8_15 : decode cJx4a65c_add_72be8 15 = .ok (.aload_n 0, 1) := by decide +kernel
theorem dJx4a65c_add_72be8_16 : decode cJx4a65c_add_72be8 16 = .ok (.iload_n 3, 1) := by decide +kernel
theorem dJx4a65c_add_72be8_17 : decode cJx4a65c_add_72be8 17 = .ok (.iconst 1, 1) := by decide +kernel
theorem dJx4a65c_add_72be8_18 : decode cJx4a65c_add_72be8 18 = .ok (.iadd, 1) := by decide +kernel
theorem dJx4a65c_add_72be8_19 : decode cJx4a65c_add_72be8 19 = .ok (.putfield 48, 3) := by decide +kernel
theorem dJx4a65c_add_72be8_22 : decode cJx4a65c_add_72be8 22 = .ok (.return_, 1) := by decide +kernel
theorem dJx4a65c_add_9ea2d_0 : decode cJx4a65c_add_9ea2d 0 = .ok (.aload_n 0, 1) := by decide +kernel
theorem dJx4a65c_add_9ea2d_1 : decode cJx4a65c_add_9ea2d 1 = .ok (.dup, 1) := by decide +kernel
theorem dJx4a65c_add_9ea2d_2 : decode cJx4a65c_add_9ea2d 2 = .ok (.getfield 63, 3) := by decide +kernel
theorem dJx4a65c_add_9ea2d_5 : decode cJx4a65c_add_9ea2d 5 = .ok (.iconst 1, 1) := by decide +kernel
theorem dJx4a65c_add_9ea2d_6 : decode cJx4a65c_add_9ea2d 6 = .ok (.iadd, 1) := by decide +kernel
theorem dJx4a65c_add_9ea2d_7 : decode cJx4a65c_add_9ea2d 7 = .ok (.putfield 63, 3) := by decide +kernel
theorem dJx4a65c_add_9ea2d_10 : decode cJx4a65c_add_9ea2d 10 = .ok (.aload_n 0, 1) := by decide +kernel
theorem dJx4a65c_add_9ea2d_11 : decode cJx4a65c_add_9ea2d 11 = .ok (.aload_n 1, 1) := by decide +kernel
theorem dJx4a65c_add_9ea2d_12 : decode cJx4a65c_add_9ea2d 12 = .ok (.aload_n 0, 1) := by decide +kernel
theorem dJx4a65c_add_9ea2d_13 : decode cJx4a65c_add_9ea2d 13 = .ok (.getfield 9, 3) := by decide +kernel
theorem dJx4a65c_add_9ea2d_16 : decode cJx4a65c_add_9ea2d 16 = .ok (.aload_n 0, 1) := by decide +kernel
theorem dJx4a65c_add_9ea2d_17 : decode cJx4a65c_add_9ea2d 17 = .ok (.getfield 48, 3) := by decide +kernel
theorem dJx4a65c_add_9ea2d_20 : decode cJx4a65c_add_9ea2d 20 = .ok (.invokevirtual 131, 3) := by decide +kernel
theorem dJx4a65c_add_9ea2d_23 : decode cJx4a65c_add_9ea2d 23 = .ok (.iconst 1, 1) := by decide +kernel
theorem dJx4a65c_add_9ea2d_24 : decode cJx4a65c_add_9ea2d 24 = .ok (.ireturn, 1) := by decide +kernel
theorem dJ7_fill_53178_0 : decode cJ7_fill_53178 0 = .ok (.iconst 0, 1) := by decide +kernel
theorem dJ7_fill_53178_1 : decode cJ7_fill_53178 1 = .ok (.istore_n 2, 1) := by decide +kernel
theorem dJ7_fill_53178_2 : decode cJ7_fill_53178 2 = .ok (.aload_n 0, 1) := by decide +kernel
theorem dJ7_fill_53178_3 : decode cJ7_fill_53178 3 = .ok (.arraylength, 1) := by decide +kernel
theorem dJ7_fill_53178_4 : decode cJ7_fill_53178 4 = .ok (.istore_n 3, 1) := by decide +kernel
theorem dJ7_fill_53178_5 : decode cJ7_fill_53178 5 = .ok (.iload_n 2, 1) := by decide +kernel
theorem dJ7_fill_53178_6 : decode cJ7_fill_53178 6 = .ok (.iload_n 3, 1) := by decide +kernel
theorem dJ7_fill_53178_7 : decode cJ7_fill_53178 7 = .ok (.if_icmp .ge 13, 3) := by decide +kernel
theorem dJ7_fill_53178_10 : decode cJ7_fill_53178 10 = .ok (.aload_n 0, 1) := by decide +kernel
theorem dJ7_fill_53178_11 : decode cJ7_fill_53178 11 = .ok (.iload_n 2, 1) := by decide +kernel
theorem dJ7_fill_53178_12 : decode cJ7_fill_53178 12 = .ok (.iload_n 1, 1) := by decide +kernel
theorem dJ7_fill_53178_13 : decode cJ7_fill_53178 13 = .ok (.iastore, 1) := by decide +kernel
theorem dJ7_fill_53178_14 : decode cJ7_fill_53178 14 = .ok (.iinc 2 1, 3) := by decide +kernel
theorem dJ7_fill_53178_17 : decode cJ7_fill_53178 17 = .ok (.goto (-12), 3) := by decide +kernel
theorem dJ7_fill_53178_20 : decode cJ7_fill_53178 20 = .ok (.return_, 1) := by decide +kernel
theorem dJ7_copyOf_1904c_0 : decode cJ7_copyOf_1904c 0 = .ok (.aload_n 0, 1) := by decide +kernel
theorem dJ7_copyOf_1904c_1 : decode cJ7_copyOf_1904c 1 = .ok (.iload_n 1, 1) := by decide +kernel
theorem dJ7_copyOf_1904c_2 : decode cJ7_copyOf_1904c 2 = .ok (.aload_n 0, 1) := by decide +kernel
theorem dJ7_copyOf_1904c_3 : decode cJ7_copyOf_1904c 3 = .ok (.invokevirtual 86, 3) := by decide +kernel
theorem dJ7_copyOf_1904c_6 : decode cJ7_copyOf_1904c 6 = .ok (.invokestatic 300, 3) := by decide +kernel
theorem dJ7_copyOf_1904c_9 : decode cJ7_copyOf_1904c 9 = .ok (.areturn, 1) := by decide +kernel
theorem dJ7_copyOf_6403c_0 : decode cJ7_copyOf_6403c 0 = .ok (.aload_n 2, 1) := by decide +kernel
theorem dJ7_copyOf_6403c_1 : decode cJ7_copyOf_6403c 1 = .ok (.ldc 110, 2) := by decide +kernel
theorem dJ7_copyOf_6403c_3 : decode cJ7_copyOf_6403c 3 = .ok (.if_acmp .ne 10, 3) := by decide +kernel
theorem dJ7_copyOf_6403c_6 : decode cJ7_copyOf_6403c 6 = .ok (.iload_n 1, 1) := by decide +kernel
theorem dJ7_copyOf_6403c_7 : decode cJ7_copyOf_6403c 7 = .ok (.anewarray 2, 3) := by decide +kernel
theorem dJ7_copyOf_6403c_10 : decode cJ7_copyOf_6403c 10 = .ok (.goto 14, 3) := by decide +kernel
theorem dJ7_copyOf_6403c_13 : decode cJ7_copyOf_6403c 13 = .ok (.aload_n 2, 1) := by decide +kernel
theorem dJ7_copyOf_6403c_14 : decode cJ7_copyOf_6403c 14 = .ok (.invokevirtual 90, 3) := by decide +kernel
theorem dJ7_copyOf_6403c_17 : decode cJ7_copyOf_6403c 17 = .ok (.iload_n 1, 1) := by decide +kernel
theorem dJ7_copyOf_6403c_18 : decode cJ7_copyOf_6403c 18 = .ok (.invokestatic 95, 3) := by decide +kernel
theorem dJ7_copyOf_6403c_21 : decode cJ7_copyOf_6403c 21 = .ok (.checkcast 110, 3) := by decide +kernel
theorem dJ7_copyOf_6403c_24 : decode cJ7_copyOf_6403c 24 = .ok (.astore_n 3, 1) := by decide +kernel
theorem dJ7_copyOf_6403c_25 : decode cJ7_copyOf_6403c 25 = .ok (.aload_n 0, 1) := by decide +kernel
theorem dJ7_copyOf_6403c_26 : decode cJ7_copyOf_6403c 26 = .ok (.iconst 0, 1) := by decide +kernel
theorem dJ7_copyOf_6403c_27 : decode cJ7_copyOf_6403c 27 = .ok (.aload_n 3, 1) := by decide +kernel
theorem dJ7_copyOf_6403c_28 : decode cJ7_copyOf_6403c 28 = .ok (.iconst 0, 1) := by decide +kernel
theorem dJ7_copyOf_6403c_29 : decode cJ7_copyOf_6403c 29 = .ok (.aload_n 0, 1) := by decide +kernel
theorem dJ7_copyOf_6403c_30 : decode cJ7_copyOf_6403c 30 = .ok (.arraylength, 1) := by decide +kernel
theorem dJ7_copyOf_6403c_31 : decode cJ7_copyOf_6403c 31 = .ok (.iload_n 1, 1) := by decide +kernel
theorem dJ7_copyOf_6403c_32 : decode cJ7_copyOf_6403c 32 = .ok (.invokestatic 304, 3) := by decide +kernel
theorem dJ7_copyOf_6403c_35 : decode cJ7_copyOf_6403c 35 = .ok (.invokestatic 150, 3) := by decide +kernel
theorem dJ7_copyOf_6403c_38 : decode cJ7_copyOf_6403c 38 = .ok (.aload_n 3, 1) := by decide +kernel
theorem dJ7_copyOf_6403c_39 : decode cJ7_copyOf_6403c 39 = .ok (.areturn, 1) := by decide +kernel
theorem dJ15_checkIndex_7cf53_0 : decode cJ15_checkIndex_7cf53 0 = .ok (.iload_n 0, 1) := by decide +kernel
theorem dJ15_checkIndex_7cf53_1 : decode cJ15_checkIndex_7cf53 1 = .ok (.iload_n 1, 1) := by decide +kernel
theorem dJ15_checkIndex_7cf53_2 : decode cJ15_checkIndex_7cf53 2 = .ok (.aconst_null, 1) := by decide +kernel
theorem dJ15_checkIndex_7cf53_3 : decode cJ15_checkIndex_7cf53 3 = .ok (.invokestatic 105, 3) := by decide +kernel
theorem dJ15_checkIndex_7cf53_6 : decode cJ15_checkIndex_7cf53 6 = .ok (.ireturn, 1) := by decide +kernel
theorem dJ8_newLength_cabcc_0 : decode cJ8_newLength_cabcc 0 = .ok (.iload_n 0, 1) := by decide +kernel
theorem dJ8_newLength_cabcc_1 : decode cJ8_newLength_cabcc 1 = .ok (.iload_n 1, 1) := by decide +kernel
theorem dJ8_newLength_cabcc_2 : decode cJ8_newLength_cabcc 2 = .ok (.iload_n 2, 1) := by decide +kernel
theorem dJ8_newLength_cabcc_3 : decode cJ8_newLength_cabcc 3 = .ok (.invokestatic 194, 3) := by decide +kernel
theorem dJ8_newLength_cabcc_6 : decode cJ8_newLength_cabcc 6 = .ok (.iadd, 1) := by decide +kernel
theorem dJ8_newLength_cabcc_7 : decode cJ8_newLength_cabcc 7 = .ok (.istore_n 3, 1) := by decide +kernel
theorem dJ8_newLength_cabcc_8 : decode cJ8_newLength_cabcc 8 = .ok (.iconst 0, 1) := by decide +kernel
theorem dJ8_newLength_cabcc_9 : decode cJ8_newLength_cabcc 9 = .ok (.iload_n 3, 1) := by decide +kernel
theorem dJ8_newLength_cabcc_10 : decode cJ8_newLength_cabcc 10 = .ok (.if_icmp .ge 11, 3) := by decide +kernel
theorem dJ8_newLength_cabcc_13 : decode cJ8_newLength_cabcc 13 = .ok (.iload_n 3, 1) := by decide +kernel
theorem dJ8_newLength_cabcc_14 : decode cJ8_newLength_cabcc 14 = .ok (.ldc 200, 2) := by decide +kernel
theorem dJ8_newLength_cabcc_16 : decode cJ8_newLength_cabcc 16 = .ok (.if_icmp .gt 5, 3) := by decide +kernel
theorem dJ8_newLength_cabcc_19 : decode cJ8_newLength_cabcc 19 = .ok (.iload_n 3, 1) := by decide +kernel
theorem dJ8_newLength_cabcc_20 : decode cJ8_newLength_cabcc 20 = .ok (.ireturn, 1) := by decide +kernel
theorem dJ8_newLength_cabcc_21 : decode cJ8_newLength_cabcc 21 = .ok (.iload_n 0, 1) := by decide +kernel
theorem dJ8_newLength_cabcc_22 : decode cJ8_newLength_cabcc 22 = .ok (.iload_n 1, 1) := by decide +kernel
theorem dJ8_newLength_cabcc_23 : decode cJ8_newLength_cabcc 23 = .ok (.invokestatic 201, 3) := by decide +kernel
theorem dJ8_newLength_cabcc_26 : decode cJ8_newLength_cabcc 26 = .ok (.ireturn, 1) := by decide +kernel
theorem dJ8_hugeLength_7cf53_0 : decode cJ8_hugeLength_7cf53 0 = .ok (.iload_n 0, 1) := by decide +kernel
theorem dJ8_hugeLength_7cf53_1 : decode cJ8_hugeLength_7cf53 1 = .ok (.iload_n 1, 1) := by decide +kernel
theorem dJ8_hugeLength_7cf53_2 : decode cJ8_hugeLength_7cf53 2 = .ok (.iadd, 1) := by decide +kernel
theorem dJ8_hugeLength_7cf53_3 : decode cJ8_hugeLength_7cf53 3 = .ok (.istore_n 2, 1) := by decide +kernel
theorem dJ8_hugeLength_7cf53_4 : decode cJ8_hugeLength_7cf53 4 = .ok (.iload_n 2, 1) := by decide +kernel
theorem dJ8_hugeLength_7cf53_5 : decode cJ8_hugeLength_7cf53 5 = .ok (.ifCond .ge 44, 3) := by decide +kernel
theorem dJ8_hugeLength_7cf53_8 : decode cJ8_hugeLength_7cf53 8 = .ok (.new 204, 3) := by decide +kernel
theorem dJ8_hugeLength_7cf53_11 : decode cJ8_hugeLength_7cf53 11 = .ok (.dup, 1) := by decide +kernel
theorem dJ8_hugeLength_7cf53_12 : decode cJ8_hugeLength_7cf53 12 = .ok (.new 89, 3) := by decide +kernel
theorem dJ8_hugeLength_7cf53_15 : decode cJ8_hugeLength_7cf53 15 = .ok (.dup, 1) := by decide +kernel
theorem dJ8_hugeLength_7cf53_16 : decode cJ8_hugeLength_7cf53 16 = .ok (.invokespecial 91, 3) := by decide +kernel
theorem dJ8_hugeLength_7cf53_19 : decode cJ8_hugeLength_7cf53 19 = .ok (.ldc 206, 2) := by decide +kernel
theorem dJ8_hugeLength_7cf53_21 : decode cJ8_hugeLength_7cf53 21 = .ok (.invokevirtual 94, 3) := by decide +kernel
theorem dJ8_hugeLength_7cf53_24 : decode cJ8_hugeLength_7cf53 24 = .ok (.iload_n 0, 1) := by decide +kernel
theorem dJ8_hugeLength_7cf53_25 : decode cJ8_hugeLength_7cf53 25 = .ok (.invokevirtual 98, 3) := by decide +kernel
theorem dJ8_hugeLength_7cf53_28 : decode cJ8_hugeLength_7cf53 28 = .ok (.ldc 208, 2) := by decide +kernel
theorem dJ8_hugeLength_7cf53_30 : decode cJ8_hugeLength_7cf53 30 = .ok (.invokevirtual 94, 3) := by decide +kernel
theorem dJ8_hugeLength_7cf53_33 : decode cJ8_hugeLength_7cf53 33 = .ok (.iload_n 1, 1) := by decide +kernel
theorem dJ8_hugeLength_7cf53_34 : decode cJ8_hugeLength_7cf53 34 = .ok (.invokevirtual 98, 3) := by decide +kernel
theorem dJ8_hugeLength_7cf53_37 : decode cJ8_hugeLength_7cf53 37 = .ok (.ldc 210, 2) := by decide +kernel
theorem dJ8_hugeLength_7cf53_39 : decode cJ8_hugeLength_7cf53 39 = .ok (.invokevirtual 94, 3) := by decide +kernel
theorem dJ8_hugeLength_7cf53_42 : decode cJ8_hugeLength_7cf53 42 = .ok (.invokevirtual 101, 3) := by decide +kernel
theorem dJ8_hugeLength_7cf53_45 : decode cJ8_hugeLength_7cf53 45 = .ok (.invokespecial 212, 3) := by decide +kernel
theorem dJ8_hugeLength_7cf53_48 : decode cJ8_hugeLength_7cf53 48 = .ok (.athrow, 1) := by decide +kernel
theorem dJ8_hugeLength_7cf53_49 : decode cJ8_hugeLength_7cf53 49 = .ok (.iload_n 2, 1) := by decide +kernel
theorem dJ8_hugeLength_7cf53_50 : decode cJ8_hugeLength_7cf53 50 = .ok (.ldc 200, 2) := by decide +kernel
theorem dJ8_hugeLength_7cf53_52 : decode cJ8_hugeLength_7cf53 52 = .ok (.if_icmp .gt 6, 3) := by decide +kernel
theorem dJ8_hugeLength_7cf53_55 : decode cJ8_hugeLength_7cf53 55 = .ok (.ldc 200, 2) := by decide +kernel
theorem dJ8_hugeLength_7cf53_57 : decode cJ8_hugeLength_7cf53 57 = .ok (.ireturn, 1) := by decide +kernel
theorem dJ8_hugeLength_7cf53_58 : decode cJ8_hugeLength_7cf53 58 = .ok (.iload_n 2, 1) := by decide +kernel
theorem dJ8_hugeLength_7cf53_59 : decode cJ8_hugeLength_7cf53 59 = .ok (.ireturn, 1) := by decide +kernel
theorem dJ3_checkIndex_8e157_0 : decode cJ3_checkIndex_8e157 0 = .ok (.iload_n 0, 1) := by decide +kernel
theorem dJ3_checkIndex_8e157_1 : decode cJ3_checkIndex_8e157 1 = .ok (.ifCond .lt 8, 3) := by decide +kernel
theorem dJ3_checkIndex_8e157_4 : decode cJ3_checkIndex_8e157 4 = .ok (.iload_n 0, 1) := by decide +kernel
theorem dJ3_checkIndex_8e157_5 : decode cJ3_checkIndex_8e157 5 = .ok (.iload_n 1, 1) := by decide +kernel
theorem dJ3_checkIndex_8e157_6 : decode cJ3_checkIndex_8e157 6 = .ok (.if_icmp .lt 10, 3) := by decide +kernel
theorem dJ3_checkIndex_8e157_9 : decode cJ3_checkIndex_8e157 9 = .ok (.aload_n 2, 1) := by decide +kernel
theorem dJ3_checkIndex_8e157_10 : decode cJ3_checkIndex_8e157 10 = .ok (.iload_n 0, 1) := by decide +kernel
theorem dJ3_checkIndex_8e157_11 : decode cJ3_checkIndex_8e157 11 = .ok (.iload_n 1, 1) := by decide +kernel
theorem dJ3_checkIndex_8e157_12 : decode cJ3_checkIndex_8e157 12 = .ok (.invokestatic 95, 3) := by decide +kernel
theorem dJ3_checkIndex_8e157_15 : decode cJ3_checkIndex_8e157 15 = .ok (.athrow, 1) := by decide +kernel
theorem dJ3_checkIndex_8e157_16 : decode cJ3_checkIndex_8e157 16 = .ok (.iload_n 0, 1) := by decide +kernel
theorem dJ3_checkIndex_8e157_17 : decode cJ3_checkIndex_8e157 17 = .ok (.ireturn, 1) := by decide +kernel
theorem dL_sound_0 : decode cL_sound 0 = .ok (.aload_n 2, 1) := by decide +kernel
theorem dL_sound_1 : decode cL_sound 1 = .ok (.iconst 0, 1) := by decide +kernel
theorem dL_sound_2 : decode cL_sound 2 = .ok (.aload_n 0, 1) := by decide +kernel
theorem dL_sound_3 : decode cL_sound 3 = .ok (.iload_n 1, 1) := by decide +kernel
theorem dL_sound_4 : decode cL_sound 4 = .ok (.invokevirtual 7, 3) := by decide +kernel
theorem dL_sound_7 : decode cL_sound 7 = .ok (.i2l, 1) := by decide +kernel
theorem dL_sound_8 : decode cL_sound 8 = .ok (.lastore, 1) := by decide +kernel
theorem dL_sound_9 : decode cL_sound 9 = .ok (.goto 9, 3) := by decide +kernel
theorem dL_sound_12 : decode cL_sound 12 = .ok (.astore_n 3, 1) := by decide +kernel
theorem dL_sound_13 : decode cL_sound 13 = .ok (.iconst 1, 1) := by decide +kernel
theorem dL_sound_14 : decode cL_sound 14 = .ok (.ireturn, 1) := by decide +kernel
theorem dL_sound_15 : decode cL_sound 15 = .ok (.astore_n 3, 1) := by decide +kernel
theorem dL_sound_16 : decode cL_sound 16 = .ok (.iconst 2, 1) := by decide +kernel
theorem dL_sound_17 : decode cL_sound 17 = .ok (.ireturn, 1) := by decide +kernel
theorem dL_sound_18 : decode cL_sound 18 = .ok (.iconst 0, 1) := by decide +kernel
theorem dL_sound_19 : decode cL_sound 19 = .ok (.ireturn, 1) := by decide +kernel
theorem dL_interview_0 : decode cL_interview 0 = .ok (.aload 5, 2) := by decide +kernel
theorem dL_interview_2 : decode cL_interview 2 = .ok (.iconst 0, 1) := by decide +kernel
theorem dL_interview_3 : decode cL_interview 3 = .ok (.aload_n 0, 1) := by decide +kernel
theorem dL_interview_4 : decode cL_interview 4 = .ok (.iload_n 1, 1) := by decide +kernel
theorem dL_interview_5 : decode cL_interview 5 = .ok (.iload_n 2, 1) := by decide +kernel
theorem dL_interview_6 : decode cL_interview 6 = .ok (.iload_n 3, 1) := by decide +kernel
theorem dL_interview_7 : decode cL_interview 7 = .ok (.iload 4, 2) := by decide +kernel
theorem dL_interview_9 : decode cL_interview 9 = .ok (.invokevirtual 17, 3) := by decide +kernel
theorem dL_interview_12 : decode cL_interview 12 = .ok (.i2l, 1) := by decide +kernel
theorem dL_interview_13 : decode cL_interview 13 = .ok (.lastore, 1) := by decide +kernel
theorem dL_interview_14 : decode cL_interview 14 = .ok (.goto 15, 3) := by decide +kernel
theorem dL_interview_17 : decode cL_interview 17 = .ok (.astore 6, 2) := by decide +kernel
theorem dL_interview_19 : decode cL_interview 19 = .ok (.iconst 1, 1) := by decide +kernel
theorem dL_interview_20 : decode cL_interview 20 = .ok (.ireturn, 1) := by decide +kernel
theorem dL_interview_21 : decode cL_interview 21 = .ok (.astore 6, 2) := by decide +kernel
theorem dL_interview_23 : decode cL_interview 23 = .ok (.iconst 2, 1) := by decide +kernel
theorem dL_interview_24 : decode cL_interview 24 = .ok (.ireturn, 1) := by decide +kernel
theorem dL_interview_25 : decode cL_interview 25 = .ok (.astore 6, 2) := by decide +kernel
theorem dL_interview_27 : decode cL_interview 27 = .ok (.iconst 3, 1) := by decide +kernel
theorem dL_interview_28 : decode cL_interview 28 = .ok (.ireturn, 1) := by decide +kernel
theorem dL_interview_29 : decode cL_interview 29 = .ok (.iconst 0, 1) := by decide +kernel
theorem dL_interview_30 : decode cL_interview 30 = .ok (.ireturn, 1) := by decide +kernel
theorem dL_setRoot_0 : decode cL_setRoot 0 = .ok (.aload_n 2, 1) := by decide +kernel
theorem dL_setRoot_1 : decode cL_setRoot 1 = .ok (.iconst 0, 1) := by decide +kernel
theorem dL_setRoot_2 : decode cL_setRoot 2 = .ok (.aload_n 0, 1) := by decide +kernel
theorem dL_setRoot_3 : decode cL_setRoot 3 = .ok (.iload_n 1, 1) := by decide +kernel
theorem dL_setRoot_4 : decode cL_setRoot 4 = .ok (.invokevirtual 23, 3) := by decide +kernel
theorem dL_setRoot_7 : decode cL_setRoot 7 = .ok (.i2l, 1) := by decide +kernel
theorem dL_setRoot_8 : decode cL_setRoot 8 = .ok (.lastore, 1) := by decide +kernel
theorem dL_setRoot_9 : decode cL_setRoot 9 = .ok (.goto 9, 3) := by decide +kernel
theorem dL_setRoot_12 : decode cL_setRoot 12 = .ok (.astore_n 3, 1) := by decide +kernel
theorem dL_setRoot_13 : decode cL_setRoot 13 = .ok (.iconst 1, 1) := by decide +kernel
theorem dL_setRoot_14 : decode cL_setRoot 14 = .ok (.ireturn, 1) := by decide +kernel
theorem dL_setRoot_15 : decode cL_setRoot 15 = .ok (.astore_n 3, 1) := by decide +kernel
theorem dL_setRoot_16 : decode cL_setRoot 16 = .ok (.iconst 2, 1) := by decide +kernel
theorem dL_setRoot_17 : decode cL_setRoot 17 = .ok (.ireturn, 1) := by decide +kernel
theorem dL_setRoot_18 : decode cL_setRoot 18 = .ok (.iconst 0, 1) := by decide +kernel
theorem dL_setRoot_19 : decode cL_setRoot 19 = .ok (.ireturn, 1) := by decide +kernel
theorem dL_form_0 : decode cL_form 0 = .ok (.aload_n 2, 1) := by decide +kernel
theorem dL_form_1 : decode cL_form 1 = .ok (.iconst 0, 1) := by decide +kernel
theorem dL_form_2 : decode cL_form 2 = .ok (.aload_n 0, 1) := by decide +kernel
theorem dL_form_3 : decode cL_form 3 = .ok (.iload_n 1, 1) := by decide +kernel
theorem dL_form_4 : decode cL_form 4 = .ok (.invokevirtual 26, 3) := by decide +kernel
theorem dL_form_7 : decode cL_form 7 = .ok (.i2l, 1) := by decide +kernel
theorem dL_form_8 : decode cL_form 8 = .ok (.lastore, 1) := by decide +kernel
theorem dL_form_9 : decode cL_form 9 = .ok (.goto 6, 3) := by decide +kernel
theorem dL_form_12 : decode cL_form 12 = .ok (.astore_n 3, 1) := by decide +kernel
theorem dL_form_13 : decode cL_form 13 = .ok (.iconst 1, 1) := by decide +kernel
theorem dL_form_14 : decode cL_form 14 = .ok (.ireturn, 1) := by decide +kernel
theorem dL_form_15 : decode cL_form 15 = .ok (.iconst 0, 1) := by decide +kernel
theorem dL_form_16 : decode cL_form 16 = .ok (.ireturn, 1) := by decide +kernel
theorem dL_rule_0 : decode cL_rule 0 = .ok (.aload 7, 2) := by decide +kernel
theorem dL_rule_2 : decode cL_rule 2 = .ok (.iconst 0, 1) := by decide +kernel
theorem dL_rule_3 : decode cL_rule 3 = .ok (.aload_n 0, 1) := by decide +kernel
theorem dL_rule_4 : decode cL_rule 4 = .ok (.iload_n 1, 1) := by decide +kernel
theorem dL_rule_5 : decode cL_rule 5 = .ok (.iload_n 2, 1) := by decide +kernel
theorem dL_rule_6 : decode cL_rule 6 = .ok (.iload_n 3, 1) := by decide +kernel
theorem dL_rule_7 : decode cL_rule 7 = .ok (.iload 4, 2) := by decide +kernel
theorem dL_rule_9 : decode cL_rule 9 = .ok (.iload 5, 2) := by decide +kernel
theorem dL_rule_11 : decode cL_rule 11 = .ok (.iload 6, 2) := by decide +kernel
theorem dL_rule_13 : decode cL_rule 13 = .ok (.invokevirtual 29, 3) := by decide +kernel
theorem dL_rule_16 : decode cL_rule 16 = .ok (.i2l, 1) := by decide +kernel
theorem dL_rule_17 : decode cL_rule 17 = .ok (.lastore, 1) := by decide +kernel
theorem dL_rule_18 : decode cL_rule 18 = .ok (.goto 15, 3) := by decide +kernel
theorem dL_rule_21 : decode cL_rule 21 = .ok (.astore 8, 2) := by decide +kernel
theorem dL_rule_23 : decode cL_rule 23 = .ok (.iconst 1, 1) := by decide +kernel
theorem dL_rule_24 : decode cL_rule 24 = .ok (.ireturn, 1) := by decide +kernel
theorem dL_rule_25 : decode cL_rule 25 = .ok (.astore 8, 2) := by decide +kernel
theorem dL_rule_27 : decode cL_rule 27 = .ok (.iconst 2, 1) := by decide +kernel
theorem dL_rule_28 : decode cL_rule 28 = .ok (.ireturn, 1) := by decide +kernel
theorem dL_rule_29 : decode cL_rule 29 = .ok (.astore 8, 2) := by decide +kernel
theorem dL_rule_31 : decode cL_rule 31 = .ok (.iconst 3, 1) := by decide +kernel
theorem dL_rule_32 : decode cL_rule 32 = .ok (.ireturn, 1) := by decide +kernel
theorem dL_rule_33 : decode cL_rule 33 = .ok (.iconst 0, 1) := by decide +kernel
theorem dL_rule_34 : decode cL_rule 34 = .ok (.ireturn, 1) := by decide +kernel
theorem dL_rest_0 : decode cL_rest 0 = .ok (.aload_n 3, 1) := by decide +kernel
theorem dL_rest_1 : decode cL_rest 1 = .ok (.iconst 0, 1) := by decide +kernel
theorem dL_rest_2 : decode cL_rest 2 = .ok (.aload_n 0, 1) := by decide +kernel
theorem dL_rest_3 : decode cL_rest 3 = .ok (.iload_n 1, 1) := by decide +kernel
theorem dL_rest_4 : decode cL_rest 4 = .ok (.iload_n 2, 1) := by decide +kernel
theorem dL_rest_5 : decode cL_rest 5 = .ok (.invokevirtual 33, 3) := by decide +kernel
theorem dL_rest_8 : decode cL_rest 8 = .ok (.i2l, 1) := by decide +kernel
theorem dL_rest_9 : decode cL_rest 9 = .ok (.lastore, 1) := by decide +kernel
theorem dL_rest_10 : decode cL_rest 10 = .ok (.goto 11, 3) := by decide +kernel
theorem dL_rest_13 : decode cL_rest 13 = .ok (.astore 4, 2) := by decide +kernel
theorem dL_rest_15 : decode cL_rest 15 = .ok (.iconst 1, 1) := by decide +kernel
theorem dL_rest_16 : decode cL_rest 16 = .ok (.ireturn, 1) := by decide +kernel
theorem dL_rest_17 : decode cL_rest 17 = .ok (.astore 4, 2) := by decide +kernel
theorem dL_rest_19 : decode cL_rest 19 = .ok (.iconst 2, 1) := by decide +kernel
theorem dL_rest_20 : decode cL_rest 20 = .ok (.ireturn, 1) := by decide +kernel
theorem dL_rest_21 : decode cL_rest 21 = .ok (.iconst 0, 1) := by decide +kernel
theorem dL_rest_22 : decode cL_rest 22 = .ok (.ireturn, 1) := by decide +kernel
theorem dL_stands_0 : decode cL_stands 0 = .ok (.aload_n 2, 1) := by decide +kernel
theorem dL_stands_1 : decode cL_stands 1 = .ok (.iconst 0, 1) := by decide +kernel
theorem dL_stands_2 : decode cL_stands 2 = .ok (.aload_n 0, 1) := by decide +kernel
theorem dL_stands_3 : decode cL_stands 3 = .ok (.iload_n 1, 1) := by decide +kernel
theorem dL_stands_4 : decode cL_stands 4 = .ok (.invokevirtual 37, 3) := by decide +kernel
theorem dL_stands_7 : decode cL_stands 7 = .ok (.ifCond .eq 7, 3) := by decide +kernel
theorem dL_stands_10 : decode cL_stands 10 = .ok (.lconst 1, 1) := by decide +kernel
theorem dL_stands_11 : decode cL_stands 11 = .ok (.goto 4, 3) := by decide +kernel
theorem dL_stands_14 : decode cL_stands 14 = .ok (.lconst 0, 1) := by decide +kernel
theorem dL_stands_15 : decode cL_stands 15 = .ok (.lastore, 1) := by decide +kernel
theorem dL_stands_16 : decode cL_stands 16 = .ok (.goto 6, 3) := by decide +kernel
theorem dL_stands_19 : decode cL_stands 19 = .ok (.astore_n 3, 1) := by decide +kernel
theorem dL_stands_20 : decode cL_stands 20 = .ok (.iconst 1, 1) := by decide +kernel
theorem dL_stands_21 : decode cL_stands 21 = .ok (.ireturn, 1) := by decide +kernel
theorem dL_stands_22 : decode cL_stands 22 = .ok (.iconst 0, 1) := by decide +kernel
theorem dL_stands_23 : decode cL_stands 23 = .ok (.ireturn, 1) := by decide +kernel
theorem dL_expected_0 : decode cL_expected 0 = .ok (.aload 4, 2) := by decide +kernel
theorem dL_expected_2 : decode cL_expected 2 = .ok (.iconst 0, 1) := by decide +kernel
theorem dL_expected_3 : decode cL_expected 3 = .ok (.aload_n 0, 1) := by decide +kernel
theorem dL_expected_4 : decode cL_expected 4 = .ok (.iload_n 1, 1) := by decide +kernel
theorem dL_expected_5 : decode cL_expected 5 = .ok (.iload_n 2, 1) := by decide +kernel
theorem dL_expected_6 : decode cL_expected 6 = .ok (.iload_n 3, 1) := by decide +kernel
theorem dL_expected_7 : decode cL_expected 7 = .ok (.invokevirtual 41, 3) := by decide +kernel
theorem dL_expected_10 : decode cL_expected 10 = .ok (.i2l, 1) := by decide +kernel
theorem dL_expected_11 : decode cL_expected 11 = .ok (.lastore, 1) := by decide +kernel
theorem dL_expected_12 : decode cL_expected 12 = .ok (.goto 11, 3) := by decide +kernel
theorem dL_expected_15 : decode cL_expected 15 = .ok (.astore 5, 2) := by decide +kernel
theorem dL_expected_17 : decode cL_expected 17 = .ok (.iconst 1, 1) := by decide +kernel
theorem dL_expected_18 : decode cL_expected 18 = .ok (.ireturn, 1) := by decide +kernel
theorem dL_expected_19 : decode cL_expected 19 = .ok (.astore 5, 2) := by decide +kernel
theorem dL_expected_21 : decode cL_expected 21 = .ok (.iconst 2, 1) := by decide +kernel
theorem dL_expected_22 : decode cL_expected 22 = .ok (.ireturn, 1) := by decide +kernel
theorem dL_expected_23 : decode cL_expected 23 = .ok (.iconst 0, 1) := by decide +kernel
theorem dL_expected_24 : decode cL_expected 24 = .ok (.ireturn, 1) := by decide +kernel
theorem dL_far_0 : decode cL_far 0 = .ok (.aload_n 2, 1) := by decide +kernel
theorem dL_far_1 : decode cL_far 1 = .ok (.iconst 0, 1) := by decide +kernel
theorem dL_far_2 : decode cL_far 2 = .ok (.aload_n 0, 1) := by decide +kernel
theorem dL_far_3 : decode cL_far 3 = .ok (.iload_n 1, 1) := by decide +kernel
theorem dL_far_4 : decode cL_far 4 = .ok (.invokevirtual 45, 3) := by decide +kernel
theorem dL_far_7 : decode cL_far 7 = .ok (.i2l, 1) := by decide +kernel
theorem dL_far_8 : decode cL_far 8 = .ok (.lastore, 1) := by decide +kernel
theorem dL_far_9 : decode cL_far 9 = .ok (.goto 6, 3) := by decide +kernel
theorem dL_far_12 : decode cL_far 12 = .ok (.astore_n 3, 1) := by decide +kernel
theorem dL_far_13 : decode cL_far 13 = .ok (.iconst 1, 1) := by decide +kernel
theorem dL_far_14 : decode cL_far 14 = .ok (.ireturn, 1) := by decide +kernel
theorem dL_far_15 : decode cL_far 15 = .ok (.iconst 0, 1) := by decide +kernel
theorem dL_far_16 : decode cL_far 16 = .ok (.ireturn, 1) := by decide +kernel
theorem dL_formAt_0 : decode cL_formAt 0 = .ok (.aload_n 3, 1) := by decide +kernel
theorem dL_formAt_1 : decode cL_formAt 1 = .ok (.iconst 0, 1) := by decide +kernel
theorem dL_formAt_2 : decode cL_formAt 2 = .ok (.aload_n 0, 1) := by decide +kernel
theorem dL_formAt_3 : decode cL_formAt 3 = .ok (.iload_n 1, 1) := by decide +kernel
theorem dL_formAt_4 : decode cL_formAt 4 = .ok (.iload_n 2, 1) := by decide +kernel
theorem dL_formAt_5 : decode cL_formAt 5 = .ok (.invokevirtual 48, 3) := by decide +kernel
theorem dL_formAt_8 : decode cL_formAt 8 = .ok (.i2l, 1) := by decide +kernel
theorem dL_formAt_9 : decode cL_formAt 9 = .ok (.lastore, 1) := by decide +kernel
theorem dL_formAt_10 : decode cL_formAt 10 = .ok (.goto 7, 3) := by decide +kernel
theorem dL_formAt_13 : decode cL_formAt 13 = .ok (.astore 4, 2) := by decide +kernel
theorem dL_formAt_15 : decode cL_formAt 15 = .ok (.iconst 1, 1) := by decide +kernel
theorem dL_formAt_16 : decode cL_formAt 16 = .ok (.ireturn, 1) := by decide +kernel
theorem dL_formAt_17 : decode cL_formAt 17 = .ok (.iconst 0, 1) := by decide +kernel
theorem dL_formAt_18 : decode cL_formAt 18 = .ok (.ireturn, 1) := by decide +kernel
theorem dL_lines_0 : decode cL_lines 0 = .ok (.aload_n 2, 1) := by decide +kernel
theorem dL_lines_1 : decode cL_lines 1 = .ok (.iconst 0, 1) := by decide +kernel
theorem dL_lines_2 : decode cL_lines 2 = .ok (.aload_n 0, 1) := by decide +kernel
theorem dL_lines_3 : decode cL_lines 3 = .ok (.iload_n 1, 1) := by decide +kernel
theorem dL_lines_4 : decode cL_lines 4 = .ok (.invokevirtual 51, 3) := by decide +kernel
theorem dL_lines_7 : decode cL_lines 7 = .ok (.i2l, 1) := by decide +kernel
theorem dL_lines_8 : decode cL_lines 8 = .ok (.lastore, 1) := by decide +kernel
theorem dL_lines_9 : decode cL_lines 9 = .ok (.goto 6, 3) := by decide +kernel
theorem dL_lines_12 : decode cL_lines 12 = .ok (.astore_n 3, 1) := by decide +kernel
theorem dL_lines_13 : decode cL_lines 13 = .ok (.iconst 1, 1) := by decide +kernel
theorem dL_lines_14 : decode cL_lines 14 = .ok (.ireturn, 1) := by decide +kernel
theorem dL_lines_15 : decode cL_lines 15 = .ok (.iconst 0, 1) := by decide +kernel
theorem dL_lines_16 : decode cL_lines 16 = .ok (.ireturn, 1) := by decide +kernel
theorem dL_linesByForms_0 : decode cL_linesByForms 0 = .ok (.aload_n 2, 1) := by decide +kernel
theorem dL_linesByForms_1 : decode cL_linesByForms 1 = .ok (.iconst 0, 1) := by decide +kernel
theorem dL_linesByForms_2 : decode cL_linesByForms 2 = .ok (.aload_n 0, 1) := by decide +kernel
theorem dL_linesByForms_3 : decode cL_linesByForms 3 = .ok (.iload_n 1, 1) := by decide +kernel
theorem dL_linesByForms_4 : decode cL_linesByForms 4 = .ok (.invokevirtual 54, 3) := by decide +kernel
theorem dL_linesByForms_7 : decode cL_linesByForms 7 = .ok (.i2l, 1) := by decide +kernel
theorem dL_linesByForms_8 : decode cL_linesByForms 8 = .ok (.lastore, 1) := by decide +kernel
theorem dL_linesByForms_9 : decode cL_linesByForms 9 = .ok (.goto 6, 3) := by decide +kernel
theorem dL_linesByForms_12 : decode cL_linesByForms 12 = .ok (.astore_n 3, 1) := by decide +kernel
theorem dL_linesByForms_13 : decode cL_linesByForms 13 = .ok (.iconst 1, 1) := by decide +kernel
theorem dL_linesByForms_14 : decode cL_linesByForms 14 = .ok (.ireturn, 1) := by decide +kernel
theorem dL_linesByForms_15 : decode cL_linesByForms 15 = .ok (.iconst 0, 1) := by decide +kernel
theorem dL_linesByForms_16 : decode cL_linesByForms 16 = .ok (.ireturn, 1) := by decide +kernel
theorem dL_forget_0 : decode cL_forget 0 = .ok (.aload_n 2, 1) := by decide +kernel
theorem dL_forget_1 : decode cL_forget 1 = .ok (.iconst 0, 1) := by decide +kernel
theorem dL_forget_2 : decode cL_forget 2 = .ok (.aload_n 0, 1) := by decide +kernel
theorem dL_forget_3 : decode cL_forget 3 = .ok (.iload_n 1, 1) := by decide +kernel
theorem dL_forget_4 : decode cL_forget 4 = .ok (.invokevirtual 57, 3) := by decide +kernel
theorem dL_forget_7 : decode cL_forget 7 = .ok (.i2l, 1) := by decide +kernel
theorem dL_forget_8 : decode cL_forget 8 = .ok (.lastore, 1) := by decide +kernel
theorem dL_forget_9 : decode cL_forget 9 = .ok (.goto 6, 3) := by decide +kernel
theorem dL_forget_12 : decode cL_forget 12 = .ok (.astore_n 3, 1) := by decide +kernel
theorem dL_forget_13 : decode cL_forget 13 = .ok (.iconst 1, 1) := by decide +kernel
theorem dL_forget_14 : decode cL_forget 14 = .ok (.ireturn, 1) := by decide +kernel
theorem dL_forget_15 : decode cL_forget 15 = .ok (.iconst 0, 1) := by decide +kernel
theorem dL_forget_16 : decode cL_forget 16 = .ok (.ireturn, 1) := by decide +kernel
theorem dL_copy_0 : decode cL_copy 0 = .ok (.aload_n 2, 1) := by decide +kernel
theorem dL_copy_1 : decode cL_copy 1 = .ok (.iconst 0, 1) := by decide +kernel
theorem dL_copy_2 : decode cL_copy 2 = .ok (.aload_n 0, 1) := by decide +kernel
theorem dL_copy_3 : decode cL_copy 3 = .ok (.iload_n 1, 1) := by decide +kernel
theorem dL_copy_4 : decode cL_copy 4 = .ok (.invokevirtual 60, 3) := by decide +kernel
theorem dL_copy_7 : decode cL_copy 7 = .ok (.i2l, 1) := by decide +kernel
theorem dL_copy_8 : decode cL_copy 8 = .ok (.lastore, 1) := by decide +kernel
theorem dL_copy_9 : decode cL_copy 9 = .ok (.goto 6, 3) := by decide +kernel
theorem dL_copy_12 : decode cL_copy 12 = .ok (.astore_n 3, 1) := by decide +kernel
theorem dL_copy_13 : decode cL_copy 13 = .ok (.iconst 1, 1) := by decide +kernel
theorem dL_copy_14 : decode cL_copy 14 = .ok (.ireturn, 1) := by decide +kernel
theorem dL_copy_15 : decode cL_copy 15 = .ok (.iconst 0, 1) := by decide +kernel
theorem dL_copy_16 : decode cL_copy 16 = .ok (.ireturn, 1) := by decide +kernel
theorem dL_tell_0 : decode cL_tell 0 = .ok (.aload_n 2, 1) := by decide +kernel
theorem dL_tell_1 : decode cL_tell 1 = .ok (.iconst 0, 1) := by decide +kernel
theorem dL_tell_2 : decode cL_tell 2 = .ok (.aload_n 0, 1) := by decide +kernel
theorem dL_tell_3 : decode cL_tell 3 = .ok (.iload_n 1, 1) := by decide +kernel
theorem dL_tell_4 : decode cL_tell 4 = .ok (.invokevirtual 63, 3) := by decide +kernel
theorem dL_tell_7 : decode cL_tell 7 = .ok (.i2l, 1) := by decide +kernel
theorem dL_tell_8 : decode cL_tell 8 = .ok (.lastore, 1) := by decide +kernel
theorem dL_tell_9 : decode cL_tell 9 = .ok (.goto 6, 3) := by decide +kernel
theorem dL_tell_12 : decode cL_tell 12 = .ok (.astore_n 3, 1) := by decide +kernel
theorem dL_tell_13 : decode cL_tell 13 = .ok (.iconst 1, 1) := by decide +kernel
theorem dL_tell_14 : decode cL_tell 14 = .ok (.ireturn, 1) := by decide +kernel
theorem dL_tell_15 : decode cL_tell 15 = .ok (.iconst 0, 1) := by decide +kernel
theorem dL_tell_16 : decode cL_tell 16 = .ok (.ireturn, 1) := by decide +kernel
theorem dL_owed_0 : decode cL_owed 0 = .ok (.aload_n 2, 1) := by decide +kernel
theorem dL_owed_1 : decode cL_owed 1 = .ok (.iconst 0, 1) := by decide +kernel
theorem dL_owed_2 : decode cL_owed 2 = .ok (.aload_n 0, 1) := by decide +kernel
theorem dL_owed_3 : decode cL_owed 3 = .ok (.iload_n 1, 1) := by decide +kernel
theorem dL_owed_4 : decode cL_owed 4 = .ok (.invokevirtual 66, 3) := by decide +kernel
theorem dL_owed_7 : decode cL_owed 7 = .ok (.i2l, 1) := by decide +kernel
theorem dL_owed_8 : decode cL_owed 8 = .ok (.lastore, 1) := by decide +kernel
theorem dL_owed_9 : decode cL_owed 9 = .ok (.goto 6, 3) := by decide +kernel
theorem dL_owed_12 : decode cL_owed 12 = .ok (.astore_n 3, 1) := by decide +kernel
theorem dL_owed_13 : decode cL_owed 13 = .ok (.iconst 1, 1) := by decide +kernel
theorem dL_owed_14 : decode cL_owed 14 = .ok (.ireturn, 1) := by decide +kernel
theorem dL_owed_15 : decode cL_owed 15 = .ok (.iconst 0, 1) := by decide +kernel
theorem dL_owed_16 : decode cL_owed 16 = .ok (.ireturn, 1) := by decide +kernel
theorem dL_quote_0 : decode cL_quote 0 = .ok (.aload_n 2, 1) := by decide +kernel
theorem dL_quote_1 : decode cL_quote 1 = .ok (.iconst 0, 1) := by decide +kernel
theorem dL_quote_2 : decode cL_quote 2 = .ok (.aload_n 0, 1) := by decide +kernel
theorem dL_quote_3 : decode cL_quote 3 = .ok (.iload_n 1, 1) := by decide +kernel
theorem dL_quote_4 : decode cL_quote 4 = .ok (.invokevirtual 69, 3) := by decide +kernel
theorem dL_quote_7 : decode cL_quote 7 = .ok (.i2l, 1) := by decide +kernel
theorem dL_quote_8 : decode cL_quote 8 = .ok (.lastore, 1) := by decide +kernel
theorem dL_quote_9 : decode cL_quote 9 = .ok (.goto 9, 3) := by decide +kernel
theorem dL_quote_12 : decode cL_quote 12 = .ok (.astore_n 3, 1) := by decide +kernel
theorem dL_quote_13 : decode cL_quote 13 = .ok (.iconst 1, 1) := by decide +kernel
theorem dL_quote_14 : decode cL_quote 14 = .ok (.ireturn, 1) := by decide +kernel
theorem dL_quote_15 : decode cL_quote 15 = .ok (.astore_n 3, 1) := by decide +kernel
theorem dL_quote_16 : decode cL_quote 16 = .ok (.iconst 2, 1) := by decide +kernel
theorem dL_quote_17 : decode cL_quote 17 = .ok (.ireturn, 1) := by decide +kernel
theorem dL_quote_18 : decode cL_quote 18 = .ok (.iconst 0, 1) := by decide +kernel
theorem dL_quote_19 : decode cL_quote 19 = .ok (.ireturn, 1) := by decide +kernel
theorem dL_quoted_0 : decode cL_quoted 0 = .ok (.aload_n 2, 1) := by decide +kernel
theorem dL_quoted_1 : decode cL_quoted 1 = .ok (.iconst 0, 1) := by decide +kernel
theorem dL_quoted_2 : decode cL_quoted 2 = .ok (.aload_n 0, 1) := by decide +kernel
theorem dL_quoted_3 : decode cL_quoted 3 = .ok (.iload_n 1, 1) := by decide +kernel
theorem dL_quoted_4 : decode cL_quoted 4 = .ok (.invokevirtual 72, 3) := by decide +kernel
theorem dL_quoted_7 : decode cL_quoted 7 = .ok (.i2l, 1) := by decide +kernel
theorem dL_quoted_8 : decode cL_quoted 8 = .ok (.lastore, 1) := by decide +kernel
theorem dL_quoted_9 : decode cL_quoted 9 = .ok (.goto 6, 3) := by decide +kernel
theorem dL_quoted_12 : decode cL_quoted 12 = .ok (.astore_n 3, 1) := by decide +kernel
theorem dL_quoted_13 : decode cL_quoted 13 = .ok (.iconst 1, 1) := by decide +kernel
theorem dL_quoted_14 : decode cL_quoted 14 = .ok (.ireturn, 1) := by decide +kernel
theorem dL_quoted_15 : decode cL_quoted 15 = .ok (.iconst 0, 1) := by decide +kernel
theorem dL_quoted_16 : decode cL_quoted 16 = .ok (.ireturn, 1) := by decide +kernel
end
section
def WS : List Cond := lw_tbl.filter goodWord
theorem wm {w : Cond} (i : Nat) (h : lw_tbl[i]? = some w) (g : goodWord w = true) : w ∈ WS := List.mem_filter.mpr ⟨List.mem_of_getElem? h, g⟩
def ngk : Cond → Bool
  | .methodLinkNest _ _ _ _ => true
  | .fieldLinkNest _ _ _ _ _ _ => true
  | .castable _ _ => true
  | .declares _ => true
  | _ => false
def NGW : List Cond := lw_tbl.filter ngk
theorem nm {w : Cond} (i : Nat) (h : lw_tbl[i]? = some w) (g : ngk w = true) : w ∈ NGW := List.mem_filter.mpr ⟨List.mem_of_getElem? h, g⟩
theorem ts_0 : Jvm.Cond.selects "java/lang/Throwable" ({ cls := "java/lang/Throwable", name := "fillInStackTrace", desc := "(I)Ljava/lang/Throwable;" } : Jvm.MethodName) ({ cls := "java/lang/Throwable", name := "fillInStackTrace", desc := "(I)Ljava/lang/Throwable;" } : Jvm.MethodName) ∈ WS := wm 0 (by decide +kernel) (by decide +kernel)
theorem ts_1 : Jvm.Cond.selects "DialectAtlas" ({ cls := "DialectAtlas", name := "takeDraft", desc := "()I" } : Jvm.MethodName) ({ cls := "DialectAtlas", name := "takeDraft", desc := "()I" } : Jvm.MethodName) ∈ WS := wm 1 (by decide +kernel) (by decide +kernel)
theorem ts_2 : Jvm.Cond.selects "java/util/ArrayList" ({ cls := "java/util/ArrayList", name := "add", desc := "(Ljava/lang/Object;[Ljava/lang/Object;I)V" } : Jvm.MethodName) ({ cls := "java/util/ArrayList", name := "add", desc := "(Ljava/lang/Object;[Ljava/lang/Object;I)V" } : Jvm.MethodName) ∈ WS := wm 2 (by decide +kernel) (by decide +kernel)
theorem ts_3 : Jvm.Cond.selects "java/util/ArrayList" ({ cls := "java/util/ArrayList", name := "grow", desc := "()[Ljava/lang/Object;" } : Jvm.MethodName) ({ cls := "java/util/ArrayList", name := "grow", desc := "()[Ljava/lang/Object;" } : Jvm.MethodName) ∈ WS := wm 3 (by decide +kernel) (by decide +kernel)
theorem ts_4 : Jvm.Cond.selects "java/util/ArrayList" ({ cls := "java/util/ArrayList", name := "grow", desc := "(I)[Ljava/lang/Object;" } : Jvm.MethodName) ({ cls := "java/util/ArrayList", name := "grow", desc := "(I)[Ljava/lang/Object;" } : Jvm.MethodName) ∈ WS := wm 4 (by decide +kernel) (by decide +kernel)
theorem ts_5 : Jvm.Cond.selects "DialectAtlas" ({ cls := "DialectAtlas", name := "drawLines", desc := "(I)I" } : Jvm.MethodName) ({ cls := "DialectAtlas", name := "drawLines", desc := "(I)I" } : Jvm.MethodName) ∈ WS := wm 5 (by decide +kernel) (by decide +kernel)
theorem ts_6 : Jvm.Cond.selects "DialectAtlas" ({ cls := "DialectAtlas", name := "mostToldForm", desc := "(II)I" } : Jvm.MethodName) ({ cls := "DialectAtlas", name := "mostToldForm", desc := "(II)I" } : Jvm.MethodName) ∈ WS := wm 6 (by decide +kernel) (by decide +kernel)
theorem ts_7 : Jvm.Cond.selects "DialectAtlas" ({ cls := "DialectAtlas", name := "isThere", desc := "(LDialectAtlas$Interview;)Z" } : Jvm.MethodName) ({ cls := "DialectAtlas", name := "isThere", desc := "(LDialectAtlas$Interview;)Z" } : Jvm.MethodName) ∈ WS := wm 7 (by decide +kernel) (by decide +kernel)
theorem ts_8 : Jvm.Cond.selects "DialectAtlas$Interview" ({ cls := "DialectAtlas$Interview", name := "isFor", desc := "(II)Z" } : Jvm.MethodName) ({ cls := "DialectAtlas$Interview", name := "isFor", desc := "(II)Z" } : Jvm.MethodName) ∈ WS := wm 8 (by decide +kernel) (by decide +kernel)
theorem ts_9 : Jvm.Cond.selects "DialectAtlas" ({ cls := "DialectAtlas", name := "countLike", desc := "(LDialectAtlas$Interview;)I" } : Jvm.MethodName) ({ cls := "DialectAtlas", name := "countLike", desc := "(LDialectAtlas$Interview;)I" } : Jvm.MethodName) ∈ WS := wm 9 (by decide +kernel) (by decide +kernel)
theorem ts_10 : Jvm.Cond.selects "DialectAtlas" ({ cls := "DialectAtlas", name := "formIfThere", desc := "(LDialectAtlas$Interview;)I" } : Jvm.MethodName) ({ cls := "DialectAtlas", name := "formIfThere", desc := "(LDialectAtlas$Interview;)I" } : Jvm.MethodName) ∈ WS := wm 10 (by decide +kernel) (by decide +kernel)
theorem ts_11 : Jvm.Cond.selects "DialectAtlas$Rule" ({ cls := "DialectAtlas$Rule", name := "restsOn", desc := "(LDialectAtlas$Interview;)Z" } : Jvm.MethodName) ({ cls := "DialectAtlas$Rule", name := "restsOn", desc := "(LDialectAtlas$Interview;)Z" } : Jvm.MethodName) ∈ WS := wm 11 (by decide +kernel) (by decide +kernel)
theorem ts_12 : Jvm.Cond.selects "DialectAtlas" ({ cls := "DialectAtlas", name := "applyRules", desc := "(III)I" } : Jvm.MethodName) ({ cls := "DialectAtlas", name := "applyRules", desc := "(III)I" } : Jvm.MethodName) ∈ WS := wm 12 (by decide +kernel) (by decide +kernel)
theorem ts_13 : Jvm.Cond.selects "DialectAtlas$Rule" ({ cls := "DialectAtlas$Rule", name := "goesAt", desc := "(II)Z" } : Jvm.MethodName) ({ cls := "DialectAtlas$Rule", name := "goesAt", desc := "(II)Z" } : Jvm.MethodName) ∈ WS := wm 13 (by decide +kernel) (by decide +kernel)
theorem ts_14 : Jvm.Cond.selects "DialectAtlas$Rule" ({ cls := "DialectAtlas$Rule", name := "applyTo", desc := "(I)I" } : Jvm.MethodName) ({ cls := "DialectAtlas$Rule", name := "applyTo", desc := "(I)I" } : Jvm.MethodName) ∈ WS := wm 14 (by decide +kernel) (by decide +kernel)
theorem ts_15 : Jvm.Cond.selects "DialectAtlas$Rule" ({ cls := "DialectAtlas$Rule", name := "changes", desc := "(II)Z" } : Jvm.MethodName) ({ cls := "DialectAtlas$Rule", name := "changes", desc := "(II)Z" } : Jvm.MethodName) ∈ WS := wm 15 (by decide +kernel) (by decide +kernel)
theorem ts_16 : Jvm.Cond.selects "DialectAtlas$StepCounter" ({ cls := "DialectAtlas$StepCounter", name := "countSteps", desc := "(II)I" } : Jvm.MethodName) ({ cls := "DialectAtlas$StepCounter", name := "countSteps", desc := "(II)I" } : Jvm.MethodName) ∈ WS := wm 16 (by decide +kernel) (by decide +kernel)
theorem ts_17 : Jvm.Cond.selects "DialectAtlas$StepCounter" ({ cls := "DialectAtlas$StepCounter", name := "goThrough", desc := "(II)I" } : Jvm.MethodName) ({ cls := "DialectAtlas$StepCounter", name := "goThrough", desc := "(II)I" } : Jvm.MethodName) ∈ WS := wm 17 (by decide +kernel) (by decide +kernel)
theorem ts_18 : Jvm.Cond.selects "DialectAtlas" ({ cls := "DialectAtlas", name := "interviewsOf", desc := "(I)J" } : Jvm.MethodName) ({ cls := "DialectAtlas", name := "interviewsOf", desc := "(I)J" } : Jvm.MethodName) ∈ WS := wm 18 (by decide +kernel) (by decide +kernel)
theorem ts_19 : Jvm.Cond.selects "DialectAtlas$Rule" ({ cls := "DialectAtlas$Rule", name := "restNoMoreOn", desc := "(J)V" } : Jvm.MethodName) ({ cls := "DialectAtlas$Rule", name := "restNoMoreOn", desc := "(J)V" } : Jvm.MethodName) ∈ WS := wm 19 (by decide +kernel) (by decide +kernel)
theorem ts_20 : Jvm.Cond.selects "DialectAtlasModel" ({ cls := "DialectAtlasModel", name := "fails", desc := "(I)I" } : Jvm.MethodName) ({ cls := "DialectAtlasModel", name := "fails", desc := "(I)I" } : Jvm.MethodName) ∈ WS := wm 20 (by decide +kernel) (by decide +kernel)
theorem ts_21 : Jvm.Cond.selects "DialectAtlasModel" ({ cls := "DialectAtlasModel", name := "drafted", desc := "()I" } : Jvm.MethodName) ({ cls := "DialectAtlasModel", name := "drafted", desc := "()I" } : Jvm.MethodName) ∈ WS := wm 21 (by decide +kernel) (by decide +kernel)
theorem ts_22 : Jvm.Cond.selects "DialectAtlasModel" ({ cls := "DialectAtlasModel", name := "isInterview", desc := "(I)Z" } : Jvm.MethodName) ({ cls := "DialectAtlasModel", name := "isInterview", desc := "(I)Z" } : Jvm.MethodName) ∈ WS := wm 22 (by decide +kernel) (by decide +kernel)
theorem ts_23 : Jvm.Cond.selects "DialectAtlasModel" ({ cls := "DialectAtlasModel", name := "isRule", desc := "(I)Z" } : Jvm.MethodName) ({ cls := "DialectAtlasModel", name := "isRule", desc := "(I)Z" } : Jvm.MethodName) ∈ WS := wm 23 (by decide +kernel) (by decide +kernel)
theorem ts_24 : Jvm.Cond.selects "DialectAtlasModel" ({ cls := "DialectAtlasModel", name := "expects", desc := "(III)I" } : Jvm.MethodName) ({ cls := "DialectAtlasModel", name := "expects", desc := "(III)I" } : Jvm.MethodName) ∈ WS := wm 24 (by decide +kernel) (by decide +kernel)
theorem ts_25 : Jvm.Cond.selects "DialectAtlasModel" ({ cls := "DialectAtlasModel", name := "applies", desc := "(II)I" } : Jvm.MethodName) ({ cls := "DialectAtlasModel", name := "applies", desc := "(II)I" } : Jvm.MethodName) ∈ WS := wm 25 (by decide +kernel) (by decide +kernel)
theorem ts_26 : Jvm.Cond.selects "DialectAtlasModel" ({ cls := "DialectAtlasModel", name := "distance", desc := "(II)I" } : Jvm.MethodName) ({ cls := "DialectAtlasModel", name := "distance", desc := "(II)I" } : Jvm.MethodName) ∈ WS := wm 26 (by decide +kernel) (by decide +kernel)
theorem ts_27 : Jvm.Cond.selects "DialectAtlasModel" ({ cls := "DialectAtlasModel", name := "most", desc := "(II)I" } : Jvm.MethodName) ({ cls := "DialectAtlasModel", name := "most", desc := "(II)I" } : Jvm.MethodName) ∈ WS := wm 27 (by decide +kernel) (by decide +kernel)
theorem ts_28 : Jvm.Cond.selects "DialectAtlasModel" ({ cls := "DialectAtlasModel", name := "drawn", desc := "(I)I" } : Jvm.MethodName) ({ cls := "DialectAtlasModel", name := "drawn", desc := "(I)I" } : Jvm.MethodName) ∈ WS := wm 28 (by decide +kernel) (by decide +kernel)
theorem ts_29 : Jvm.Cond.selects "DialectAtlasModel" ({ cls := "DialectAtlasModel", name := "there", desc := "()J" } : Jvm.MethodName) ({ cls := "DialectAtlasModel", name := "there", desc := "()J" } : Jvm.MethodName) ∈ WS := wm 29 (by decide +kernel) (by decide +kernel)
theorem tb_0 : Jvm.Cond.initialized "DialectAtlasLaw" ∈ WS := wm 30 (by decide +kernel) (by decide +kernel)
theorem tb_1 : Jvm.Cond.initialized "DialectAtlas" ∈ WS := wm 31 (by decide +kernel) (by decide +kernel)
theorem tb_2 : Jvm.Cond.initialized "java/util/AbstractCollection" ∈ WS := wm 32 (by decide +kernel) (by decide +kernel)
theorem tb_3 : Jvm.Cond.initialized "java/util/AbstractList" ∈ WS := wm 33 (by decide +kernel) (by decide +kernel)
theorem tb_4 : Jvm.Cond.initialized "java/util/ArrayList" ∈ WS := wm 34 (by decide +kernel) (by decide +kernel)
theorem tb_5 : Jvm.Cond.initialized "DialectAtlas$StepCounter" ∈ WS := wm 35 (by decide +kernel) (by decide +kernel)
theorem tb_6 : Jvm.Cond.initialized "java/util/Arrays" ∈ WS := wm 36 (by decide +kernel) (by decide +kernel)
theorem tb_7 : Jvm.Cond.initialized "DialectAtlasModel" ∈ WS := wm 37 (by decide +kernel) (by decide +kernel)
theorem tb_8 : Jvm.Cond.initialized "java/lang/Throwable" ∈ WS := wm 38 (by decide +kernel) (by decide +kernel)
theorem tb_9 : Jvm.Cond.initialized "java/lang/Exception" ∈ WS := wm 39 (by decide +kernel) (by decide +kernel)
theorem tb_10 : Jvm.Cond.initialized "java/lang/RuntimeException" ∈ WS := wm 40 (by decide +kernel) (by decide +kernel)
theorem tb_11 : Jvm.Cond.initialized "java/lang/IndexOutOfBoundsException" ∈ WS := wm 41 (by decide +kernel) (by decide +kernel)
theorem tb_12 : Jvm.Cond.initialized "java/lang/IllegalStateException" ∈ WS := wm 42 (by decide +kernel) (by decide +kernel)
theorem tb_13 : Jvm.Cond.initialized "java/lang/IllegalArgumentException" ∈ WS := wm 43 (by decide +kernel) (by decide +kernel)
theorem tb_14 : Jvm.Cond.initialized "DialectAtlas$Interview" ∈ WS := wm 44 (by decide +kernel) (by decide +kernel)
theorem tb_15 : Jvm.Cond.initialized "jdk/internal/util/ArraysSupport" ∈ WS := wm 45 (by decide +kernel) (by decide +kernel)
theorem tb_16 : Jvm.Cond.initialized "java/lang/Math" ∈ WS := wm 46 (by decide +kernel) (by decide +kernel)
theorem tb_17 : Jvm.Cond.initialized "java/lang/System" ∈ WS := wm 47 (by decide +kernel) (by decide +kernel)
theorem tb_18 : Jvm.Cond.initialized "java/util/Objects" ∈ WS := wm 48 (by decide +kernel) (by decide +kernel)
theorem tb_19 : Jvm.Cond.initialized "jdk/internal/util/Preconditions" ∈ WS := wm 49 (by decide +kernel) (by decide +kernel)
theorem tb_20 : Jvm.Cond.initialized "DialectAtlas$Rule" ∈ WS := wm 50 (by decide +kernel) (by decide +kernel)
theorem tb_21 : Jvm.Cond.initialized "java/lang/Long" ∈ WS := wm 51 (by decide +kernel) (by decide +kernel)
theorem tb_22 : Jvm.Cond.classLink "DialectAtlasLaw" (8 : Nat) "DialectAtlas" ∈ WS := wm 52 (by decide +kernel) (by decide +kernel)
theorem tb_23 : Jvm.Cond.instantiable "DialectAtlas" (10 : Nat) ∈ WS := wm 53 (by decide +kernel) (by decide +kernel)
theorem tb_24 : Jvm.Cond.methodLink "DialectAtlasLaw" (75 : Nat) ({ cls := "DialectAtlas", name := "<init>", desc := "()V" } : Jvm.MethodName) ∈ WS := wm 54 (by decide +kernel) (by decide +kernel)
theorem tb_25 : Jvm.Cond.instanceMethod ({ cls := "DialectAtlas", name := "<init>", desc := "()V" } : Jvm.MethodName) ∈ WS := wm 55 (by decide +kernel) (by decide +kernel)
theorem tb_26 : Jvm.Cond.code ({ cls := "DialectAtlas", name := "<init>", desc := "()V" } : Jvm.MethodName) prog_1_method_1_code (1 : Nat) (Option.none : Option Jvm.ClassFile.FieldType) ∈ WS := wm 56 (by decide +kernel) (by decide +kernel)
theorem tb_27 : Jvm.Cond.methodLink "DialectAtlas" (1 : Nat) ({ cls := "java/lang/Object", name := "<init>", desc := "()V" } : Jvm.MethodName) ∈ WS := wm 57 (by decide +kernel) (by decide +kernel)
theorem tb_28 : Jvm.Cond.instanceMethod ({ cls := "java/lang/Object", name := "<init>", desc := "()V" } : Jvm.MethodName) ∈ WS := wm 58 (by decide +kernel) (by decide +kernel)
theorem tb_29 : Jvm.Cond.code ({ cls := "java/lang/Object", name := "<init>", desc := "()V" } : Jvm.MethodName) object_method_1_code (1 : Nat) (Option.none : Option Jvm.ClassFile.FieldType) ∈ WS := wm 59 (by decide +kernel) (by decide +kernel)
theorem tb_30 : Jvm.Cond.classLink "DialectAtlas" (7 : Nat) "java/util/ArrayList" ∈ WS := wm 60 (by decide +kernel) (by decide +kernel)
theorem tb_31 : Jvm.Cond.instantiable "java/util/ArrayList" (3 : Nat) ∈ WS := wm 61 (by decide +kernel) (by decide +kernel)
theorem tb_32 : Jvm.Cond.methodLink "DialectAtlas" (9 : Nat) ({ cls := "java/util/ArrayList", name := "<init>", desc := "()V" } : Jvm.MethodName) ∈ WS := wm 62 (by decide +kernel) (by decide +kernel)
theorem tb_33 : Jvm.Cond.instanceMethod ({ cls := "java/util/ArrayList", name := "<init>", desc := "()V" } : Jvm.MethodName) ∈ WS := wm 63 (by decide +kernel) (by decide +kernel)
theorem tb_34 : Jvm.Cond.code ({ cls := "java/util/ArrayList", name := "<init>", desc := "()V" } : Jvm.MethodName) prog_22_method_2_code (1 : Nat) (Option.none : Option Jvm.ClassFile.FieldType) ∈ WS := wm 64 (by decide +kernel) (by decide +kernel)
theorem tb_35 : Jvm.Cond.methodLink "java/util/ArrayList" (1 : Nat) ({ cls := "java/util/AbstractList", name := "<init>", desc := "()V" } : Jvm.MethodName) ∈ WS := wm 65 (by decide +kernel) (by decide +kernel)
theorem tb_36 : Jvm.Cond.instanceMethod ({ cls := "java/util/AbstractList", name := "<init>", desc := "()V" } : Jvm.MethodName) ∈ WS := wm 66 (by decide +kernel) (by decide +kernel)
theorem tb_37 : Jvm.Cond.code ({ cls := "java/util/AbstractList", name := "<init>", desc := "()V" } : Jvm.MethodName) prog_21_method_1_code (1 : Nat) (Option.none : Option Jvm.ClassFile.FieldType) ∈ WS := wm 67 (by decide +kernel) (by decide +kernel)
theorem tb_38 : Jvm.Cond.methodLink "java/util/AbstractList" (1 : Nat) ({ cls := "java/util/AbstractCollection", name := "<init>", desc := "()V" } : Jvm.MethodName) ∈ WS := wm 68 (by decide +kernel) (by decide +kernel)
theorem tb_39 : Jvm.Cond.instanceMethod ({ cls := "java/util/AbstractCollection", name := "<init>", desc := "()V" } : Jvm.MethodName) ∈ WS := wm 69 (by decide +kernel) (by decide +kernel)
theorem tb_40 : Jvm.Cond.code ({ cls := "java/util/AbstractCollection", name := "<init>", desc := "()V" } : Jvm.MethodName) prog_20_method_1_code (1 : Nat) (Option.none : Option Jvm.ClassFile.FieldType) ∈ WS := wm 70 (by decide +kernel) (by decide +kernel)
theorem tb_41 : Jvm.Cond.methodLink "java/util/AbstractCollection" (1 : Nat) ({ cls := "java/lang/Object", name := "<init>", desc := "()V" } : Jvm.MethodName) ∈ WS := wm 71 (by decide +kernel) (by decide +kernel)
theorem tb_42 : Jvm.Cond.fieldLink "java/util/ArrayList" (39 : Nat) "java/util/ArrayList" "DEFAULTCAPACITY_EMPTY_ELEMENTDATA" "[Ljava/lang/Object;" ∈ WS := wm 72 (by decide +kernel) (by decide +kernel)
theorem tb_44 : Jvm.Cond.fieldLink "java/util/ArrayList" (9 : Nat) "java/util/ArrayList" "elementData" "[Ljava/lang/Object;" ∈ WS := wm 74 (by decide +kernel) (by decide +kernel)
theorem tb_45 : Jvm.Cond.fieldLink "java/util/ArrayList" (48 : Nat) "java/util/ArrayList" "size" "I" ∈ WS := wm 75 (by decide +kernel) (by decide +kernel)
theorem tb_46 : Jvm.Cond.fieldLink "java/util/AbstractList" (7 : Nat) "java/util/AbstractList" "modCount" "I" ∈ WS := wm 76 (by decide +kernel) (by decide +kernel)
theorem tb_47 : Jvm.Cond.fieldLink "java/util/ArrayList" (63 : Nat) "java/util/ArrayList" "modCount" "I" ∈ WS := wm 77 (by decide +kernel) (by decide +kernel)
theorem tb_48 : Jvm.Cond.sameField "java/util/ArrayList" "java/util/AbstractList" "modCount" "I" ∈ WS := wm 78 (by decide +kernel) (by decide +kernel)
theorem tb_49 : Jvm.Cond.lays "java/util/ArrayList" "java/util/ArrayList" "elementData" "[Ljava/lang/Object;" ∈ WS := wm 79 (by decide +kernel) (by decide +kernel)
theorem tb_50 : Jvm.Cond.soleField "java/util/ArrayList" "elementData" ∈ WS := wm 80 (by decide +kernel) (by decide +kernel)
theorem tb_51 : Jvm.Cond.lays "java/util/ArrayList" "java/util/ArrayList" "size" "I" ∈ WS := wm 81 (by decide +kernel) (by decide +kernel)
theorem tb_52 : Jvm.Cond.soleField "java/util/ArrayList" "size" ∈ WS := wm 82 (by decide +kernel) (by decide +kernel)
theorem tb_53 : Jvm.Cond.lays "java/util/ArrayList" "java/util/AbstractList" "modCount" "I" ∈ WS := wm 83 (by decide +kernel) (by decide +kernel)
theorem tb_54 : Jvm.Cond.soleField "java/util/AbstractList" "modCount" ∈ WS := wm 84 (by decide +kernel) (by decide +kernel)
theorem tb_55 : Jvm.Cond.superclass "java/util/ArrayList" "java/util/AbstractList" ∈ WS := wm 85 (by decide +kernel) (by decide +kernel)
theorem tb_56 : Jvm.Cond.classLink "DialectAtlas" (33 : Nat) "DialectAtlas$StepCounter" ∈ WS := wm 86 (by decide +kernel) (by decide +kernel)
theorem tb_57 : Jvm.Cond.instantiable "DialectAtlas$StepCounter" (1 : Nat) ∈ WS := wm 87 (by decide +kernel) (by decide +kernel)
theorem tn_58 : Jvm.Cond.methodLinkNest "DialectAtlas" (35 : Nat) ({ cls := "DialectAtlas$StepCounter", name := "<init>", desc := "()V" } : Jvm.MethodName) "DialectAtlas" ∈ NGW := nm 88 (by decide +kernel) (by decide +kernel)
theorem tb_59 : Jvm.Cond.instanceMethod ({ cls := "DialectAtlas$StepCounter", name := "<init>", desc := "()V" } : Jvm.MethodName) ∈ WS := wm 89 (by decide +kernel) (by decide +kernel)
theorem tb_60 : Jvm.Cond.code ({ cls := "DialectAtlas$StepCounter", name := "<init>", desc := "()V" } : Jvm.MethodName) prog_4_method_1_code (1 : Nat) (Option.none : Option Jvm.ClassFile.FieldType) ∈ WS := wm 90 (by decide +kernel) (by decide +kernel)
theorem tb_61 : Jvm.Cond.methodLink "DialectAtlas$StepCounter" (3 : Nat) ({ cls := "java/lang/Object", name := "<init>", desc := "()V" } : Jvm.MethodName) ∈ WS := wm 91 (by decide +kernel) (by decide +kernel)
theorem tb_62 : Jvm.Cond.fieldLink "DialectAtlas$StepCounter" (9 : Nat) "DialectAtlas$StepCounter" "row" "[I" ∈ WS := wm 92 (by decide +kernel) (by decide +kernel)
theorem tb_63 : Jvm.Cond.laysFinal "DialectAtlas$StepCounter" "DialectAtlas$StepCounter" "row" "[I" ∈ WS := wm 93 (by decide +kernel) (by decide +kernel)
theorem tb_64 : Jvm.Cond.soleField "DialectAtlas$StepCounter" "row" ∈ WS := wm 94 (by decide +kernel) (by decide +kernel)
theorem tb_65 : Jvm.Cond.superclass "DialectAtlas$StepCounter" "java/lang/Object" ∈ WS := wm 95 (by decide +kernel) (by decide +kernel)
theorem tb_66 : Jvm.Cond.arrayClass Jvm.ClassFile.FieldType.int ∈ WS := wm 96 (by decide +kernel) (by decide +kernel)
theorem tb_67 : Jvm.Cond.arrayClass Jvm.ClassFile.FieldType.long ∈ WS := wm 97 (by decide +kernel) (by decide +kernel)
theorem tb_68 : Jvm.Cond.methodLink "DialectAtlas" (51 : Nat) ({ cls := "java/util/Arrays", name := "fill", desc := "([II)V" } : Jvm.MethodName) ∈ WS := wm 98 (by decide +kernel) (by decide +kernel)
theorem tb_69 : Jvm.Cond.static ({ cls := "java/util/Arrays", name := "fill", desc := "([II)V" } : Jvm.MethodName) ∈ WS := wm 99 (by decide +kernel) (by decide +kernel)
theorem tb_70 : Jvm.Cond.code ({ cls := "java/util/Arrays", name := "fill", desc := "([II)V" } : Jvm.MethodName) prog_23_method_103_code (4 : Nat) (Option.none : Option Jvm.ClassFile.FieldType) ∈ WS := wm 100 (by decide +kernel) (by decide +kernel)
theorem tb_71 : Jvm.Cond.fieldLink "DialectAtlas" (10 : Nat) "DialectAtlas" "interviews" "Ljava/util/ArrayList;" ∈ WS := wm 101 (by decide +kernel) (by decide +kernel)
theorem tb_72 : Jvm.Cond.fieldLink "DialectAtlas" (16 : Nat) "DialectAtlas" "rules" "Ljava/util/ArrayList;" ∈ WS := wm 102 (by decide +kernel) (by decide +kernel)
theorem tb_73 : Jvm.Cond.fieldLink "DialectAtlas" (19 : Nat) "DialectAtlas" "quotes" "Ljava/util/ArrayList;" ∈ WS := wm 103 (by decide +kernel) (by decide +kernel)
theorem tb_74 : Jvm.Cond.fieldLink "DialectAtlas" (22 : Nat) "DialectAtlas" "roots" "[I" ∈ WS := wm 104 (by decide +kernel) (by decide +kernel)
theorem tb_75 : Jvm.Cond.fieldLink "DialectAtlas" (26 : Nat) "DialectAtlas" "keptLines" "[I" ∈ WS := wm 105 (by decide +kernel) (by decide +kernel)
theorem tb_76 : Jvm.Cond.fieldLink "DialectAtlas" (29 : Nat) "DialectAtlas" "knownAt" "[J" ∈ WS := wm 106 (by decide +kernel) (by decide +kernel)
theorem tb_77 : Jvm.Cond.fieldLink "DialectAtlas" (36 : Nat) "DialectAtlas" "stepCounter" "LDialectAtlas$StepCounter;" ∈ WS := wm 107 (by decide +kernel) (by decide +kernel)
theorem tb_78 : Jvm.Cond.fieldLink "DialectAtlas" (40 : Nat) "DialectAtlas" "there" "J" ∈ WS := wm 108 (by decide +kernel) (by decide +kernel)
theorem tb_79 : Jvm.Cond.fieldLink "DialectAtlas" (44 : Nat) "DialectAtlas" "draft" "I" ∈ WS := wm 109 (by decide +kernel) (by decide +kernel)
theorem tb_80 : Jvm.Cond.fieldLink "DialectAtlas" (48 : Nat) "DialectAtlas" "draftLength" "I" ∈ WS := wm 110 (by decide +kernel) (by decide +kernel)
theorem tb_81 : Jvm.Cond.laysFinal "DialectAtlas" "DialectAtlas" "interviews" "Ljava/util/ArrayList;" ∈ WS := wm 111 (by decide +kernel) (by decide +kernel)
theorem tb_82 : Jvm.Cond.soleField "DialectAtlas" "interviews" ∈ WS := wm 112 (by decide +kernel) (by decide +kernel)
theorem tb_83 : Jvm.Cond.laysFinal "DialectAtlas" "DialectAtlas" "rules" "Ljava/util/ArrayList;" ∈ WS := wm 113 (by decide +kernel) (by decide +kernel)
theorem tb_84 : Jvm.Cond.soleField "DialectAtlas" "rules" ∈ WS := wm 114 (by decide +kernel) (by decide +kernel)
theorem tb_85 : Jvm.Cond.laysFinal "DialectAtlas" "DialectAtlas" "quotes" "Ljava/util/ArrayList;" ∈ WS := wm 115 (by decide +kernel) (by decide +kernel)
theorem tb_86 : Jvm.Cond.soleField "DialectAtlas" "quotes" ∈ WS := wm 116 (by decide +kernel) (by decide +kernel)
theorem tb_87 : Jvm.Cond.laysFinal "DialectAtlas" "DialectAtlas" "roots" "[I" ∈ WS := wm 117 (by decide +kernel) (by decide +kernel)
theorem tb_88 : Jvm.Cond.soleField "DialectAtlas" "roots" ∈ WS := wm 118 (by decide +kernel) (by decide +kernel)
theorem tb_89 : Jvm.Cond.laysFinal "DialectAtlas" "DialectAtlas" "keptLines" "[I" ∈ WS := wm 119 (by decide +kernel) (by decide +kernel)
theorem tb_90 : Jvm.Cond.soleField "DialectAtlas" "keptLines" ∈ WS := wm 120 (by decide +kernel) (by decide +kernel)
theorem tb_91 : Jvm.Cond.laysFinal "DialectAtlas" "DialectAtlas" "knownAt" "[J" ∈ WS := wm 121 (by decide +kernel) (by decide +kernel)
theorem tb_92 : Jvm.Cond.soleField "DialectAtlas" "knownAt" ∈ WS := wm 122 (by decide +kernel) (by decide +kernel)
theorem tb_93 : Jvm.Cond.laysFinal "DialectAtlas" "DialectAtlas" "stepCounter" "LDialectAtlas$StepCounter;" ∈ WS := wm 123 (by decide +kernel) (by decide +kernel)
theorem tb_94 : Jvm.Cond.soleField "DialectAtlas" "stepCounter" ∈ WS := wm 124 (by decide +kernel) (by decide +kernel)
theorem tb_95 : Jvm.Cond.lays "DialectAtlas" "DialectAtlas" "there" "J" ∈ WS := wm 125 (by decide +kernel) (by decide +kernel)
theorem tb_96 : Jvm.Cond.soleField "DialectAtlas" "there" ∈ WS := wm 126 (by decide +kernel) (by decide +kernel)
theorem tb_97 : Jvm.Cond.lays "DialectAtlas" "DialectAtlas" "draft" "I" ∈ WS := wm 127 (by decide +kernel) (by decide +kernel)
theorem tb_98 : Jvm.Cond.soleField "DialectAtlas" "draft" ∈ WS := wm 128 (by decide +kernel) (by decide +kernel)
theorem tb_99 : Jvm.Cond.lays "DialectAtlas" "DialectAtlas" "draftLength" "I" ∈ WS := wm 129 (by decide +kernel) (by decide +kernel)
theorem tb_100 : Jvm.Cond.soleField "DialectAtlas" "draftLength" ∈ WS := wm 130 (by decide +kernel) (by decide +kernel)
theorem tb_101 : Jvm.Cond.superclass "DialectAtlas" "java/lang/Object" ∈ WS := wm 131 (by decide +kernel) (by decide +kernel)
theorem tb_102 : Jvm.Cond.methodLink "DialectAtlasLaw" (79 : Nat) ({ cls := "DialectAtlasLaw", name := "sound", desc := "(LDialectAtlas;I[J)I" } : Jvm.MethodName) ∈ WS := wm 132 (by decide +kernel) (by decide +kernel)
theorem tb_103 : Jvm.Cond.static ({ cls := "DialectAtlasLaw", name := "sound", desc := "(LDialectAtlas;I[J)I" } : Jvm.MethodName) ∈ WS := wm 133 (by decide +kernel) (by decide +kernel)
theorem tb_104 : Jvm.Cond.codeWith ({ cls := "DialectAtlasLaw", name := "sound", desc := "(LDialectAtlas;I[J)I" } : Jvm.MethodName) method_3_code (4 : Nat) (Option.some Jvm.ClassFile.FieldType.int) [((0 : Nat), (9 : Nat), (12 : Nat), (13 : Nat)), ((0 : Nat), (9 : Nat), (15 : Nat), (15 : Nat))] ∈ WS := wm 134 (by decide +kernel) (by decide +kernel)
theorem tb_105 : Jvm.Cond.classLink "DialectAtlasLaw" (13 : Nat) "java/lang/IndexOutOfBoundsException" ∈ WS := wm 135 (by decide +kernel) (by decide +kernel)
theorem tb_106 : Jvm.Cond.classLink "DialectAtlasLaw" (15 : Nat) "java/lang/IllegalStateException" ∈ WS := wm 136 (by decide +kernel) (by decide +kernel)
theorem tb_107 : Jvm.Cond.methodLink "DialectAtlasLaw" (7 : Nat) ({ cls := "DialectAtlas", name := "sound", desc := "(I)I" } : Jvm.MethodName) ∈ WS := wm 137 (by decide +kernel) (by decide +kernel)
theorem tb_108 : Jvm.Cond.instanceMethod ({ cls := "DialectAtlas", name := "sound", desc := "(I)I" } : Jvm.MethodName) ∈ WS := wm 138 (by decide +kernel) (by decide +kernel)
theorem tb_109 : Jvm.Cond.selects "DialectAtlas" ({ cls := "DialectAtlas", name := "sound", desc := "(I)I" } : Jvm.MethodName) ({ cls := "DialectAtlas", name := "sound", desc := "(I)I" } : Jvm.MethodName) ∈ WS := wm 139 (by decide +kernel) (by decide +kernel)
theorem tb_110 : Jvm.Cond.code ({ cls := "DialectAtlas", name := "sound", desc := "(I)I" } : Jvm.MethodName) prog_1_method_2_code (2 : Nat) (Option.some Jvm.ClassFile.FieldType.int) ∈ WS := wm 140 (by decide +kernel) (by decide +kernel)
theorem tb_111 : Jvm.Cond.methodLink "DialectAtlas" (57 : Nat) ({ cls := "DialectAtlas", name := "isOutside", desc := "(II)Z" } : Jvm.MethodName) ∈ WS := wm 141 (by decide +kernel) (by decide +kernel)
theorem tb_112 : Jvm.Cond.static ({ cls := "DialectAtlas", name := "isOutside", desc := "(II)Z" } : Jvm.MethodName) ∈ WS := wm 142 (by decide +kernel) (by decide +kernel)
theorem tb_113 : Jvm.Cond.code ({ cls := "DialectAtlas", name := "isOutside", desc := "(II)Z" } : Jvm.MethodName) prog_1_method_20_code (2 : Nat) (Option.some Jvm.ClassFile.FieldType.boolean) ∈ WS := wm 143 (by decide +kernel) (by decide +kernel)
theorem tb_114 : Jvm.Cond.classLink "DialectAtlas" (61 : Nat) "java/lang/IndexOutOfBoundsException" ∈ WS := wm 144 (by decide +kernel) (by decide +kernel)
theorem tb_115 : Jvm.Cond.instantiable "java/lang/IndexOutOfBoundsException" (6 : Nat) ∈ WS := wm 145 (by decide +kernel) (by decide +kernel)
theorem tn_116 : Jvm.Cond.castable "java/lang/IndexOutOfBoundsException" "java/lang/IndexOutOfBoundsException" ∈ NGW := nm 146 (by decide +kernel) (by decide +kernel)
theorem tn_117 : Jvm.Cond.declares ({ cls := "java/lang/RuntimeException", name := "<init>", desc := "()V" } : Jvm.MethodName) ∈ NGW := nm 147 (by decide +kernel) (by decide +kernel)
theorem tn_118 : Jvm.Cond.declares ({ cls := "java/lang/RuntimeException", name := "<init>", desc := "(Ljava/lang/String;)V" } : Jvm.MethodName) ∈ NGW := nm 148 (by decide +kernel) (by decide +kernel)
theorem tn_119 : Jvm.Cond.declares ({ cls := "java/lang/Exception", name := "<init>", desc := "()V" } : Jvm.MethodName) ∈ NGW := nm 149 (by decide +kernel) (by decide +kernel)
theorem tn_120 : Jvm.Cond.declares ({ cls := "java/lang/Exception", name := "<init>", desc := "(Ljava/lang/String;)V" } : Jvm.MethodName) ∈ NGW := nm 150 (by decide +kernel) (by decide +kernel)
theorem tn_121 : Jvm.Cond.declares ({ cls := "java/lang/Throwable", name := "<init>", desc := "()V" } : Jvm.MethodName) ∈ NGW := nm 151 (by decide +kernel) (by decide +kernel)
theorem tn_122 : Jvm.Cond.declares ({ cls := "java/lang/Throwable", name := "<init>", desc := "(Ljava/lang/String;)V" } : Jvm.MethodName) ∈ NGW := nm 152 (by decide +kernel) (by decide +kernel)
theorem tb_123 : Jvm.Cond.selects "java/lang/IndexOutOfBoundsException" ({ cls := "java/lang/Throwable", name := "fillInStackTrace", desc := "(I)Ljava/lang/Throwable;" } : Jvm.MethodName) ({ cls := "java/lang/Throwable", name := "fillInStackTrace", desc := "(I)Ljava/lang/Throwable;" } : Jvm.MethodName) ∈ WS := wm 153 (by decide +kernel) (by decide +kernel)
theorem tb_124 : Jvm.Cond.selects "java/lang/IndexOutOfBoundsException" ({ cls := "java/lang/Throwable", name := "fillInStackTrace", desc := "()Ljava/lang/Throwable;" } : Jvm.MethodName) ({ cls := "java/lang/Throwable", name := "fillInStackTrace", desc := "()Ljava/lang/Throwable;" } : Jvm.MethodName) ∈ WS := wm 154 (by decide +kernel) (by decide +kernel)
theorem tb_125 : Jvm.Cond.lays "java/lang/IndexOutOfBoundsException" "java/lang/Throwable" "cause" "Ljava/lang/Throwable;" ∈ WS := wm 155 (by decide +kernel) (by decide +kernel)
theorem tb_126 : Jvm.Cond.lays "java/lang/Throwable" "java/lang/Throwable" "cause" "Ljava/lang/Throwable;" ∈ WS := wm 156 (by decide +kernel) (by decide +kernel)
theorem tb_127 : Jvm.Cond.lays "java/lang/IndexOutOfBoundsException" "java/lang/Throwable" "stackTrace" "[Ljava/lang/StackTraceElement;" ∈ WS := wm 157 (by decide +kernel) (by decide +kernel)
theorem tb_128 : Jvm.Cond.lays "java/lang/Throwable" "java/lang/Throwable" "stackTrace" "[Ljava/lang/StackTraceElement;" ∈ WS := wm 158 (by decide +kernel) (by decide +kernel)
theorem tb_129 : Jvm.Cond.lays "java/lang/IndexOutOfBoundsException" "java/lang/Throwable" "suppressedExceptions" "Ljava/util/List;" ∈ WS := wm 159 (by decide +kernel) (by decide +kernel)
theorem tb_130 : Jvm.Cond.lays "java/lang/Throwable" "java/lang/Throwable" "suppressedExceptions" "Ljava/util/List;" ∈ WS := wm 160 (by decide +kernel) (by decide +kernel)
theorem tb_131 : Jvm.Cond.lays "java/lang/IndexOutOfBoundsException" "java/lang/Throwable" "detailMessage" "Ljava/lang/String;" ∈ WS := wm 161 (by decide +kernel) (by decide +kernel)
theorem tb_132 : Jvm.Cond.lays "java/lang/Throwable" "java/lang/Throwable" "detailMessage" "Ljava/lang/String;" ∈ WS := wm 162 (by decide +kernel) (by decide +kernel)
theorem tb_133 : Jvm.Cond.lays "java/lang/IndexOutOfBoundsException" "java/lang/Throwable" "backtrace" "Ljava/lang/Object;" ∈ WS := wm 163 (by decide +kernel) (by decide +kernel)
theorem tb_134 : Jvm.Cond.lays "java/lang/Throwable" "java/lang/Throwable" "backtrace" "Ljava/lang/Object;" ∈ WS := wm 164 (by decide +kernel) (by decide +kernel)
theorem tb_135 : Jvm.Cond.fieldLink "java/lang/Throwable" (198 : Nat) "java/lang/Throwable" "backtrace" "Ljava/lang/Object;" ∈ WS := wm 165 (by decide +kernel) (by decide +kernel)
theorem tb_136 : Jvm.Cond.superclass "java/lang/Throwable" "java/lang/Object" ∈ WS := wm 166 (by decide +kernel) (by decide +kernel)
theorem tb_137 : Jvm.Cond.instanceMethod ({ cls := "java/lang/Throwable", name := "<init>", desc := "()V" } : Jvm.MethodName) ∈ WS := wm 167 (by decide +kernel) (by decide +kernel)
theorem tb_138 : Jvm.Cond.code ({ cls := "java/lang/Throwable", name := "<init>", desc := "()V" } : Jvm.MethodName) prog_19_method_1_code (1 : Nat) (Option.none : Option Jvm.ClassFile.FieldType) ∈ WS := wm 168 (by decide +kernel) (by decide +kernel)
theorem tb_139 : Jvm.Cond.methodLink "java/lang/Throwable" (1 : Nat) ({ cls := "java/lang/Object", name := "<init>", desc := "()V" } : Jvm.MethodName) ∈ WS := wm 169 (by decide +kernel) (by decide +kernel)
theorem tb_140 : Jvm.Cond.fieldLink "java/lang/Throwable" (13 : Nat) "java/lang/Throwable" "UNASSIGNED_STACK" "[Ljava/lang/StackTraceElement;" ∈ WS := wm 170 (by decide +kernel) (by decide +kernel)
theorem tb_142 : Jvm.Cond.fieldLink "java/lang/Throwable" (20 : Nat) "java/lang/Throwable" "SUPPRESSED_SENTINEL" "Ljava/util/List;" ∈ WS := wm 172 (by decide +kernel) (by decide +kernel)
theorem tb_144 : Jvm.Cond.methodLink "java/lang/Throwable" (27 : Nat) ({ cls := "java/lang/Throwable", name := "fillInStackTrace", desc := "()Ljava/lang/Throwable;" } : Jvm.MethodName) ∈ WS := wm 174 (by decide +kernel) (by decide +kernel)
theorem tb_145 : Jvm.Cond.instanceMethod ({ cls := "java/lang/Throwable", name := "fillInStackTrace", desc := "()Ljava/lang/Throwable;" } : Jvm.MethodName) ∈ WS := wm 175 (by decide +kernel) (by decide +kernel)
theorem tb_146 : Jvm.Cond.sameMethod "java/lang/Throwable" "java/lang/Throwable" "fillInStackTrace" "()Ljava/lang/Throwable;" ∈ WS := wm 176 (by decide +kernel) (by decide +kernel)
theorem tb_147 : Jvm.Cond.selects "java/lang/IllegalArgumentException" ({ cls := "java/lang/Throwable", name := "fillInStackTrace", desc := "()Ljava/lang/Throwable;" } : Jvm.MethodName) ({ cls := "java/lang/Throwable", name := "fillInStackTrace", desc := "()Ljava/lang/Throwable;" } : Jvm.MethodName) ∈ WS := wm 177 (by decide +kernel) (by decide +kernel)
theorem tb_148 : Jvm.Cond.selects "java/lang/IllegalStateException" ({ cls := "java/lang/Throwable", name := "fillInStackTrace", desc := "()Ljava/lang/Throwable;" } : Jvm.MethodName) ({ cls := "java/lang/Throwable", name := "fillInStackTrace", desc := "()Ljava/lang/Throwable;" } : Jvm.MethodName) ∈ WS := wm 178 (by decide +kernel) (by decide +kernel)
theorem tb_149 : Jvm.Cond.codeSync ({ cls := "java/lang/Throwable", name := "fillInStackTrace", desc := "()Ljava/lang/Throwable;" } : Jvm.MethodName) prog_19_method_18_code (1 : Nat) (Option.some (Jvm.ClassFile.FieldType.object "java/lang/Throwable")) ∈ WS := wm 179 (by decide +kernel) (by decide +kernel)
theorem tb_150 : Jvm.Cond.methodLink "java/lang/Throwable" (202 : Nat) ({ cls := "java/lang/Throwable", name := "fillInStackTrace", desc := "(I)Ljava/lang/Throwable;" } : Jvm.MethodName) ∈ WS := wm 180 (by decide +kernel) (by decide +kernel)
theorem tb_152 : Jvm.Cond.instanceMethod ({ cls := "java/lang/Throwable", name := "fillInStackTrace", desc := "(I)Ljava/lang/Throwable;" } : Jvm.MethodName) ∈ WS := wm 182 (by decide +kernel) (by decide +kernel)
theorem tb_153 : Jvm.Cond.instantiable "java/lang/Throwable" (6 : Nat) ∈ WS := wm 183 (by decide +kernel) (by decide +kernel)
theorem tb_154 : Jvm.Cond.native ({ cls := "java/lang/Throwable", name := "fillInStackTrace", desc := "(I)Ljava/lang/Throwable;" } : Jvm.MethodName) ∈ WS := wm 184 (by decide +kernel) (by decide +kernel)
theorem tb_156 : Jvm.Cond.methodLink "DialectAtlas" (65 : Nat) ({ cls := "java/lang/IndexOutOfBoundsException", name := "<init>", desc := "(Ljava/lang/String;)V" } : Jvm.MethodName) ∈ WS := wm 186 (by decide +kernel) (by decide +kernel)
theorem tb_157 : Jvm.Cond.instanceMethod ({ cls := "java/lang/IndexOutOfBoundsException", name := "<init>", desc := "(Ljava/lang/String;)V" } : Jvm.MethodName) ∈ WS := wm 187 (by decide +kernel) (by decide +kernel)
theorem tb_158 : Jvm.Cond.code ({ cls := "java/lang/IndexOutOfBoundsException", name := "<init>", desc := "(Ljava/lang/String;)V" } : Jvm.MethodName) prog_12_method_2_code (2 : Nat) (Option.none : Option Jvm.ClassFile.FieldType) ∈ WS := wm 188 (by decide +kernel) (by decide +kernel)
theorem tb_159 : Jvm.Cond.methodLink "java/lang/IndexOutOfBoundsException" (7 : Nat) ({ cls := "java/lang/RuntimeException", name := "<init>", desc := "(Ljava/lang/String;)V" } : Jvm.MethodName) ∈ WS := wm 189 (by decide +kernel) (by decide +kernel)
theorem tb_160 : Jvm.Cond.instanceMethod ({ cls := "java/lang/RuntimeException", name := "<init>", desc := "(Ljava/lang/String;)V" } : Jvm.MethodName) ∈ WS := wm 190 (by decide +kernel) (by decide +kernel)
theorem tb_161 : Jvm.Cond.code ({ cls := "java/lang/RuntimeException", name := "<init>", desc := "(Ljava/lang/String;)V" } : Jvm.MethodName) prog_16_method_2_code (2 : Nat) (Option.none : Option Jvm.ClassFile.FieldType) ∈ WS := wm 191 (by decide +kernel) (by decide +kernel)
theorem tb_162 : Jvm.Cond.methodLink "java/lang/RuntimeException" (7 : Nat) ({ cls := "java/lang/Exception", name := "<init>", desc := "(Ljava/lang/String;)V" } : Jvm.MethodName) ∈ WS := wm 192 (by decide +kernel) (by decide +kernel)
theorem tb_163 : Jvm.Cond.instanceMethod ({ cls := "java/lang/Exception", name := "<init>", desc := "(Ljava/lang/String;)V" } : Jvm.MethodName) ∈ WS := wm 193 (by decide +kernel) (by decide +kernel)
theorem tb_164 : Jvm.Cond.code ({ cls := "java/lang/Exception", name := "<init>", desc := "(Ljava/lang/String;)V" } : Jvm.MethodName) prog_9_method_2_code (2 : Nat) (Option.none : Option Jvm.ClassFile.FieldType) ∈ WS := wm 194 (by decide +kernel) (by decide +kernel)
theorem tb_165 : Jvm.Cond.methodLink "java/lang/Exception" (7 : Nat) ({ cls := "java/lang/Throwable", name := "<init>", desc := "(Ljava/lang/String;)V" } : Jvm.MethodName) ∈ WS := wm 195 (by decide +kernel) (by decide +kernel)
theorem tb_166 : Jvm.Cond.instanceMethod ({ cls := "java/lang/Throwable", name := "<init>", desc := "(Ljava/lang/String;)V" } : Jvm.MethodName) ∈ WS := wm 196 (by decide +kernel) (by decide +kernel)
theorem tb_167 : Jvm.Cond.code ({ cls := "java/lang/Throwable", name := "<init>", desc := "(Ljava/lang/String;)V" } : Jvm.MethodName) prog_19_method_2_code (2 : Nat) (Option.none : Option Jvm.ClassFile.FieldType) ∈ WS := wm 197 (by decide +kernel) (by decide +kernel)
theorem tb_169 : Jvm.Cond.fieldLink "java/lang/Throwable" (31 : Nat) "java/lang/Throwable" "detailMessage" "Ljava/lang/String;" ∈ WS := wm 199 (by decide +kernel) (by decide +kernel)
theorem tb_170 : Jvm.Cond.fieldLink "java/lang/Throwable" (7 : Nat) "java/lang/Throwable" "cause" "Ljava/lang/Throwable;" ∈ WS := wm 200 (by decide +kernel) (by decide +kernel)
theorem tb_171 : Jvm.Cond.fieldLink "java/lang/Throwable" (17 : Nat) "java/lang/Throwable" "stackTrace" "[Ljava/lang/StackTraceElement;" ∈ WS := wm 201 (by decide +kernel) (by decide +kernel)
theorem tb_172 : Jvm.Cond.fieldLink "java/lang/Throwable" (24 : Nat) "java/lang/Throwable" "suppressedExceptions" "Ljava/util/List;" ∈ WS := wm 202 (by decide +kernel) (by decide +kernel)
theorem tb_173 : Jvm.Cond.soleField "java/lang/Throwable" "backtrace" ∈ WS := wm 203 (by decide +kernel) (by decide +kernel)
theorem tb_174 : Jvm.Cond.soleField "java/lang/Throwable" "detailMessage" ∈ WS := wm 204 (by decide +kernel) (by decide +kernel)
theorem tb_175 : Jvm.Cond.soleField "java/lang/Throwable" "cause" ∈ WS := wm 205 (by decide +kernel) (by decide +kernel)
theorem tb_176 : Jvm.Cond.soleField "java/lang/Throwable" "stackTrace" ∈ WS := wm 206 (by decide +kernel) (by decide +kernel)
theorem tb_177 : Jvm.Cond.lays "java/lang/IndexOutOfBoundsException" "java/lang/Throwable" "depth" "I" ∈ WS := wm 207 (by decide +kernel) (by decide +kernel)
theorem tb_178 : Jvm.Cond.soleField "java/lang/Throwable" "depth" ∈ WS := wm 208 (by decide +kernel) (by decide +kernel)
theorem tb_179 : Jvm.Cond.soleField "java/lang/Throwable" "suppressedExceptions" ∈ WS := wm 209 (by decide +kernel) (by decide +kernel)
theorem tb_180 : Jvm.Cond.superclass "java/lang/IndexOutOfBoundsException" "java/lang/RuntimeException" ∈ WS := wm 210 (by decide +kernel) (by decide +kernel)
theorem tb_181 : Jvm.Cond.arrayClass Jvm.ClassFile.FieldType.byte ∈ WS := wm 211 (by decide +kernel) (by decide +kernel)
theorem tb_182 : Jvm.Cond.classLink "DialectAtlas" (68 : Nat) "java/lang/IllegalStateException" ∈ WS := wm 212 (by decide +kernel) (by decide +kernel)
theorem tb_183 : Jvm.Cond.instantiable "java/lang/IllegalStateException" (6 : Nat) ∈ WS := wm 213 (by decide +kernel) (by decide +kernel)
theorem tn_184 : Jvm.Cond.castable "java/lang/IllegalStateException" "java/lang/IllegalStateException" ∈ NGW := nm 214 (by decide +kernel) (by decide +kernel)
theorem tb_185 : Jvm.Cond.selects "java/lang/IllegalStateException" ({ cls := "java/lang/Throwable", name := "fillInStackTrace", desc := "(I)Ljava/lang/Throwable;" } : Jvm.MethodName) ({ cls := "java/lang/Throwable", name := "fillInStackTrace", desc := "(I)Ljava/lang/Throwable;" } : Jvm.MethodName) ∈ WS := wm 215 (by decide +kernel) (by decide +kernel)
theorem tb_186 : Jvm.Cond.lays "java/lang/IllegalStateException" "java/lang/Throwable" "cause" "Ljava/lang/Throwable;" ∈ WS := wm 216 (by decide +kernel) (by decide +kernel)
theorem tb_187 : Jvm.Cond.lays "java/lang/IllegalStateException" "java/lang/Throwable" "stackTrace" "[Ljava/lang/StackTraceElement;" ∈ WS := wm 217 (by decide +kernel) (by decide +kernel)
theorem tb_188 : Jvm.Cond.lays "java/lang/IllegalStateException" "java/lang/Throwable" "suppressedExceptions" "Ljava/util/List;" ∈ WS := wm 218 (by decide +kernel) (by decide +kernel)
theorem tb_189 : Jvm.Cond.lays "java/lang/IllegalStateException" "java/lang/Throwable" "detailMessage" "Ljava/lang/String;" ∈ WS := wm 219 (by decide +kernel) (by decide +kernel)
theorem tb_190 : Jvm.Cond.lays "java/lang/IllegalStateException" "java/lang/Throwable" "backtrace" "Ljava/lang/Object;" ∈ WS := wm 220 (by decide +kernel) (by decide +kernel)
theorem tb_192 : Jvm.Cond.methodLink "DialectAtlas" (72 : Nat) ({ cls := "java/lang/IllegalStateException", name := "<init>", desc := "(Ljava/lang/String;)V" } : Jvm.MethodName) ∈ WS := wm 222 (by decide +kernel) (by decide +kernel)
theorem tb_193 : Jvm.Cond.instanceMethod ({ cls := "java/lang/IllegalStateException", name := "<init>", desc := "(Ljava/lang/String;)V" } : Jvm.MethodName) ∈ WS := wm 223 (by decide +kernel) (by decide +kernel)
theorem tb_194 : Jvm.Cond.code ({ cls := "java/lang/IllegalStateException", name := "<init>", desc := "(Ljava/lang/String;)V" } : Jvm.MethodName) prog_11_method_2_code (2 : Nat) (Option.none : Option Jvm.ClassFile.FieldType) ∈ WS := wm 224 (by decide +kernel) (by decide +kernel)
theorem tb_195 : Jvm.Cond.methodLink "java/lang/IllegalStateException" (7 : Nat) ({ cls := "java/lang/RuntimeException", name := "<init>", desc := "(Ljava/lang/String;)V" } : Jvm.MethodName) ∈ WS := wm 225 (by decide +kernel) (by decide +kernel)
theorem tb_196 : Jvm.Cond.lays "java/lang/IllegalStateException" "java/lang/Throwable" "depth" "I" ∈ WS := wm 226 (by decide +kernel) (by decide +kernel)
theorem tb_197 : Jvm.Cond.superclass "java/lang/IllegalStateException" "java/lang/RuntimeException" ∈ WS := wm 227 (by decide +kernel) (by decide +kernel)
theorem tb_198 : Jvm.Cond.methodLink "DialectAtlasLaw" (89 : Nat) ({ cls := "DialectAtlasLaw", name := "interview", desc := "(LDialectAtlas;IIII[J)I" } : Jvm.MethodName) ∈ WS := wm 228 (by decide +kernel) (by decide +kernel)
theorem tb_199 : Jvm.Cond.static ({ cls := "DialectAtlasLaw", name := "interview", desc := "(LDialectAtlas;IIII[J)I" } : Jvm.MethodName) ∈ WS := wm 229 (by decide +kernel) (by decide +kernel)
theorem tb_200 : Jvm.Cond.codeWith ({ cls := "DialectAtlasLaw", name := "interview", desc := "(LDialectAtlas;IIII[J)I" } : Jvm.MethodName) method_4_code (7 : Nat) (Option.some Jvm.ClassFile.FieldType.int) [((0 : Nat), (14 : Nat), (17 : Nat), (13 : Nat)), ((0 : Nat), (14 : Nat), (21 : Nat), (21 : Nat)), ((0 : Nat), (14 : Nat), (25 : Nat), (15 : Nat))] ∈ WS := wm 230 (by decide +kernel) (by decide +kernel)
theorem tb_201 : Jvm.Cond.classLink "DialectAtlasLaw" (21 : Nat) "java/lang/IllegalArgumentException" ∈ WS := wm 231 (by decide +kernel) (by decide +kernel)
theorem tb_202 : Jvm.Cond.methodLink "DialectAtlasLaw" (17 : Nat) ({ cls := "DialectAtlas", name := "interview", desc := "(IIII)I" } : Jvm.MethodName) ∈ WS := wm 232 (by decide +kernel) (by decide +kernel)
theorem tb_203 : Jvm.Cond.instanceMethod ({ cls := "DialectAtlas", name := "interview", desc := "(IIII)I" } : Jvm.MethodName) ∈ WS := wm 233 (by decide +kernel) (by decide +kernel)
theorem tb_204 : Jvm.Cond.selects "DialectAtlas" ({ cls := "DialectAtlas", name := "interview", desc := "(IIII)I" } : Jvm.MethodName) ({ cls := "DialectAtlas", name := "interview", desc := "(IIII)I" } : Jvm.MethodName) ∈ WS := wm 234 (by decide +kernel) (by decide +kernel)
theorem tb_205 : Jvm.Cond.code ({ cls := "DialectAtlas", name := "interview", desc := "(IIII)I" } : Jvm.MethodName) prog_1_method_3_code (8 : Nat) (Option.some Jvm.ClassFile.FieldType.int) ∈ WS := wm 235 (by decide +kernel) (by decide +kernel)
theorem tb_207 : Jvm.Cond.classLink "DialectAtlas" (75 : Nat) "java/lang/IllegalArgumentException" ∈ WS := wm 237 (by decide +kernel) (by decide +kernel)
theorem tb_208 : Jvm.Cond.instantiable "java/lang/IllegalArgumentException" (6 : Nat) ∈ WS := wm 238 (by decide +kernel) (by decide +kernel)
theorem tn_209 : Jvm.Cond.castable "java/lang/IllegalArgumentException" "java/lang/IllegalArgumentException" ∈ NGW := nm 239 (by decide +kernel) (by decide +kernel)
theorem tb_210 : Jvm.Cond.selects "java/lang/IllegalArgumentException" ({ cls := "java/lang/Throwable", name := "fillInStackTrace", desc := "(I)Ljava/lang/Throwable;" } : Jvm.MethodName) ({ cls := "java/lang/Throwable", name := "fillInStackTrace", desc := "(I)Ljava/lang/Throwable;" } : Jvm.MethodName) ∈ WS := wm 240 (by decide +kernel) (by decide +kernel)
theorem tb_211 : Jvm.Cond.lays "java/lang/IllegalArgumentException" "java/lang/Throwable" "cause" "Ljava/lang/Throwable;" ∈ WS := wm 241 (by decide +kernel) (by decide +kernel)
theorem tb_212 : Jvm.Cond.lays "java/lang/IllegalArgumentException" "java/lang/Throwable" "stackTrace" "[Ljava/lang/StackTraceElement;" ∈ WS := wm 242 (by decide +kernel) (by decide +kernel)
theorem tb_213 : Jvm.Cond.lays "java/lang/IllegalArgumentException" "java/lang/Throwable" "suppressedExceptions" "Ljava/util/List;" ∈ WS := wm 243 (by decide +kernel) (by decide +kernel)
theorem tb_214 : Jvm.Cond.lays "java/lang/IllegalArgumentException" "java/lang/Throwable" "detailMessage" "Ljava/lang/String;" ∈ WS := wm 244 (by decide +kernel) (by decide +kernel)
theorem tb_215 : Jvm.Cond.lays "java/lang/IllegalArgumentException" "java/lang/Throwable" "backtrace" "Ljava/lang/Object;" ∈ WS := wm 245 (by decide +kernel) (by decide +kernel)
theorem tb_217 : Jvm.Cond.methodLink "DialectAtlas" (79 : Nat) ({ cls := "java/lang/IllegalArgumentException", name := "<init>", desc := "(Ljava/lang/String;)V" } : Jvm.MethodName) ∈ WS := wm 247 (by decide +kernel) (by decide +kernel)
theorem tb_218 : Jvm.Cond.instanceMethod ({ cls := "java/lang/IllegalArgumentException", name := "<init>", desc := "(Ljava/lang/String;)V" } : Jvm.MethodName) ∈ WS := wm 248 (by decide +kernel) (by decide +kernel)
theorem tb_219 : Jvm.Cond.code ({ cls := "java/lang/IllegalArgumentException", name := "<init>", desc := "(Ljava/lang/String;)V" } : Jvm.MethodName) prog_10_method_2_code (2 : Nat) (Option.none : Option Jvm.ClassFile.FieldType) ∈ WS := wm 249 (by decide +kernel) (by decide +kernel)
theorem tb_220 : Jvm.Cond.methodLink "java/lang/IllegalArgumentException" (7 : Nat) ({ cls := "java/lang/RuntimeException", name := "<init>", desc := "(Ljava/lang/String;)V" } : Jvm.MethodName) ∈ WS := wm 250 (by decide +kernel) (by decide +kernel)
theorem tb_221 : Jvm.Cond.lays "java/lang/IllegalArgumentException" "java/lang/Throwable" "depth" "I" ∈ WS := wm 251 (by decide +kernel) (by decide +kernel)
theorem tb_222 : Jvm.Cond.superclass "java/lang/IllegalArgumentException" "java/lang/RuntimeException" ∈ WS := wm 252 (by decide +kernel) (by decide +kernel)
theorem tb_223 : Jvm.Cond.methodLink "DialectAtlas" (80 : Nat) ({ cls := "java/util/ArrayList", name := "size", desc := "()I" } : Jvm.MethodName) ∈ WS := wm 253 (by decide +kernel) (by decide +kernel)
theorem tb_224 : Jvm.Cond.instanceMethod ({ cls := "java/util/ArrayList", name := "size", desc := "()I" } : Jvm.MethodName) ∈ WS := wm 254 (by decide +kernel) (by decide +kernel)
theorem tb_225 : Jvm.Cond.selects "java/util/ArrayList" ({ cls := "java/util/ArrayList", name := "size", desc := "()I" } : Jvm.MethodName) ({ cls := "java/util/ArrayList", name := "size", desc := "()I" } : Jvm.MethodName) ∈ WS := wm 255 (by decide +kernel) (by decide +kernel)
theorem tb_226 : Jvm.Cond.code ({ cls := "java/util/ArrayList", name := "size", desc := "()I" } : Jvm.MethodName) prog_22_method_8_code (1 : Nat) (Option.some Jvm.ClassFile.FieldType.int) ∈ WS := wm 256 (by decide +kernel) (by decide +kernel)
theorem tb_228 : Jvm.Cond.classLink "DialectAtlas" (86 : Nat) "DialectAtlas$Interview" ∈ WS := wm 258 (by decide +kernel) (by decide +kernel)
theorem tb_229 : Jvm.Cond.instantiable "DialectAtlas$Interview" (6 : Nat) ∈ WS := wm 259 (by decide +kernel) (by decide +kernel)
theorem tb_230 : Jvm.Cond.methodLink "DialectAtlas" (88 : Nat) ({ cls := "DialectAtlas", name := "takeDraft", desc := "()I" } : Jvm.MethodName) ∈ WS := wm 260 (by decide +kernel) (by decide +kernel)
theorem tb_232 : Jvm.Cond.instanceMethod ({ cls := "DialectAtlas", name := "takeDraft", desc := "()I" } : Jvm.MethodName) ∈ WS := wm 262 (by decide +kernel) (by decide +kernel)
theorem tb_233 : Jvm.Cond.code ({ cls := "DialectAtlas", name := "takeDraft", desc := "()I" } : Jvm.MethodName) prog_1_method_22_code (2 : Nat) (Option.some Jvm.ClassFile.FieldType.int) ∈ WS := wm 263 (by decide +kernel) (by decide +kernel)
theorem tn_234 : Jvm.Cond.methodLinkNest "DialectAtlas" (91 : Nat) ({ cls := "DialectAtlas$Interview", name := "<init>", desc := "(JIIIII)V" } : Jvm.MethodName) "DialectAtlas" ∈ NGW := nm 264 (by decide +kernel) (by decide +kernel)
theorem tb_235 : Jvm.Cond.instanceMethod ({ cls := "DialectAtlas$Interview", name := "<init>", desc := "(JIIIII)V" } : Jvm.MethodName) ∈ WS := wm 265 (by decide +kernel) (by decide +kernel)
theorem tb_236 : Jvm.Cond.code ({ cls := "DialectAtlas$Interview", name := "<init>", desc := "(JIIIII)V" } : Jvm.MethodName) prog_2_method_1_code (8 : Nat) (Option.none : Option Jvm.ClassFile.FieldType) ∈ WS := wm 266 (by decide +kernel) (by decide +kernel)
theorem tb_237 : Jvm.Cond.methodLink "DialectAtlas$Interview" (1 : Nat) ({ cls := "java/lang/Object", name := "<init>", desc := "()V" } : Jvm.MethodName) ∈ WS := wm 267 (by decide +kernel) (by decide +kernel)
theorem tb_238 : Jvm.Cond.fieldLink "DialectAtlas$Interview" (7 : Nat) "DialectAtlas$Interview" "bit" "J" ∈ WS := wm 268 (by decide +kernel) (by decide +kernel)
theorem tn_239 : Jvm.Cond.fieldLinkNest "DialectAtlas$Rule" (38 : Nat) "DialectAtlas$Interview" "bit" "J" "DialectAtlas" ∈ NGW := nm 269 (by decide +kernel) (by decide +kernel)
theorem tn_240 : Jvm.Cond.fieldLinkNest "DialectAtlas" (151 : Nat) "DialectAtlas$Interview" "bit" "J" "DialectAtlas" ∈ NGW := nm 270 (by decide +kernel) (by decide +kernel)
theorem tb_241 : Jvm.Cond.fieldLink "DialectAtlas$Interview" (13 : Nat) "DialectAtlas$Interview" "informant" "I" ∈ WS := wm 271 (by decide +kernel) (by decide +kernel)
theorem tn_242 : Jvm.Cond.fieldLinkNest "DialectAtlas" (205 : Nat) "DialectAtlas$Interview" "informant" "I" "DialectAtlas" ∈ NGW := nm 272 (by decide +kernel) (by decide +kernel)
theorem tb_243 : Jvm.Cond.fieldLink "DialectAtlas$Interview" (17 : Nat) "DialectAtlas$Interview" "place" "I" ∈ WS := wm 273 (by decide +kernel) (by decide +kernel)
theorem tn_244 : Jvm.Cond.fieldLinkNest "DialectAtlas" (174 : Nat) "DialectAtlas$Interview" "place" "I" "DialectAtlas" ∈ NGW := nm 274 (by decide +kernel) (by decide +kernel)
theorem tb_245 : Jvm.Cond.fieldLink "DialectAtlas$Interview" (20 : Nat) "DialectAtlas$Interview" "year" "I" ∈ WS := wm 275 (by decide +kernel) (by decide +kernel)
theorem tn_246 : Jvm.Cond.fieldLinkNest "DialectAtlas" (177 : Nat) "DialectAtlas$Interview" "year" "I" "DialectAtlas" ∈ NGW := nm 276 (by decide +kernel) (by decide +kernel)
theorem tb_247 : Jvm.Cond.fieldLink "DialectAtlas$Interview" (23 : Nat) "DialectAtlas$Interview" "word" "I" ∈ WS := wm 277 (by decide +kernel) (by decide +kernel)
theorem tn_248 : Jvm.Cond.fieldLinkNest "DialectAtlas" (168 : Nat) "DialectAtlas$Interview" "word" "I" "DialectAtlas" ∈ NGW := nm 278 (by decide +kernel) (by decide +kernel)
theorem tb_249 : Jvm.Cond.fieldLink "DialectAtlas$Interview" (26 : Nat) "DialectAtlas$Interview" "form" "I" ∈ WS := wm 279 (by decide +kernel) (by decide +kernel)
theorem tn_250 : Jvm.Cond.fieldLinkNest "DialectAtlas" (171 : Nat) "DialectAtlas$Interview" "form" "I" "DialectAtlas" ∈ NGW := nm 280 (by decide +kernel) (by decide +kernel)
theorem tb_251 : Jvm.Cond.laysFinal "DialectAtlas$Interview" "DialectAtlas$Interview" "bit" "J" ∈ WS := wm 281 (by decide +kernel) (by decide +kernel)
theorem tb_252 : Jvm.Cond.soleField "DialectAtlas$Interview" "bit" ∈ WS := wm 282 (by decide +kernel) (by decide +kernel)
theorem tb_253 : Jvm.Cond.laysFinal "DialectAtlas$Interview" "DialectAtlas$Interview" "informant" "I" ∈ WS := wm 283 (by decide +kernel) (by decide +kernel)
theorem tb_254 : Jvm.Cond.soleField "DialectAtlas$Interview" "informant" ∈ WS := wm 284 (by decide +kernel) (by decide +kernel)
theorem tb_255 : Jvm.Cond.laysFinal "DialectAtlas$Interview" "DialectAtlas$Interview" "place" "I" ∈ WS := wm 285 (by decide +kernel) (by decide +kernel)
theorem tb_256 : Jvm.Cond.soleField "DialectAtlas$Interview" "place" ∈ WS := wm 286 (by decide +kernel) (by decide +kernel)
theorem tb_257 : Jvm.Cond.laysFinal "DialectAtlas$Interview" "DialectAtlas$Interview" "year" "I" ∈ WS := wm 287 (by decide +kernel) (by decide +kernel)
theorem tb_258 : Jvm.Cond.soleField "DialectAtlas$Interview" "year" ∈ WS := wm 288 (by decide +kernel) (by decide +kernel)
theorem tb_259 : Jvm.Cond.laysFinal "DialectAtlas$Interview" "DialectAtlas$Interview" "word" "I" ∈ WS := wm 289 (by decide +kernel) (by decide +kernel)
theorem tb_260 : Jvm.Cond.soleField "DialectAtlas$Interview" "word" ∈ WS := wm 290 (by decide +kernel) (by decide +kernel)
theorem tb_261 : Jvm.Cond.laysFinal "DialectAtlas$Interview" "DialectAtlas$Interview" "form" "I" ∈ WS := wm 291 (by decide +kernel) (by decide +kernel)
theorem tb_262 : Jvm.Cond.soleField "DialectAtlas$Interview" "form" ∈ WS := wm 292 (by decide +kernel) (by decide +kernel)
theorem tb_263 : Jvm.Cond.superclass "DialectAtlas$Interview" "java/lang/Object" ∈ WS := wm 293 (by decide +kernel) (by decide +kernel)
theorem tb_264 : Jvm.Cond.methodLink "DialectAtlas" (94 : Nat) ({ cls := "java/util/ArrayList", name := "add", desc := "(Ljava/lang/Object;)Z" } : Jvm.MethodName) ∈ WS := wm 294 (by decide +kernel) (by decide +kernel)
theorem tb_265 : Jvm.Cond.instanceMethod ({ cls := "java/util/ArrayList", name := "add", desc := "(Ljava/lang/Object;)Z" } : Jvm.MethodName) ∈ WS := wm 295 (by decide +kernel) (by decide +kernel)
theorem tb_266 : Jvm.Cond.selects "java/util/ArrayList" ({ cls := "java/util/ArrayList", name := "add", desc := "(Ljava/lang/Object;)Z" } : Jvm.MethodName) ({ cls := "java/util/ArrayList", name := "add", desc := "(Ljava/lang/Object;)Z" } : Jvm.MethodName) ∈ WS := wm 296 (by decide +kernel) (by decide +kernel)
theorem tb_267 : Jvm.Cond.code ({ cls := "java/util/ArrayList", name := "add", desc := "(Ljava/lang/Object;)Z" } : Jvm.MethodName) prog_22_method_25_code (2 : Nat) (Option.some Jvm.ClassFile.FieldType.boolean) ∈ WS := wm 297 (by decide +kernel) (by decide +kernel)
theorem tb_268 : Jvm.Cond.methodLink "java/util/ArrayList" (131 : Nat) ({ cls := "java/util/ArrayList", name := "add", desc := "(Ljava/lang/Object;[Ljava/lang/Object;I)V" } : Jvm.MethodName) ∈ WS := wm 298 (by decide +kernel) (by decide +kernel)
theorem tb_270 : Jvm.Cond.instanceMethod ({ cls := "java/util/ArrayList", name := "add", desc := "(Ljava/lang/Object;[Ljava/lang/Object;I)V" } : Jvm.MethodName) ∈ WS := wm 300 (by decide +kernel) (by decide +kernel)
theorem tb_271 : Jvm.Cond.code ({ cls := "java/util/ArrayList", name := "add", desc := "(Ljava/lang/Object;[Ljava/lang/Object;I)V" } : Jvm.MethodName) prog_22_method_24_code (4 : Nat) (Option.none : Option Jvm.ClassFile.FieldType) ∈ WS := wm 301 (by decide +kernel) (by decide +kernel)
theorem tb_272 : Jvm.Cond.methodLink "java/util/ArrayList" (129 : Nat) ({ cls := "java/util/ArrayList", name := "grow", desc := "()[Ljava/lang/Object;" } : Jvm.MethodName) ∈ WS := wm 302 (by decide +kernel) (by decide +kernel)
theorem tb_274 : Jvm.Cond.instanceMethod ({ cls := "java/util/ArrayList", name := "grow", desc := "()[Ljava/lang/Object;" } : Jvm.MethodName) ∈ WS := wm 304 (by decide +kernel) (by decide +kernel)
theorem tb_275 : Jvm.Cond.code ({ cls := "java/util/ArrayList", name := "grow", desc := "()[Ljava/lang/Object;" } : Jvm.MethodName) prog_22_method_7_code (1 : Nat) (Option.some (Jvm.ClassFile.FieldType.array (Jvm.ClassFile.FieldType.object "java/lang/Object"))) ∈ WS := wm 305 (by decide +kernel) (by decide +kernel)
theorem tb_276 : Jvm.Cond.methodLink "java/util/ArrayList" (69 : Nat) ({ cls := "java/util/ArrayList", name := "grow", desc := "(I)[Ljava/lang/Object;" } : Jvm.MethodName) ∈ WS := wm 306 (by decide +kernel) (by decide +kernel)
theorem tb_278 : Jvm.Cond.instanceMethod ({ cls := "java/util/ArrayList", name := "grow", desc := "(I)[Ljava/lang/Object;" } : Jvm.MethodName) ∈ WS := wm 308 (by decide +kernel) (by decide +kernel)
theorem tb_279 : Jvm.Cond.code ({ cls := "java/util/ArrayList", name := "grow", desc := "(I)[Ljava/lang/Object;" } : Jvm.MethodName) prog_22_method_6_code (4 : Nat) (Option.some (Jvm.ClassFile.FieldType.array (Jvm.ClassFile.FieldType.object "java/lang/Object"))) ∈ WS := wm 309 (by decide +kernel) (by decide +kernel)
theorem tb_280 : Jvm.Cond.methodLink "java/util/ArrayList" (73 : Nat) ({ cls := "jdk/internal/util/ArraysSupport", name := "newLength", desc := "(III)I" } : Jvm.MethodName) ∈ WS := wm 310 (by decide +kernel) (by decide +kernel)
theorem tb_281 : Jvm.Cond.static ({ cls := "jdk/internal/util/ArraysSupport", name := "newLength", desc := "(III)I" } : Jvm.MethodName) ∈ WS := wm 311 (by decide +kernel) (by decide +kernel)
theorem tb_282 : Jvm.Cond.code ({ cls := "jdk/internal/util/ArraysSupport", name := "newLength", desc := "(III)I" } : Jvm.MethodName) prog_29_method_27_code (4 : Nat) (Option.some Jvm.ClassFile.FieldType.int) ∈ WS := wm 312 (by decide +kernel) (by decide +kernel)
theorem tb_283 : Jvm.Cond.methodLink "jdk/internal/util/ArraysSupport" (194 : Nat) ({ cls := "java/lang/Math", name := "max", desc := "(II)I" } : Jvm.MethodName) ∈ WS := wm 313 (by decide +kernel) (by decide +kernel)
theorem tb_284 : Jvm.Cond.static ({ cls := "java/lang/Math", name := "max", desc := "(II)I" } : Jvm.MethodName) ∈ WS := wm 314 (by decide +kernel) (by decide +kernel)
theorem tb_285 : Jvm.Cond.code ({ cls := "java/lang/Math", name := "max", desc := "(II)I" } : Jvm.MethodName) prog_15_method_65_code (2 : Nat) (Option.some Jvm.ClassFile.FieldType.int) ∈ WS := wm 315 (by decide +kernel) (by decide +kernel)
theorem tb_286 : Jvm.Cond.constant "jdk/internal/util/ArraysSupport" (200 : Nat) (2147483639 : Int32) ∈ WS := wm 316 (by decide +kernel) (by decide +kernel)
theorem tb_287 : Jvm.Cond.methodLink "jdk/internal/util/ArraysSupport" (201 : Nat) ({ cls := "jdk/internal/util/ArraysSupport", name := "hugeLength", desc := "(II)I" } : Jvm.MethodName) ∈ WS := wm 317 (by decide +kernel) (by decide +kernel)
theorem tb_288 : Jvm.Cond.static ({ cls := "jdk/internal/util/ArraysSupport", name := "hugeLength", desc := "(II)I" } : Jvm.MethodName) ∈ WS := wm 318 (by decide +kernel) (by decide +kernel)
theorem tb_289 : Jvm.Cond.code ({ cls := "jdk/internal/util/ArraysSupport", name := "hugeLength", desc := "(II)I" } : Jvm.MethodName) prog_29_method_28_code (3 : Nat) (Option.some Jvm.ClassFile.FieldType.int) ∈ WS := wm 319 (by decide +kernel) (by decide +kernel)
theorem tb_290 : Jvm.Cond.methodLink "java/util/ArrayList" (66 : Nat) ({ cls := "java/util/Arrays", name := "copyOf", desc := "([Ljava/lang/Object;I)[Ljava/lang/Object;" } : Jvm.MethodName) ∈ WS := wm 320 (by decide +kernel) (by decide +kernel)
theorem tb_291 : Jvm.Cond.static ({ cls := "java/util/Arrays", name := "copyOf", desc := "([Ljava/lang/Object;I)[Ljava/lang/Object;" } : Jvm.MethodName) ∈ WS := wm 321 (by decide +kernel) (by decide +kernel)
theorem tb_292 : Jvm.Cond.code ({ cls := "java/util/Arrays", name := "copyOf", desc := "([Ljava/lang/Object;I)[Ljava/lang/Object;" } : Jvm.MethodName) prog_23_method_119_code (2 : Nat) (Option.some (Jvm.ClassFile.FieldType.array (Jvm.ClassFile.FieldType.object "java/lang/Object"))) ∈ WS := wm 322 (by decide +kernel) (by decide +kernel)
theorem tb_293 : Jvm.Cond.methodLink "java/util/Arrays" (86 : Nat) ({ cls := "java/lang/Object", name := "getClass", desc := "()Ljava/lang/Class;" } : Jvm.MethodName) ∈ WS := wm 323 (by decide +kernel) (by decide +kernel)
theorem tb_294 : Jvm.Cond.instanceMethod ({ cls := "java/lang/Object", name := "getClass", desc := "()Ljava/lang/Class;" } : Jvm.MethodName) ∈ WS := wm 324 (by decide +kernel) (by decide +kernel)
theorem tb_295 : Jvm.Cond.sameMethod "java/lang/Object" "java/lang/Object" "getClass" "()Ljava/lang/Class;" ∈ WS := wm 325 (by decide +kernel) (by decide +kernel)
theorem tb_296 : Jvm.Cond.selects "DialectAtlas" ({ cls := "java/lang/Object", name := "getClass", desc := "()Ljava/lang/Class;" } : Jvm.MethodName) ({ cls := "java/lang/Object", name := "getClass", desc := "()Ljava/lang/Class;" } : Jvm.MethodName) ∈ WS := wm 326 (by decide +kernel) (by decide +kernel)
theorem tb_297 : Jvm.Cond.selects "DialectAtlas$Interview" ({ cls := "java/lang/Object", name := "getClass", desc := "()Ljava/lang/Class;" } : Jvm.MethodName) ({ cls := "java/lang/Object", name := "getClass", desc := "()Ljava/lang/Class;" } : Jvm.MethodName) ∈ WS := wm 327 (by decide +kernel) (by decide +kernel)
theorem tb_298 : Jvm.Cond.selects "DialectAtlas$Rule" ({ cls := "java/lang/Object", name := "getClass", desc := "()Ljava/lang/Class;" } : Jvm.MethodName) ({ cls := "java/lang/Object", name := "getClass", desc := "()Ljava/lang/Class;" } : Jvm.MethodName) ∈ WS := wm 328 (by decide +kernel) (by decide +kernel)
theorem tb_299 : Jvm.Cond.selects "DialectAtlas$StepCounter" ({ cls := "java/lang/Object", name := "getClass", desc := "()Ljava/lang/Class;" } : Jvm.MethodName) ({ cls := "java/lang/Object", name := "getClass", desc := "()Ljava/lang/Class;" } : Jvm.MethodName) ∈ WS := wm 329 (by decide +kernel) (by decide +kernel)
theorem tb_300 : Jvm.Cond.selects "DialectAtlasModel" ({ cls := "java/lang/Object", name := "getClass", desc := "()Ljava/lang/Class;" } : Jvm.MethodName) ({ cls := "java/lang/Object", name := "getClass", desc := "()Ljava/lang/Class;" } : Jvm.MethodName) ∈ WS := wm 330 (by decide +kernel) (by decide +kernel)
theorem tb_301 : Jvm.Cond.selects "java/lang/IllegalArgumentException" ({ cls := "java/lang/Object", name := "getClass", desc := "()Ljava/lang/Class;" } : Jvm.MethodName) ({ cls := "java/lang/Object", name := "getClass", desc := "()Ljava/lang/Class;" } : Jvm.MethodName) ∈ WS := wm 331 (by decide +kernel) (by decide +kernel)
theorem tb_302 : Jvm.Cond.selects "java/lang/IllegalStateException" ({ cls := "java/lang/Object", name := "getClass", desc := "()Ljava/lang/Class;" } : Jvm.MethodName) ({ cls := "java/lang/Object", name := "getClass", desc := "()Ljava/lang/Class;" } : Jvm.MethodName) ∈ WS := wm 332 (by decide +kernel) (by decide +kernel)
theorem tb_303 : Jvm.Cond.selects "java/lang/IndexOutOfBoundsException" ({ cls := "java/lang/Object", name := "getClass", desc := "()Ljava/lang/Class;" } : Jvm.MethodName) ({ cls := "java/lang/Object", name := "getClass", desc := "()Ljava/lang/Class;" } : Jvm.MethodName) ∈ WS := wm 333 (by decide +kernel) (by decide +kernel)
theorem tb_304 : Jvm.Cond.selects "java/util/ArrayList" ({ cls := "java/lang/Object", name := "getClass", desc := "()Ljava/lang/Class;" } : Jvm.MethodName) ({ cls := "java/lang/Object", name := "getClass", desc := "()Ljava/lang/Class;" } : Jvm.MethodName) ∈ WS := wm 334 (by decide +kernel) (by decide +kernel)
theorem tb_305 : Jvm.Cond.native ({ cls := "java/lang/Object", name := "getClass", desc := "()Ljava/lang/Class;" } : Jvm.MethodName) ∈ WS := wm 335 (by decide +kernel) (by decide +kernel)
theorem tb_306 : Jvm.Cond.methodLink "java/util/Arrays" (300 : Nat) ({ cls := "java/util/Arrays", name := "copyOf", desc := "([Ljava/lang/Object;ILjava/lang/Class;)[Ljava/lang/Object;" } : Jvm.MethodName) ∈ WS := wm 336 (by decide +kernel) (by decide +kernel)
theorem tb_307 : Jvm.Cond.static ({ cls := "java/util/Arrays", name := "copyOf", desc := "([Ljava/lang/Object;ILjava/lang/Class;)[Ljava/lang/Object;" } : Jvm.MethodName) ∈ WS := wm 337 (by decide +kernel) (by decide +kernel)
theorem tb_308 : Jvm.Cond.code ({ cls := "java/util/Arrays", name := "copyOf", desc := "([Ljava/lang/Object;ILjava/lang/Class;)[Ljava/lang/Object;" } : Jvm.MethodName) prog_23_method_120_code (4 : Nat) (Option.some (Jvm.ClassFile.FieldType.array (Jvm.ClassFile.FieldType.object "java/lang/Object"))) ∈ WS := wm 338 (by decide +kernel) (by decide +kernel)
theorem tb_309 : Jvm.Cond.classLink "java/util/Arrays" (110 : Nat) "[Ljava/lang/Object;" ∈ WS := wm 339 (by decide +kernel) (by decide +kernel)
theorem tb_311 : Jvm.Cond.classLink "java/util/Arrays" (2 : Nat) "java/lang/Object" ∈ WS := wm 341 (by decide +kernel) (by decide +kernel)
theorem tb_312 : Jvm.Cond.methodLink "java/util/Arrays" (304 : Nat) ({ cls := "java/lang/Math", name := "min", desc := "(II)I" } : Jvm.MethodName) ∈ WS := wm 342 (by decide +kernel) (by decide +kernel)
theorem tb_313 : Jvm.Cond.static ({ cls := "java/lang/Math", name := "min", desc := "(II)I" } : Jvm.MethodName) ∈ WS := wm 343 (by decide +kernel) (by decide +kernel)
theorem tb_314 : Jvm.Cond.code ({ cls := "java/lang/Math", name := "min", desc := "(II)I" } : Jvm.MethodName) prog_15_method_69_code (2 : Nat) (Option.some Jvm.ClassFile.FieldType.int) ∈ WS := wm 344 (by decide +kernel) (by decide +kernel)
theorem tb_315 : Jvm.Cond.methodLink "java/util/Arrays" (150 : Nat) ({ cls := "java/lang/System", name := "arraycopy", desc := "(Ljava/lang/Object;ILjava/lang/Object;II)V" } : Jvm.MethodName) ∈ WS := wm 345 (by decide +kernel) (by decide +kernel)
theorem tb_316 : Jvm.Cond.static ({ cls := "java/lang/System", name := "arraycopy", desc := "(Ljava/lang/Object;ILjava/lang/Object;II)V" } : Jvm.MethodName) ∈ WS := wm 346 (by decide +kernel) (by decide +kernel)
theorem tb_317 : Jvm.Cond.native ({ cls := "java/lang/System", name := "arraycopy", desc := "(Ljava/lang/Object;ILjava/lang/Object;II)V" } : Jvm.MethodName) ∈ WS := wm 347 (by decide +kernel) (by decide +kernel)
theorem tb_318 : Jvm.Cond.methodLink "java/util/ArrayList" (79 : Nat) ({ cls := "java/lang/Math", name := "max", desc := "(II)I" } : Jvm.MethodName) ∈ WS := wm 348 (by decide +kernel) (by decide +kernel)
theorem tb_319 : Jvm.Cond.classLink "java/util/ArrayList" (7 : Nat) "java/lang/Object" ∈ WS := wm 349 (by decide +kernel) (by decide +kernel)
theorem tb_320 : Jvm.Cond.methodLink "DialectAtlas" (98 : Nat) ({ cls := "DialectAtlas", name := "drawLines", desc := "(I)I" } : Jvm.MethodName) ∈ WS := wm 350 (by decide +kernel) (by decide +kernel)
theorem tb_322 : Jvm.Cond.instanceMethod ({ cls := "DialectAtlas", name := "drawLines", desc := "(I)I" } : Jvm.MethodName) ∈ WS := wm 352 (by decide +kernel) (by decide +kernel)
theorem tb_323 : Jvm.Cond.code ({ cls := "DialectAtlas", name := "drawLines", desc := "(I)I" } : Jvm.MethodName) prog_1_method_29_code (6 : Nat) (Option.some Jvm.ClassFile.FieldType.int) ∈ WS := wm 353 (by decide +kernel) (by decide +kernel)
theorem tb_324 : Jvm.Cond.methodLink "DialectAtlas" (184 : Nat) ({ cls := "DialectAtlas", name := "mostToldForm", desc := "(II)I" } : Jvm.MethodName) ∈ WS := wm 354 (by decide +kernel) (by decide +kernel)
theorem tb_326 : Jvm.Cond.instanceMethod ({ cls := "DialectAtlas", name := "mostToldForm", desc := "(II)I" } : Jvm.MethodName) ∈ WS := wm 356 (by decide +kernel) (by decide +kernel)
theorem tb_327 : Jvm.Cond.code ({ cls := "DialectAtlas", name := "mostToldForm", desc := "(II)I" } : Jvm.MethodName) prog_1_method_27_code (8 : Nat) (Option.some Jvm.ClassFile.FieldType.int) ∈ WS := wm 357 (by decide +kernel) (by decide +kernel)
theorem tb_328 : Jvm.Cond.methodLink "DialectAtlas" (108 : Nat) ({ cls := "java/util/ArrayList", name := "get", desc := "(I)Ljava/lang/Object;" } : Jvm.MethodName) ∈ WS := wm 358 (by decide +kernel) (by decide +kernel)
theorem tb_329 : Jvm.Cond.instanceMethod ({ cls := "java/util/ArrayList", name := "get", desc := "(I)Ljava/lang/Object;" } : Jvm.MethodName) ∈ WS := wm 359 (by decide +kernel) (by decide +kernel)
theorem tb_330 : Jvm.Cond.selects "java/util/ArrayList" ({ cls := "java/util/ArrayList", name := "get", desc := "(I)Ljava/lang/Object;" } : Jvm.MethodName) ({ cls := "java/util/ArrayList", name := "get", desc := "(I)Ljava/lang/Object;" } : Jvm.MethodName) ∈ WS := wm 360 (by decide +kernel) (by decide +kernel)
theorem tb_331 : Jvm.Cond.code ({ cls := "java/util/ArrayList", name := "get", desc := "(I)Ljava/lang/Object;" } : Jvm.MethodName) prog_22_method_20_code (2 : Nat) (Option.some (Jvm.ClassFile.FieldType.object "java/lang/Object")) ∈ WS := wm 361 (by decide +kernel) (by decide +kernel)
theorem tb_332 : Jvm.Cond.methodLink "java/util/ArrayList" (118 : Nat) ({ cls := "java/util/Objects", name := "checkIndex", desc := "(II)I" } : Jvm.MethodName) ∈ WS := wm 362 (by decide +kernel) (by decide +kernel)
theorem tb_333 : Jvm.Cond.static ({ cls := "java/util/Objects", name := "checkIndex", desc := "(II)I" } : Jvm.MethodName) ∈ WS := wm 363 (by decide +kernel) (by decide +kernel)
theorem tb_334 : Jvm.Cond.code ({ cls := "java/util/Objects", name := "checkIndex", desc := "(II)I" } : Jvm.MethodName) prog_26_method_17_code (2 : Nat) (Option.some Jvm.ClassFile.FieldType.int) ∈ WS := wm 364 (by decide +kernel) (by decide +kernel)
theorem tb_335 : Jvm.Cond.methodLink "java/util/Objects" (105 : Nat) ({ cls := "jdk/internal/util/Preconditions", name := "checkIndex", desc := "(IILjava/util/function/BiFunction;)I" } : Jvm.MethodName) ∈ WS := wm 365 (by decide +kernel) (by decide +kernel)
theorem tb_336 : Jvm.Cond.static ({ cls := "jdk/internal/util/Preconditions", name := "checkIndex", desc := "(IILjava/util/function/BiFunction;)I" } : Jvm.MethodName) ∈ WS := wm 366 (by decide +kernel) (by decide +kernel)
theorem tb_337 : Jvm.Cond.code ({ cls := "jdk/internal/util/Preconditions", name := "checkIndex", desc := "(IILjava/util/function/BiFunction;)I" } : Jvm.MethodName) prog_30_method_11_code (3 : Nat) (Option.some Jvm.ClassFile.FieldType.int) ∈ WS := wm 367 (by decide +kernel) (by decide +kernel)
theorem tb_338 : Jvm.Cond.methodLink "java/util/ArrayList" (123 : Nat) ({ cls := "java/util/ArrayList", name := "elementData", desc := "(I)Ljava/lang/Object;" } : Jvm.MethodName) ∈ WS := wm 368 (by decide +kernel) (by decide +kernel)
theorem tb_339 : Jvm.Cond.instanceMethod ({ cls := "java/util/ArrayList", name := "elementData", desc := "(I)Ljava/lang/Object;" } : Jvm.MethodName) ∈ WS := wm 369 (by decide +kernel) (by decide +kernel)
theorem tb_340 : Jvm.Cond.selects "java/util/ArrayList" ({ cls := "java/util/ArrayList", name := "elementData", desc := "(I)Ljava/lang/Object;" } : Jvm.MethodName) ({ cls := "java/util/ArrayList", name := "elementData", desc := "(I)Ljava/lang/Object;" } : Jvm.MethodName) ∈ WS := wm 370 (by decide +kernel) (by decide +kernel)
theorem tb_341 : Jvm.Cond.code ({ cls := "java/util/ArrayList", name := "elementData", desc := "(I)Ljava/lang/Object;" } : Jvm.MethodName) prog_22_method_18_code (2 : Nat) (Option.some (Jvm.ClassFile.FieldType.object "java/lang/Object")) ∈ WS := wm 371 (by decide +kernel) (by decide +kernel)
theorem tb_342 : Jvm.Cond.methodLink "DialectAtlas" (139 : Nat) ({ cls := "DialectAtlas", name := "isThere", desc := "(LDialectAtlas$Interview;)Z" } : Jvm.MethodName) ∈ WS := wm 372 (by decide +kernel) (by decide +kernel)
theorem tb_344 : Jvm.Cond.instanceMethod ({ cls := "DialectAtlas", name := "isThere", desc := "(LDialectAtlas$Interview;)Z" } : Jvm.MethodName) ∈ WS := wm 374 (by decide +kernel) (by decide +kernel)
theorem tb_345 : Jvm.Cond.code ({ cls := "DialectAtlas", name := "isThere", desc := "(LDialectAtlas$Interview;)Z" } : Jvm.MethodName) prog_1_method_23_code (2 : Nat) (Option.some Jvm.ClassFile.FieldType.boolean) ∈ WS := wm 375 (by decide +kernel) (by decide +kernel)
theorem tn_346 : Jvm.Cond.methodLinkNest "DialectAtlas" (214 : Nat) ({ cls := "DialectAtlas$Interview", name := "isFor", desc := "(II)Z" } : Jvm.MethodName) "DialectAtlas" ∈ NGW := nm 376 (by decide +kernel) (by decide +kernel)
theorem tb_348 : Jvm.Cond.instanceMethod ({ cls := "DialectAtlas$Interview", name := "isFor", desc := "(II)Z" } : Jvm.MethodName) ∈ WS := wm 378 (by decide +kernel) (by decide +kernel)
theorem tb_349 : Jvm.Cond.code ({ cls := "DialectAtlas$Interview", name := "isFor", desc := "(II)Z" } : Jvm.MethodName) prog_2_method_2_code (3 : Nat) (Option.some Jvm.ClassFile.FieldType.boolean) ∈ WS := wm 379 (by decide +kernel) (by decide +kernel)
theorem tb_350 : Jvm.Cond.methodLink "DialectAtlas" (217 : Nat) ({ cls := "DialectAtlas", name := "countLike", desc := "(LDialectAtlas$Interview;)I" } : Jvm.MethodName) ∈ WS := wm 380 (by decide +kernel) (by decide +kernel)
theorem tb_352 : Jvm.Cond.instanceMethod ({ cls := "DialectAtlas", name := "countLike", desc := "(LDialectAtlas$Interview;)I" } : Jvm.MethodName) ∈ WS := wm 382 (by decide +kernel) (by decide +kernel)
theorem tb_353 : Jvm.Cond.code ({ cls := "DialectAtlas", name := "countLike", desc := "(LDialectAtlas$Interview;)I" } : Jvm.MethodName) prog_1_method_28_code (5 : Nat) (Option.some Jvm.ClassFile.FieldType.int) ∈ WS := wm 383 (by decide +kernel) (by decide +kernel)
theorem tb_354 : Jvm.Cond.methodLink "DialectAtlasLaw" (93 : Nat) ({ cls := "DialectAtlasLaw", name := "setRoot", desc := "(LDialectAtlas;I[J)I" } : Jvm.MethodName) ∈ WS := wm 384 (by decide +kernel) (by decide +kernel)
theorem tb_355 : Jvm.Cond.static ({ cls := "DialectAtlasLaw", name := "setRoot", desc := "(LDialectAtlas;I[J)I" } : Jvm.MethodName) ∈ WS := wm 385 (by decide +kernel) (by decide +kernel)
theorem tb_356 : Jvm.Cond.codeWith ({ cls := "DialectAtlasLaw", name := "setRoot", desc := "(LDialectAtlas;I[J)I" } : Jvm.MethodName) method_5_code (4 : Nat) (Option.some Jvm.ClassFile.FieldType.int) [((0 : Nat), (9 : Nat), (12 : Nat), (13 : Nat)), ((0 : Nat), (9 : Nat), (15 : Nat), (15 : Nat))] ∈ WS := wm 386 (by decide +kernel) (by decide +kernel)
theorem tb_357 : Jvm.Cond.methodLink "DialectAtlasLaw" (23 : Nat) ({ cls := "DialectAtlas", name := "setRoot", desc := "(I)I" } : Jvm.MethodName) ∈ WS := wm 387 (by decide +kernel) (by decide +kernel)
theorem tb_358 : Jvm.Cond.instanceMethod ({ cls := "DialectAtlas", name := "setRoot", desc := "(I)I" } : Jvm.MethodName) ∈ WS := wm 388 (by decide +kernel) (by decide +kernel)
theorem tb_359 : Jvm.Cond.selects "DialectAtlas" ({ cls := "DialectAtlas", name := "setRoot", desc := "(I)I" } : Jvm.MethodName) ({ cls := "DialectAtlas", name := "setRoot", desc := "(I)I" } : Jvm.MethodName) ∈ WS := wm 389 (by decide +kernel) (by decide +kernel)
theorem tb_360 : Jvm.Cond.code ({ cls := "DialectAtlas", name := "setRoot", desc := "(I)I" } : Jvm.MethodName) prog_1_method_4_code (3 : Nat) (Option.some Jvm.ClassFile.FieldType.int) ∈ WS := wm 390 (by decide +kernel) (by decide +kernel)
theorem tb_363 : Jvm.Cond.methodLink "DialectAtlasLaw" (96 : Nat) ({ cls := "DialectAtlasLaw", name := "form", desc := "(LDialectAtlas;I[J)I" } : Jvm.MethodName) ∈ WS := wm 393 (by decide +kernel) (by decide +kernel)
theorem tb_364 : Jvm.Cond.static ({ cls := "DialectAtlasLaw", name := "form", desc := "(LDialectAtlas;I[J)I" } : Jvm.MethodName) ∈ WS := wm 394 (by decide +kernel) (by decide +kernel)
theorem tb_365 : Jvm.Cond.codeWith ({ cls := "DialectAtlasLaw", name := "form", desc := "(LDialectAtlas;I[J)I" } : Jvm.MethodName) method_6_code (4 : Nat) (Option.some Jvm.ClassFile.FieldType.int) [((0 : Nat), (9 : Nat), (12 : Nat), (13 : Nat))] ∈ WS := wm 395 (by decide +kernel) (by decide +kernel)
theorem tb_366 : Jvm.Cond.methodLink "DialectAtlasLaw" (26 : Nat) ({ cls := "DialectAtlas", name := "form", desc := "(I)I" } : Jvm.MethodName) ∈ WS := wm 396 (by decide +kernel) (by decide +kernel)
theorem tb_367 : Jvm.Cond.instanceMethod ({ cls := "DialectAtlas", name := "form", desc := "(I)I" } : Jvm.MethodName) ∈ WS := wm 397 (by decide +kernel) (by decide +kernel)
theorem tb_368 : Jvm.Cond.selects "DialectAtlas" ({ cls := "DialectAtlas", name := "form", desc := "(I)I" } : Jvm.MethodName) ({ cls := "DialectAtlas", name := "form", desc := "(I)I" } : Jvm.MethodName) ∈ WS := wm 398 (by decide +kernel) (by decide +kernel)
theorem tb_369 : Jvm.Cond.code ({ cls := "DialectAtlas", name := "form", desc := "(I)I" } : Jvm.MethodName) prog_1_method_5_code (2 : Nat) (Option.some Jvm.ClassFile.FieldType.int) ∈ WS := wm 399 (by decide +kernel) (by decide +kernel)
theorem tb_371 : Jvm.Cond.methodLink "DialectAtlas" (112 : Nat) ({ cls := "DialectAtlas", name := "formIfThere", desc := "(LDialectAtlas$Interview;)I" } : Jvm.MethodName) ∈ WS := wm 401 (by decide +kernel) (by decide +kernel)
theorem tb_373 : Jvm.Cond.instanceMethod ({ cls := "DialectAtlas", name := "formIfThere", desc := "(LDialectAtlas$Interview;)I" } : Jvm.MethodName) ∈ WS := wm 403 (by decide +kernel) (by decide +kernel)
theorem tb_374 : Jvm.Cond.code ({ cls := "DialectAtlas", name := "formIfThere", desc := "(LDialectAtlas$Interview;)I" } : Jvm.MethodName) prog_1_method_24_code (2 : Nat) (Option.some Jvm.ClassFile.FieldType.int) ∈ WS := wm 404 (by decide +kernel) (by decide +kernel)
theorem tb_375 : Jvm.Cond.methodLink "DialectAtlasLaw" (99 : Nat) ({ cls := "DialectAtlasLaw", name := "rule", desc := "(LDialectAtlas;IIIIII[J)I" } : Jvm.MethodName) ∈ WS := wm 405 (by decide +kernel) (by decide +kernel)
theorem tb_376 : Jvm.Cond.static ({ cls := "DialectAtlasLaw", name := "rule", desc := "(LDialectAtlas;IIIIII[J)I" } : Jvm.MethodName) ∈ WS := wm 406 (by decide +kernel) (by decide +kernel)
theorem tb_377 : Jvm.Cond.codeWith ({ cls := "DialectAtlasLaw", name := "rule", desc := "(LDialectAtlas;IIIIII[J)I" } : Jvm.MethodName) method_7_code (9 : Nat) (Option.some Jvm.ClassFile.FieldType.int) [((0 : Nat), (18 : Nat), (21 : Nat), (13 : Nat)), ((0 : Nat), (18 : Nat), (25 : Nat), (21 : Nat)), ((0 : Nat), (18 : Nat), (29 : Nat), (15 : Nat))] ∈ WS := wm 407 (by decide +kernel) (by decide +kernel)
theorem tb_378 : Jvm.Cond.methodLink "DialectAtlasLaw" (29 : Nat) ({ cls := "DialectAtlas", name := "rule", desc := "(IIIIII)I" } : Jvm.MethodName) ∈ WS := wm 408 (by decide +kernel) (by decide +kernel)
theorem tb_379 : Jvm.Cond.instanceMethod ({ cls := "DialectAtlas", name := "rule", desc := "(IIIIII)I" } : Jvm.MethodName) ∈ WS := wm 409 (by decide +kernel) (by decide +kernel)
theorem tb_380 : Jvm.Cond.selects "DialectAtlas" ({ cls := "DialectAtlas", name := "rule", desc := "(IIIIII)I" } : Jvm.MethodName) ({ cls := "DialectAtlas", name := "rule", desc := "(IIIIII)I" } : Jvm.MethodName) ∈ WS := wm 410 (by decide +kernel) (by decide +kernel)
theorem tb_381 : Jvm.Cond.code ({ cls := "DialectAtlas", name := "rule", desc := "(IIIIII)I" } : Jvm.MethodName) prog_1_method_6_code (8 : Nat) (Option.some Jvm.ClassFile.FieldType.int) ∈ WS := wm 411 (by decide +kernel) (by decide +kernel)
theorem tb_383 : Jvm.Cond.methodLink "DialectAtlas" (118 : Nat) ({ cls := "DialectAtlas", name := "canStandBehind", desc := "(I)Z" } : Jvm.MethodName) ∈ WS := wm 413 (by decide +kernel) (by decide +kernel)
theorem tb_384 : Jvm.Cond.static ({ cls := "DialectAtlas", name := "canStandBehind", desc := "(I)Z" } : Jvm.MethodName) ∈ WS := wm 414 (by decide +kernel) (by decide +kernel)
theorem tb_385 : Jvm.Cond.code ({ cls := "DialectAtlas", name := "canStandBehind", desc := "(I)Z" } : Jvm.MethodName) prog_1_method_21_code (1 : Nat) (Option.some Jvm.ClassFile.FieldType.boolean) ∈ WS := wm 415 (by decide +kernel) (by decide +kernel)
theorem tb_389 : Jvm.Cond.classLink "DialectAtlas" (128 : Nat) "DialectAtlas$Rule" ∈ WS := wm 419 (by decide +kernel) (by decide +kernel)
theorem tb_390 : Jvm.Cond.instantiable "DialectAtlas$Rule" (8 : Nat) ∈ WS := wm 420 (by decide +kernel) (by decide +kernel)
theorem tn_391 : Jvm.Cond.methodLinkNest "DialectAtlas" (130 : Nat) ({ cls := "DialectAtlas$Rule", name := "<init>", desc := "(IIIIII)V" } : Jvm.MethodName) "DialectAtlas" ∈ NGW := nm 421 (by decide +kernel) (by decide +kernel)
theorem tb_392 : Jvm.Cond.instanceMethod ({ cls := "DialectAtlas$Rule", name := "<init>", desc := "(IIIIII)V" } : Jvm.MethodName) ∈ WS := wm 422 (by decide +kernel) (by decide +kernel)
theorem tb_393 : Jvm.Cond.code ({ cls := "DialectAtlas$Rule", name := "<init>", desc := "(IIIIII)V" } : Jvm.MethodName) prog_3_method_1_code (7 : Nat) (Option.none : Option Jvm.ClassFile.FieldType) ∈ WS := wm 423 (by decide +kernel) (by decide +kernel)
theorem tb_394 : Jvm.Cond.methodLink "DialectAtlas$Rule" (3 : Nat) ({ cls := "java/lang/Object", name := "<init>", desc := "()V" } : Jvm.MethodName) ∈ WS := wm 424 (by decide +kernel) (by decide +kernel)
theorem tb_395 : Jvm.Cond.fieldLink "DialectAtlas$Rule" (19 : Nat) "DialectAtlas$Rule" "sound" "I" ∈ WS := wm 425 (by decide +kernel) (by decide +kernel)
theorem tb_396 : Jvm.Cond.fieldLink "DialectAtlas$Rule" (23 : Nat) "DialectAtlas$Rule" "to" "I" ∈ WS := wm 426 (by decide +kernel) (by decide +kernel)
theorem tb_397 : Jvm.Cond.fieldLink "DialectAtlas$Rule" (26 : Nat) "DialectAtlas$Rule" "behind" "I" ∈ WS := wm 427 (by decide +kernel) (by decide +kernel)
theorem tb_398 : Jvm.Cond.fieldLink "DialectAtlas$Rule" (29 : Nat) "DialectAtlas$Rule" "first" "I" ∈ WS := wm 428 (by decide +kernel) (by decide +kernel)
theorem tb_399 : Jvm.Cond.fieldLink "DialectAtlas$Rule" (32 : Nat) "DialectAtlas$Rule" "last" "I" ∈ WS := wm 429 (by decide +kernel) (by decide +kernel)
theorem tb_400 : Jvm.Cond.fieldLink "DialectAtlas$Rule" (35 : Nat) "DialectAtlas$Rule" "year" "I" ∈ WS := wm 430 (by decide +kernel) (by decide +kernel)
theorem tb_401 : Jvm.Cond.fieldLink "DialectAtlas$Rule" (9 : Nat) "DialectAtlas$Rule" "grounds" "J" ∈ WS := wm 431 (by decide +kernel) (by decide +kernel)
theorem tn_402 : Jvm.Cond.fieldLinkNest "DialectAtlas" (148 : Nat) "DialectAtlas$Rule" "grounds" "J" "DialectAtlas" ∈ NGW := nm 432 (by decide +kernel) (by decide +kernel)
theorem tb_403 : Jvm.Cond.fieldLink "DialectAtlas$Rule" (15 : Nat) "DialectAtlas$Rule" "fallen" "Z" ∈ WS := wm 433 (by decide +kernel) (by decide +kernel)
theorem tn_404 : Jvm.Cond.fieldLinkNest "DialectAtlas" (135 : Nat) "DialectAtlas$Rule" "fallen" "Z" "DialectAtlas" ∈ NGW := nm 434 (by decide +kernel) (by decide +kernel)
theorem tb_405 : Jvm.Cond.laysFinal "DialectAtlas$Rule" "DialectAtlas$Rule" "sound" "I" ∈ WS := wm 435 (by decide +kernel) (by decide +kernel)
theorem tb_406 : Jvm.Cond.soleField "DialectAtlas$Rule" "sound" ∈ WS := wm 436 (by decide +kernel) (by decide +kernel)
theorem tb_407 : Jvm.Cond.laysFinal "DialectAtlas$Rule" "DialectAtlas$Rule" "to" "I" ∈ WS := wm 437 (by decide +kernel) (by decide +kernel)
theorem tb_408 : Jvm.Cond.soleField "DialectAtlas$Rule" "to" ∈ WS := wm 438 (by decide +kernel) (by decide +kernel)
theorem tb_409 : Jvm.Cond.laysFinal "DialectAtlas$Rule" "DialectAtlas$Rule" "behind" "I" ∈ WS := wm 439 (by decide +kernel) (by decide +kernel)
theorem tb_410 : Jvm.Cond.soleField "DialectAtlas$Rule" "behind" ∈ WS := wm 440 (by decide +kernel) (by decide +kernel)
theorem tb_411 : Jvm.Cond.laysFinal "DialectAtlas$Rule" "DialectAtlas$Rule" "first" "I" ∈ WS := wm 441 (by decide +kernel) (by decide +kernel)
theorem tb_412 : Jvm.Cond.soleField "DialectAtlas$Rule" "first" ∈ WS := wm 442 (by decide +kernel) (by decide +kernel)
theorem tb_413 : Jvm.Cond.laysFinal "DialectAtlas$Rule" "DialectAtlas$Rule" "last" "I" ∈ WS := wm 443 (by decide +kernel) (by decide +kernel)
theorem tb_414 : Jvm.Cond.soleField "DialectAtlas$Rule" "last" ∈ WS := wm 444 (by decide +kernel) (by decide +kernel)
theorem tb_415 : Jvm.Cond.laysFinal "DialectAtlas$Rule" "DialectAtlas$Rule" "year" "I" ∈ WS := wm 445 (by decide +kernel) (by decide +kernel)
theorem tb_416 : Jvm.Cond.soleField "DialectAtlas$Rule" "year" ∈ WS := wm 446 (by decide +kernel) (by decide +kernel)
theorem tb_417 : Jvm.Cond.lays "DialectAtlas$Rule" "DialectAtlas$Rule" "grounds" "J" ∈ WS := wm 447 (by decide +kernel) (by decide +kernel)
theorem tb_418 : Jvm.Cond.soleField "DialectAtlas$Rule" "grounds" ∈ WS := wm 448 (by decide +kernel) (by decide +kernel)
theorem tb_419 : Jvm.Cond.lays "DialectAtlas$Rule" "DialectAtlas$Rule" "fallen" "Z" ∈ WS := wm 449 (by decide +kernel) (by decide +kernel)
theorem tb_420 : Jvm.Cond.soleField "DialectAtlas$Rule" "fallen" ∈ WS := wm 450 (by decide +kernel) (by decide +kernel)
theorem tb_421 : Jvm.Cond.superclass "DialectAtlas$Rule" "java/lang/Object" ∈ WS := wm 451 (by decide +kernel) (by decide +kernel)
theorem tb_422 : Jvm.Cond.methodLink "DialectAtlasLaw" (103 : Nat) ({ cls := "DialectAtlasLaw", name := "rest", desc := "(LDialectAtlas;II[J)I" } : Jvm.MethodName) ∈ WS := wm 452 (by decide +kernel) (by decide +kernel)
theorem tb_423 : Jvm.Cond.static ({ cls := "DialectAtlasLaw", name := "rest", desc := "(LDialectAtlas;II[J)I" } : Jvm.MethodName) ∈ WS := wm 453 (by decide +kernel) (by decide +kernel)
theorem tb_424 : Jvm.Cond.codeWith ({ cls := "DialectAtlasLaw", name := "rest", desc := "(LDialectAtlas;II[J)I" } : Jvm.MethodName) method_8_code (5 : Nat) (Option.some Jvm.ClassFile.FieldType.int) [((0 : Nat), (10 : Nat), (13 : Nat), (13 : Nat)), ((0 : Nat), (10 : Nat), (17 : Nat), (15 : Nat))] ∈ WS := wm 454 (by decide +kernel) (by decide +kernel)
theorem tb_425 : Jvm.Cond.methodLink "DialectAtlasLaw" (33 : Nat) ({ cls := "DialectAtlas", name := "rest", desc := "(II)I" } : Jvm.MethodName) ∈ WS := wm 455 (by decide +kernel) (by decide +kernel)
theorem tb_426 : Jvm.Cond.instanceMethod ({ cls := "DialectAtlas", name := "rest", desc := "(II)I" } : Jvm.MethodName) ∈ WS := wm 456 (by decide +kernel) (by decide +kernel)
theorem tb_427 : Jvm.Cond.selects "DialectAtlas" ({ cls := "DialectAtlas", name := "rest", desc := "(II)I" } : Jvm.MethodName) ({ cls := "DialectAtlas", name := "rest", desc := "(II)I" } : Jvm.MethodName) ∈ WS := wm 457 (by decide +kernel) (by decide +kernel)
theorem tb_428 : Jvm.Cond.code ({ cls := "DialectAtlas", name := "rest", desc := "(II)I" } : Jvm.MethodName) prog_1_method_7_code (5 : Nat) (Option.some Jvm.ClassFile.FieldType.int) ∈ WS := wm 458 (by decide +kernel) (by decide +kernel)
theorem tn_430 : Jvm.Cond.methodLinkNest "DialectAtlas" (143 : Nat) ({ cls := "DialectAtlas$Rule", name := "restsOn", desc := "(LDialectAtlas$Interview;)Z" } : Jvm.MethodName) "DialectAtlas" ∈ NGW := nm 460 (by decide +kernel) (by decide +kernel)
theorem tb_432 : Jvm.Cond.instanceMethod ({ cls := "DialectAtlas$Rule", name := "restsOn", desc := "(LDialectAtlas$Interview;)Z" } : Jvm.MethodName) ∈ WS := wm 462 (by decide +kernel) (by decide +kernel)
theorem tb_433 : Jvm.Cond.code ({ cls := "DialectAtlas$Rule", name := "restsOn", desc := "(LDialectAtlas$Interview;)Z" } : Jvm.MethodName) prog_3_method_2_code (2 : Nat) (Option.some Jvm.ClassFile.FieldType.boolean) ∈ WS := wm 463 (by decide +kernel) (by decide +kernel)
theorem tb_435 : Jvm.Cond.methodLink "DialectAtlas" (154 : Nat) ({ cls := "java/lang/Long", name := "bitCount", desc := "(J)I" } : Jvm.MethodName) ∈ WS := wm 465 (by decide +kernel) (by decide +kernel)
theorem tb_436 : Jvm.Cond.static ({ cls := "java/lang/Long", name := "bitCount", desc := "(J)I" } : Jvm.MethodName) ∈ WS := wm 466 (by decide +kernel) (by decide +kernel)
theorem tb_437 : Jvm.Cond.code ({ cls := "java/lang/Long", name := "bitCount", desc := "(J)I" } : Jvm.MethodName) prog_14_method_50_code (2 : Nat) (Option.some Jvm.ClassFile.FieldType.int) ∈ WS := wm 467 (by decide +kernel) (by decide +kernel)
theorem tb_438 : Jvm.Cond.constantLong "java/lang/Long" (314 : Nat) (6148914691236517205 : Int64) ∈ WS := wm 468 (by decide +kernel) (by decide +kernel)
theorem tb_439 : Jvm.Cond.constantLong "java/lang/Long" (316 : Nat) (3689348814741910323 : Int64) ∈ WS := wm 469 (by decide +kernel) (by decide +kernel)
theorem tb_440 : Jvm.Cond.constantLong "java/lang/Long" (318 : Nat) (1085102592571150095 : Int64) ∈ WS := wm 470 (by decide +kernel) (by decide +kernel)
theorem tb_441 : Jvm.Cond.methodLink "DialectAtlasLaw" (107 : Nat) ({ cls := "DialectAtlasLaw", name := "stands", desc := "(LDialectAtlas;I[J)I" } : Jvm.MethodName) ∈ WS := wm 471 (by decide +kernel) (by decide +kernel)
theorem tb_442 : Jvm.Cond.static ({ cls := "DialectAtlasLaw", name := "stands", desc := "(LDialectAtlas;I[J)I" } : Jvm.MethodName) ∈ WS := wm 472 (by decide +kernel) (by decide +kernel)
theorem tb_443 : Jvm.Cond.codeWith ({ cls := "DialectAtlasLaw", name := "stands", desc := "(LDialectAtlas;I[J)I" } : Jvm.MethodName) method_9_code (4 : Nat) (Option.some Jvm.ClassFile.FieldType.int) [((0 : Nat), (16 : Nat), (19 : Nat), (13 : Nat))] ∈ WS := wm 473 (by decide +kernel) (by decide +kernel)
theorem tb_444 : Jvm.Cond.methodLink "DialectAtlasLaw" (37 : Nat) ({ cls := "DialectAtlas", name := "stands", desc := "(I)Z" } : Jvm.MethodName) ∈ WS := wm 474 (by decide +kernel) (by decide +kernel)
theorem tb_445 : Jvm.Cond.instanceMethod ({ cls := "DialectAtlas", name := "stands", desc := "(I)Z" } : Jvm.MethodName) ∈ WS := wm 475 (by decide +kernel) (by decide +kernel)
theorem tb_446 : Jvm.Cond.selects "DialectAtlas" ({ cls := "DialectAtlas", name := "stands", desc := "(I)Z" } : Jvm.MethodName) ({ cls := "DialectAtlas", name := "stands", desc := "(I)Z" } : Jvm.MethodName) ∈ WS := wm 476 (by decide +kernel) (by decide +kernel)
theorem tb_447 : Jvm.Cond.code ({ cls := "DialectAtlas", name := "stands", desc := "(I)Z" } : Jvm.MethodName) prog_1_method_8_code (2 : Nat) (Option.some Jvm.ClassFile.FieldType.boolean) ∈ WS := wm 477 (by decide +kernel) (by decide +kernel)
theorem tb_449 : Jvm.Cond.methodLink "DialectAtlasLaw" (110 : Nat) ({ cls := "DialectAtlasLaw", name := "expected", desc := "(LDialectAtlas;III[J)I" } : Jvm.MethodName) ∈ WS := wm 479 (by decide +kernel) (by decide +kernel)
theorem tb_450 : Jvm.Cond.static ({ cls := "DialectAtlasLaw", name := "expected", desc := "(LDialectAtlas;III[J)I" } : Jvm.MethodName) ∈ WS := wm 480 (by decide +kernel) (by decide +kernel)
theorem tb_451 : Jvm.Cond.codeWith ({ cls := "DialectAtlasLaw", name := "expected", desc := "(LDialectAtlas;III[J)I" } : Jvm.MethodName) method_10_code (6 : Nat) (Option.some Jvm.ClassFile.FieldType.int) [((0 : Nat), (12 : Nat), (15 : Nat), (13 : Nat)), ((0 : Nat), (12 : Nat), (19 : Nat), (21 : Nat))] ∈ WS := wm 481 (by decide +kernel) (by decide +kernel)
theorem tb_452 : Jvm.Cond.methodLink "DialectAtlasLaw" (41 : Nat) ({ cls := "DialectAtlas", name := "expected", desc := "(III)I" } : Jvm.MethodName) ∈ WS := wm 482 (by decide +kernel) (by decide +kernel)
theorem tb_453 : Jvm.Cond.instanceMethod ({ cls := "DialectAtlas", name := "expected", desc := "(III)I" } : Jvm.MethodName) ∈ WS := wm 483 (by decide +kernel) (by decide +kernel)
theorem tb_454 : Jvm.Cond.selects "DialectAtlas" ({ cls := "DialectAtlas", name := "expected", desc := "(III)I" } : Jvm.MethodName) ({ cls := "DialectAtlas", name := "expected", desc := "(III)I" } : Jvm.MethodName) ∈ WS := wm 484 (by decide +kernel) (by decide +kernel)
theorem tb_455 : Jvm.Cond.code ({ cls := "DialectAtlas", name := "expected", desc := "(III)I" } : Jvm.MethodName) prog_1_method_9_code (4 : Nat) (Option.some Jvm.ClassFile.FieldType.int) ∈ WS := wm 485 (by decide +kernel) (by decide +kernel)
theorem tb_457 : Jvm.Cond.methodLink "DialectAtlas" (164 : Nat) ({ cls := "DialectAtlas", name := "applyRules", desc := "(III)I" } : Jvm.MethodName) ∈ WS := wm 487 (by decide +kernel) (by decide +kernel)
theorem tb_459 : Jvm.Cond.instanceMethod ({ cls := "DialectAtlas", name := "applyRules", desc := "(III)I" } : Jvm.MethodName) ∈ WS := wm 489 (by decide +kernel) (by decide +kernel)
theorem tb_460 : Jvm.Cond.code ({ cls := "DialectAtlas", name := "applyRules", desc := "(III)I" } : Jvm.MethodName) prog_1_method_26_code (7 : Nat) (Option.some Jvm.ClassFile.FieldType.int) ∈ WS := wm 490 (by decide +kernel) (by decide +kernel)
theorem tn_461 : Jvm.Cond.methodLinkNest "DialectAtlas" (208 : Nat) ({ cls := "DialectAtlas$Rule", name := "goesAt", desc := "(II)Z" } : Jvm.MethodName) "DialectAtlas" ∈ NGW := nm 491 (by decide +kernel) (by decide +kernel)
theorem tb_463 : Jvm.Cond.instanceMethod ({ cls := "DialectAtlas$Rule", name := "goesAt", desc := "(II)Z" } : Jvm.MethodName) ∈ WS := wm 493 (by decide +kernel) (by decide +kernel)
theorem tb_464 : Jvm.Cond.code ({ cls := "DialectAtlas$Rule", name := "goesAt", desc := "(II)Z" } : Jvm.MethodName) prog_3_method_4_code (3 : Nat) (Option.some Jvm.ClassFile.FieldType.boolean) ∈ WS := wm 494 (by decide +kernel) (by decide +kernel)
theorem tn_465 : Jvm.Cond.methodLinkNest "DialectAtlas" (211 : Nat) ({ cls := "DialectAtlas$Rule", name := "applyTo", desc := "(I)I" } : Jvm.MethodName) "DialectAtlas" ∈ NGW := nm 495 (by decide +kernel) (by decide +kernel)
theorem tb_467 : Jvm.Cond.instanceMethod ({ cls := "DialectAtlas$Rule", name := "applyTo", desc := "(I)I" } : Jvm.MethodName) ∈ WS := wm 497 (by decide +kernel) (by decide +kernel)
theorem tb_468 : Jvm.Cond.code ({ cls := "DialectAtlas$Rule", name := "applyTo", desc := "(I)I" } : Jvm.MethodName) prog_3_method_6_code (9 : Nat) (Option.some Jvm.ClassFile.FieldType.int) ∈ WS := wm 498 (by decide +kernel) (by decide +kernel)
theorem tb_469 : Jvm.Cond.methodLink "DialectAtlas$Rule" (45 : Nat) ({ cls := "DialectAtlas$Rule", name := "changes", desc := "(II)Z" } : Jvm.MethodName) ∈ WS := wm 499 (by decide +kernel) (by decide +kernel)
theorem tb_471 : Jvm.Cond.instanceMethod ({ cls := "DialectAtlas$Rule", name := "changes", desc := "(II)Z" } : Jvm.MethodName) ∈ WS := wm 501 (by decide +kernel) (by decide +kernel)
theorem tb_472 : Jvm.Cond.code ({ cls := "DialectAtlas$Rule", name := "changes", desc := "(II)Z" } : Jvm.MethodName) prog_3_method_5_code (3 : Nat) (Option.some Jvm.ClassFile.FieldType.boolean) ∈ WS := wm 502 (by decide +kernel) (by decide +kernel)
theorem tb_473 : Jvm.Cond.methodLink "DialectAtlasLaw" (114 : Nat) ({ cls := "DialectAtlasLaw", name := "far", desc := "(LDialectAtlas;I[J)I" } : Jvm.MethodName) ∈ WS := wm 503 (by decide +kernel) (by decide +kernel)
theorem tb_474 : Jvm.Cond.static ({ cls := "DialectAtlasLaw", name := "far", desc := "(LDialectAtlas;I[J)I" } : Jvm.MethodName) ∈ WS := wm 504 (by decide +kernel) (by decide +kernel)
theorem tb_475 : Jvm.Cond.codeWith ({ cls := "DialectAtlasLaw", name := "far", desc := "(LDialectAtlas;I[J)I" } : Jvm.MethodName) method_11_code (4 : Nat) (Option.some Jvm.ClassFile.FieldType.int) [((0 : Nat), (9 : Nat), (12 : Nat), (13 : Nat))] ∈ WS := wm 505 (by decide +kernel) (by decide +kernel)
theorem tb_476 : Jvm.Cond.methodLink "DialectAtlasLaw" (45 : Nat) ({ cls := "DialectAtlas", name := "far", desc := "(I)I" } : Jvm.MethodName) ∈ WS := wm 506 (by decide +kernel) (by decide +kernel)
theorem tb_477 : Jvm.Cond.instanceMethod ({ cls := "DialectAtlas", name := "far", desc := "(I)I" } : Jvm.MethodName) ∈ WS := wm 507 (by decide +kernel) (by decide +kernel)
theorem tb_478 : Jvm.Cond.selects "DialectAtlas" ({ cls := "DialectAtlas", name := "far", desc := "(I)I" } : Jvm.MethodName) ({ cls := "DialectAtlas", name := "far", desc := "(I)I" } : Jvm.MethodName) ∈ WS := wm 508 (by decide +kernel) (by decide +kernel)
theorem tb_479 : Jvm.Cond.code ({ cls := "DialectAtlas", name := "far", desc := "(I)I" } : Jvm.MethodName) prog_1_method_10_code (4 : Nat) (Option.some Jvm.ClassFile.FieldType.int) ∈ WS := wm 509 (by decide +kernel) (by decide +kernel)
theorem tn_480 : Jvm.Cond.methodLinkNest "DialectAtlas" (180 : Nat) ({ cls := "DialectAtlas$StepCounter", name := "countSteps", desc := "(II)I" } : Jvm.MethodName) "DialectAtlas" ∈ NGW := nm 510 (by decide +kernel) (by decide +kernel)
theorem tb_482 : Jvm.Cond.instanceMethod ({ cls := "DialectAtlas$StepCounter", name := "countSteps", desc := "(II)I" } : Jvm.MethodName) ∈ WS := wm 512 (by decide +kernel) (by decide +kernel)
theorem tb_483 : Jvm.Cond.code ({ cls := "DialectAtlas$StepCounter", name := "countSteps", desc := "(II)I" } : Jvm.MethodName) prog_4_method_2_code (6 : Nat) (Option.some Jvm.ClassFile.FieldType.int) ∈ WS := wm 513 (by decide +kernel) (by decide +kernel)
theorem tb_484 : Jvm.Cond.methodLink "DialectAtlas$StepCounter" (15 : Nat) ({ cls := "DialectAtlas$StepCounter", name := "goThrough", desc := "(II)I" } : Jvm.MethodName) ∈ WS := wm 514 (by decide +kernel) (by decide +kernel)
theorem tb_486 : Jvm.Cond.instanceMethod ({ cls := "DialectAtlas$StepCounter", name := "goThrough", desc := "(II)I" } : Jvm.MethodName) ∈ WS := wm 516 (by decide +kernel) (by decide +kernel)
theorem tb_487 : Jvm.Cond.code ({ cls := "DialectAtlas$StepCounter", name := "goThrough", desc := "(II)I" } : Jvm.MethodName) prog_4_method_3_code (8 : Nat) (Option.some Jvm.ClassFile.FieldType.int) ∈ WS := wm 517 (by decide +kernel) (by decide +kernel)
theorem tb_488 : Jvm.Cond.methodLink "DialectAtlas$StepCounter" (19 : Nat) ({ cls := "java/lang/Math", name := "min", desc := "(II)I" } : Jvm.MethodName) ∈ WS := wm 518 (by decide +kernel) (by decide +kernel)
theorem tb_489 : Jvm.Cond.methodLink "DialectAtlasLaw" (117 : Nat) ({ cls := "DialectAtlasLaw", name := "formAt", desc := "(LDialectAtlas;II[J)I" } : Jvm.MethodName) ∈ WS := wm 519 (by decide +kernel) (by decide +kernel)
theorem tb_490 : Jvm.Cond.static ({ cls := "DialectAtlasLaw", name := "formAt", desc := "(LDialectAtlas;II[J)I" } : Jvm.MethodName) ∈ WS := wm 520 (by decide +kernel) (by decide +kernel)
theorem tb_491 : Jvm.Cond.codeWith ({ cls := "DialectAtlasLaw", name := "formAt", desc := "(LDialectAtlas;II[J)I" } : Jvm.MethodName) method_12_code (5 : Nat) (Option.some Jvm.ClassFile.FieldType.int) [((0 : Nat), (10 : Nat), (13 : Nat), (13 : Nat))] ∈ WS := wm 521 (by decide +kernel) (by decide +kernel)
theorem tb_492 : Jvm.Cond.methodLink "DialectAtlasLaw" (48 : Nat) ({ cls := "DialectAtlas", name := "formAt", desc := "(II)I" } : Jvm.MethodName) ∈ WS := wm 522 (by decide +kernel) (by decide +kernel)
theorem tb_493 : Jvm.Cond.instanceMethod ({ cls := "DialectAtlas", name := "formAt", desc := "(II)I" } : Jvm.MethodName) ∈ WS := wm 523 (by decide +kernel) (by decide +kernel)
theorem tb_494 : Jvm.Cond.selects "DialectAtlas" ({ cls := "DialectAtlas", name := "formAt", desc := "(II)I" } : Jvm.MethodName) ({ cls := "DialectAtlas", name := "formAt", desc := "(II)I" } : Jvm.MethodName) ∈ WS := wm 524 (by decide +kernel) (by decide +kernel)
theorem tb_495 : Jvm.Cond.code ({ cls := "DialectAtlas", name := "formAt", desc := "(II)I" } : Jvm.MethodName) prog_1_method_11_code (3 : Nat) (Option.some Jvm.ClassFile.FieldType.int) ∈ WS := wm 525 (by decide +kernel) (by decide +kernel)
theorem tb_496 : Jvm.Cond.methodLink "DialectAtlasLaw" (120 : Nat) ({ cls := "DialectAtlasLaw", name := "lines", desc := "(LDialectAtlas;I[J)I" } : Jvm.MethodName) ∈ WS := wm 526 (by decide +kernel) (by decide +kernel)
theorem tb_497 : Jvm.Cond.static ({ cls := "DialectAtlasLaw", name := "lines", desc := "(LDialectAtlas;I[J)I" } : Jvm.MethodName) ∈ WS := wm 527 (by decide +kernel) (by decide +kernel)
theorem tb_498 : Jvm.Cond.codeWith ({ cls := "DialectAtlasLaw", name := "lines", desc := "(LDialectAtlas;I[J)I" } : Jvm.MethodName) method_13_code (4 : Nat) (Option.some Jvm.ClassFile.FieldType.int) [((0 : Nat), (9 : Nat), (12 : Nat), (13 : Nat))] ∈ WS := wm 528 (by decide +kernel) (by decide +kernel)
theorem tb_499 : Jvm.Cond.methodLink "DialectAtlasLaw" (51 : Nat) ({ cls := "DialectAtlas", name := "lines", desc := "(I)I" } : Jvm.MethodName) ∈ WS := wm 529 (by decide +kernel) (by decide +kernel)
theorem tb_500 : Jvm.Cond.instanceMethod ({ cls := "DialectAtlas", name := "lines", desc := "(I)I" } : Jvm.MethodName) ∈ WS := wm 530 (by decide +kernel) (by decide +kernel)
theorem tb_501 : Jvm.Cond.selects "DialectAtlas" ({ cls := "DialectAtlas", name := "lines", desc := "(I)I" } : Jvm.MethodName) ({ cls := "DialectAtlas", name := "lines", desc := "(I)I" } : Jvm.MethodName) ∈ WS := wm 531 (by decide +kernel) (by decide +kernel)
theorem tb_502 : Jvm.Cond.code ({ cls := "DialectAtlas", name := "lines", desc := "(I)I" } : Jvm.MethodName) prog_1_method_12_code (2 : Nat) (Option.some Jvm.ClassFile.FieldType.int) ∈ WS := wm 532 (by decide +kernel) (by decide +kernel)
theorem tb_503 : Jvm.Cond.methodLink "DialectAtlasLaw" (123 : Nat) ({ cls := "DialectAtlasLaw", name := "linesByForms", desc := "(LDialectAtlas;I[J)I" } : Jvm.MethodName) ∈ WS := wm 533 (by decide +kernel) (by decide +kernel)
theorem tb_504 : Jvm.Cond.static ({ cls := "DialectAtlasLaw", name := "linesByForms", desc := "(LDialectAtlas;I[J)I" } : Jvm.MethodName) ∈ WS := wm 534 (by decide +kernel) (by decide +kernel)
theorem tb_505 : Jvm.Cond.codeWith ({ cls := "DialectAtlasLaw", name := "linesByForms", desc := "(LDialectAtlas;I[J)I" } : Jvm.MethodName) method_14_code (4 : Nat) (Option.some Jvm.ClassFile.FieldType.int) [((0 : Nat), (9 : Nat), (12 : Nat), (13 : Nat))] ∈ WS := wm 535 (by decide +kernel) (by decide +kernel)
theorem tb_506 : Jvm.Cond.methodLink "DialectAtlasLaw" (54 : Nat) ({ cls := "DialectAtlas", name := "linesByForms", desc := "(I)I" } : Jvm.MethodName) ∈ WS := wm 536 (by decide +kernel) (by decide +kernel)
theorem tb_507 : Jvm.Cond.instanceMethod ({ cls := "DialectAtlas", name := "linesByForms", desc := "(I)I" } : Jvm.MethodName) ∈ WS := wm 537 (by decide +kernel) (by decide +kernel)
theorem tb_508 : Jvm.Cond.selects "DialectAtlas" ({ cls := "DialectAtlas", name := "linesByForms", desc := "(I)I" } : Jvm.MethodName) ({ cls := "DialectAtlas", name := "linesByForms", desc := "(I)I" } : Jvm.MethodName) ∈ WS := wm 538 (by decide +kernel) (by decide +kernel)
theorem tb_509 : Jvm.Cond.code ({ cls := "DialectAtlas", name := "linesByForms", desc := "(I)I" } : Jvm.MethodName) prog_1_method_13_code (2 : Nat) (Option.some Jvm.ClassFile.FieldType.int) ∈ WS := wm 539 (by decide +kernel) (by decide +kernel)
theorem tb_510 : Jvm.Cond.methodLink "DialectAtlasLaw" (126 : Nat) ({ cls := "DialectAtlasLaw", name := "forget", desc := "(LDialectAtlas;I[J)I" } : Jvm.MethodName) ∈ WS := wm 540 (by decide +kernel) (by decide +kernel)
theorem tb_511 : Jvm.Cond.static ({ cls := "DialectAtlasLaw", name := "forget", desc := "(LDialectAtlas;I[J)I" } : Jvm.MethodName) ∈ WS := wm 541 (by decide +kernel) (by decide +kernel)
theorem tb_512 : Jvm.Cond.codeWith ({ cls := "DialectAtlasLaw", name := "forget", desc := "(LDialectAtlas;I[J)I" } : Jvm.MethodName) method_15_code (4 : Nat) (Option.some Jvm.ClassFile.FieldType.int) [((0 : Nat), (9 : Nat), (12 : Nat), (13 : Nat))] ∈ WS := wm 542 (by decide +kernel) (by decide +kernel)
theorem tb_513 : Jvm.Cond.methodLink "DialectAtlasLaw" (57 : Nat) ({ cls := "DialectAtlas", name := "forget", desc := "(I)I" } : Jvm.MethodName) ∈ WS := wm 543 (by decide +kernel) (by decide +kernel)
theorem tb_514 : Jvm.Cond.instanceMethod ({ cls := "DialectAtlas", name := "forget", desc := "(I)I" } : Jvm.MethodName) ∈ WS := wm 544 (by decide +kernel) (by decide +kernel)
theorem tb_515 : Jvm.Cond.selects "DialectAtlas" ({ cls := "DialectAtlas", name := "forget", desc := "(I)I" } : Jvm.MethodName) ({ cls := "DialectAtlas", name := "forget", desc := "(I)I" } : Jvm.MethodName) ∈ WS := wm 545 (by decide +kernel) (by decide +kernel)
theorem tb_516 : Jvm.Cond.code ({ cls := "DialectAtlas", name := "forget", desc := "(I)I" } : Jvm.MethodName) prog_1_method_14_code (5 : Nat) (Option.some Jvm.ClassFile.FieldType.int) ∈ WS := wm 546 (by decide +kernel) (by decide +kernel)
theorem tb_518 : Jvm.Cond.methodLink "DialectAtlas" (189 : Nat) ({ cls := "DialectAtlas", name := "interviewsOf", desc := "(I)J" } : Jvm.MethodName) ∈ WS := wm 548 (by decide +kernel) (by decide +kernel)
theorem tb_520 : Jvm.Cond.instanceMethod ({ cls := "DialectAtlas", name := "interviewsOf", desc := "(I)J" } : Jvm.MethodName) ∈ WS := wm 550 (by decide +kernel) (by decide +kernel)
theorem tb_521 : Jvm.Cond.code ({ cls := "DialectAtlas", name := "interviewsOf", desc := "(I)J" } : Jvm.MethodName) prog_1_method_25_code (6 : Nat) (Option.some Jvm.ClassFile.FieldType.long) ∈ WS := wm 551 (by decide +kernel) (by decide +kernel)
theorem tb_522 : Jvm.Cond.constantLong "DialectAtlas" (193 : Nat) (-1 : Int64) ∈ WS := wm 552 (by decide +kernel) (by decide +kernel)
theorem tn_523 : Jvm.Cond.methodLinkNest "DialectAtlas" (195 : Nat) ({ cls := "DialectAtlas$Rule", name := "restNoMoreOn", desc := "(J)V" } : Jvm.MethodName) "DialectAtlas" ∈ NGW := nm 553 (by decide +kernel) (by decide +kernel)
theorem tb_525 : Jvm.Cond.instanceMethod ({ cls := "DialectAtlas$Rule", name := "restNoMoreOn", desc := "(J)V" } : Jvm.MethodName) ∈ WS := wm 555 (by decide +kernel) (by decide +kernel)
theorem tb_526 : Jvm.Cond.code ({ cls := "DialectAtlas$Rule", name := "restNoMoreOn", desc := "(J)V" } : Jvm.MethodName) prog_3_method_3_code (3 : Nat) (Option.none : Option Jvm.ClassFile.FieldType) ∈ WS := wm 556 (by decide +kernel) (by decide +kernel)
theorem tb_527 : Jvm.Cond.constantLong "DialectAtlas$Rule" (43 : Nat) (-1 : Int64) ∈ WS := wm 557 (by decide +kernel) (by decide +kernel)
theorem tb_528 : Jvm.Cond.methodLink "DialectAtlasLaw" (129 : Nat) ({ cls := "DialectAtlasLaw", name := "copy", desc := "(LDialectAtlas;I[J)I" } : Jvm.MethodName) ∈ WS := wm 558 (by decide +kernel) (by decide +kernel)
theorem tb_529 : Jvm.Cond.static ({ cls := "DialectAtlasLaw", name := "copy", desc := "(LDialectAtlas;I[J)I" } : Jvm.MethodName) ∈ WS := wm 559 (by decide +kernel) (by decide +kernel)
theorem tb_530 : Jvm.Cond.codeWith ({ cls := "DialectAtlasLaw", name := "copy", desc := "(LDialectAtlas;I[J)I" } : Jvm.MethodName) method_16_code (4 : Nat) (Option.some Jvm.ClassFile.FieldType.int) [((0 : Nat), (9 : Nat), (12 : Nat), (13 : Nat))] ∈ WS := wm 560 (by decide +kernel) (by decide +kernel)
theorem tb_531 : Jvm.Cond.methodLink "DialectAtlasLaw" (60 : Nat) ({ cls := "DialectAtlas", name := "copy", desc := "(I)I" } : Jvm.MethodName) ∈ WS := wm 561 (by decide +kernel) (by decide +kernel)
theorem tb_532 : Jvm.Cond.instanceMethod ({ cls := "DialectAtlas", name := "copy", desc := "(I)I" } : Jvm.MethodName) ∈ WS := wm 562 (by decide +kernel) (by decide +kernel)
theorem tb_533 : Jvm.Cond.selects "DialectAtlas" ({ cls := "DialectAtlas", name := "copy", desc := "(I)I" } : Jvm.MethodName) ({ cls := "DialectAtlas", name := "copy", desc := "(I)I" } : Jvm.MethodName) ∈ WS := wm 563 (by decide +kernel) (by decide +kernel)
theorem tb_534 : Jvm.Cond.code ({ cls := "DialectAtlas", name := "copy", desc := "(I)I" } : Jvm.MethodName) prog_1_method_15_code (2 : Nat) (Option.some Jvm.ClassFile.FieldType.int) ∈ WS := wm 564 (by decide +kernel) (by decide +kernel)
theorem tb_536 : Jvm.Cond.methodLink "DialectAtlasLaw" (132 : Nat) ({ cls := "DialectAtlasLaw", name := "tell", desc := "(LDialectAtlas;I[J)I" } : Jvm.MethodName) ∈ WS := wm 566 (by decide +kernel) (by decide +kernel)
theorem tb_537 : Jvm.Cond.static ({ cls := "DialectAtlasLaw", name := "tell", desc := "(LDialectAtlas;I[J)I" } : Jvm.MethodName) ∈ WS := wm 567 (by decide +kernel) (by decide +kernel)
theorem tb_538 : Jvm.Cond.codeWith ({ cls := "DialectAtlasLaw", name := "tell", desc := "(LDialectAtlas;I[J)I" } : Jvm.MethodName) method_17_code (4 : Nat) (Option.some Jvm.ClassFile.FieldType.int) [((0 : Nat), (9 : Nat), (12 : Nat), (13 : Nat))] ∈ WS := wm 568 (by decide +kernel) (by decide +kernel)
theorem tb_539 : Jvm.Cond.methodLink "DialectAtlasLaw" (63 : Nat) ({ cls := "DialectAtlas", name := "tell", desc := "(I)I" } : Jvm.MethodName) ∈ WS := wm 569 (by decide +kernel) (by decide +kernel)
theorem tb_540 : Jvm.Cond.instanceMethod ({ cls := "DialectAtlas", name := "tell", desc := "(I)I" } : Jvm.MethodName) ∈ WS := wm 570 (by decide +kernel) (by decide +kernel)
theorem tb_541 : Jvm.Cond.selects "DialectAtlas" ({ cls := "DialectAtlas", name := "tell", desc := "(I)I" } : Jvm.MethodName) ({ cls := "DialectAtlas", name := "tell", desc := "(I)I" } : Jvm.MethodName) ∈ WS := wm 571 (by decide +kernel) (by decide +kernel)
theorem tb_542 : Jvm.Cond.code ({ cls := "DialectAtlas", name := "tell", desc := "(I)I" } : Jvm.MethodName) prog_1_method_16_code (4 : Nat) (Option.some Jvm.ClassFile.FieldType.int) ∈ WS := wm 572 (by decide +kernel) (by decide +kernel)
theorem tb_543 : Jvm.Cond.methodLink "DialectAtlasLaw" (135 : Nat) ({ cls := "DialectAtlasLaw", name := "owed", desc := "(LDialectAtlas;I[J)I" } : Jvm.MethodName) ∈ WS := wm 573 (by decide +kernel) (by decide +kernel)
theorem tb_544 : Jvm.Cond.static ({ cls := "DialectAtlasLaw", name := "owed", desc := "(LDialectAtlas;I[J)I" } : Jvm.MethodName) ∈ WS := wm 574 (by decide +kernel) (by decide +kernel)
theorem tb_545 : Jvm.Cond.codeWith ({ cls := "DialectAtlasLaw", name := "owed", desc := "(LDialectAtlas;I[J)I" } : Jvm.MethodName) method_18_code (4 : Nat) (Option.some Jvm.ClassFile.FieldType.int) [((0 : Nat), (9 : Nat), (12 : Nat), (13 : Nat))] ∈ WS := wm 575 (by decide +kernel) (by decide +kernel)
theorem tb_546 : Jvm.Cond.methodLink "DialectAtlasLaw" (66 : Nat) ({ cls := "DialectAtlas", name := "owed", desc := "(I)I" } : Jvm.MethodName) ∈ WS := wm 576 (by decide +kernel) (by decide +kernel)
theorem tb_547 : Jvm.Cond.instanceMethod ({ cls := "DialectAtlas", name := "owed", desc := "(I)I" } : Jvm.MethodName) ∈ WS := wm 577 (by decide +kernel) (by decide +kernel)
theorem tb_548 : Jvm.Cond.selects "DialectAtlas" ({ cls := "DialectAtlas", name := "owed", desc := "(I)I" } : Jvm.MethodName) ({ cls := "DialectAtlas", name := "owed", desc := "(I)I" } : Jvm.MethodName) ∈ WS := wm 578 (by decide +kernel) (by decide +kernel)
theorem tb_549 : Jvm.Cond.code ({ cls := "DialectAtlas", name := "owed", desc := "(I)I" } : Jvm.MethodName) prog_1_method_17_code (2 : Nat) (Option.some Jvm.ClassFile.FieldType.int) ∈ WS := wm 579 (by decide +kernel) (by decide +kernel)
theorem tb_550 : Jvm.Cond.methodLink "DialectAtlasLaw" (138 : Nat) ({ cls := "DialectAtlasLaw", name := "quote", desc := "(LDialectAtlas;I[J)I" } : Jvm.MethodName) ∈ WS := wm 580 (by decide +kernel) (by decide +kernel)
theorem tb_551 : Jvm.Cond.static ({ cls := "DialectAtlasLaw", name := "quote", desc := "(LDialectAtlas;I[J)I" } : Jvm.MethodName) ∈ WS := wm 581 (by decide +kernel) (by decide +kernel)
theorem tb_552 : Jvm.Cond.codeWith ({ cls := "DialectAtlasLaw", name := "quote", desc := "(LDialectAtlas;I[J)I" } : Jvm.MethodName) method_19_code (4 : Nat) (Option.some Jvm.ClassFile.FieldType.int) [((0 : Nat), (9 : Nat), (12 : Nat), (13 : Nat)), ((0 : Nat), (9 : Nat), (15 : Nat), (15 : Nat))] ∈ WS := wm 582 (by decide +kernel) (by decide +kernel)
theorem tb_553 : Jvm.Cond.methodLink "DialectAtlasLaw" (69 : Nat) ({ cls := "DialectAtlas", name := "quote", desc := "(I)I" } : Jvm.MethodName) ∈ WS := wm 583 (by decide +kernel) (by decide +kernel)
theorem tb_554 : Jvm.Cond.instanceMethod ({ cls := "DialectAtlas", name := "quote", desc := "(I)I" } : Jvm.MethodName) ∈ WS := wm 584 (by decide +kernel) (by decide +kernel)
theorem tb_555 : Jvm.Cond.selects "DialectAtlas" ({ cls := "DialectAtlas", name := "quote", desc := "(I)I" } : Jvm.MethodName) ({ cls := "DialectAtlas", name := "quote", desc := "(I)I" } : Jvm.MethodName) ∈ WS := wm 585 (by decide +kernel) (by decide +kernel)
theorem tb_556 : Jvm.Cond.code ({ cls := "DialectAtlas", name := "quote", desc := "(I)I" } : Jvm.MethodName) prog_1_method_18_code (4 : Nat) (Option.some Jvm.ClassFile.FieldType.int) ∈ WS := wm 586 (by decide +kernel) (by decide +kernel)
theorem tb_558 : Jvm.Cond.methodLink "DialectAtlasLaw" (141 : Nat) ({ cls := "DialectAtlasLaw", name := "quoted", desc := "(LDialectAtlas;I[J)I" } : Jvm.MethodName) ∈ WS := wm 588 (by decide +kernel) (by decide +kernel)
theorem tb_559 : Jvm.Cond.static ({ cls := "DialectAtlasLaw", name := "quoted", desc := "(LDialectAtlas;I[J)I" } : Jvm.MethodName) ∈ WS := wm 589 (by decide +kernel) (by decide +kernel)
theorem tb_560 : Jvm.Cond.codeWith ({ cls := "DialectAtlasLaw", name := "quoted", desc := "(LDialectAtlas;I[J)I" } : Jvm.MethodName) method_20_code (4 : Nat) (Option.some Jvm.ClassFile.FieldType.int) [((0 : Nat), (9 : Nat), (12 : Nat), (13 : Nat))] ∈ WS := wm 590 (by decide +kernel) (by decide +kernel)
theorem tb_561 : Jvm.Cond.methodLink "DialectAtlasLaw" (72 : Nat) ({ cls := "DialectAtlas", name := "quoted", desc := "(I)I" } : Jvm.MethodName) ∈ WS := wm 591 (by decide +kernel) (by decide +kernel)
theorem tb_562 : Jvm.Cond.instanceMethod ({ cls := "DialectAtlas", name := "quoted", desc := "(I)I" } : Jvm.MethodName) ∈ WS := wm 592 (by decide +kernel) (by decide +kernel)
theorem tb_563 : Jvm.Cond.selects "DialectAtlas" ({ cls := "DialectAtlas", name := "quoted", desc := "(I)I" } : Jvm.MethodName) ({ cls := "DialectAtlas", name := "quoted", desc := "(I)I" } : Jvm.MethodName) ∈ WS := wm 593 (by decide +kernel) (by decide +kernel)
theorem tb_564 : Jvm.Cond.code ({ cls := "DialectAtlas", name := "quoted", desc := "(I)I" } : Jvm.MethodName) prog_1_method_19_code (2 : Nat) (Option.some Jvm.ClassFile.FieldType.int) ∈ WS := wm 594 (by decide +kernel) (by decide +kernel)
theorem tb_566 : Jvm.Cond.classLink "DialectAtlasLaw" (76 : Nat) "DialectAtlasModel" ∈ WS := wm 596 (by decide +kernel) (by decide +kernel)
theorem tb_567 : Jvm.Cond.instantiable "DialectAtlasModel" (27 : Nat) ∈ WS := wm 597 (by decide +kernel) (by decide +kernel)
theorem tb_568 : Jvm.Cond.methodLink "DialectAtlasLaw" (78 : Nat) ({ cls := "DialectAtlasModel", name := "<init>", desc := "()V" } : Jvm.MethodName) ∈ WS := wm 598 (by decide +kernel) (by decide +kernel)
theorem tb_569 : Jvm.Cond.instanceMethod ({ cls := "DialectAtlasModel", name := "<init>", desc := "()V" } : Jvm.MethodName) ∈ WS := wm 599 (by decide +kernel) (by decide +kernel)
theorem tb_570 : Jvm.Cond.code ({ cls := "DialectAtlasModel", name := "<init>", desc := "()V" } : Jvm.MethodName) prog_6_method_1_code (2 : Nat) (Option.none : Option Jvm.ClassFile.FieldType) ∈ WS := wm 600 (by decide +kernel) (by decide +kernel)
theorem tb_571 : Jvm.Cond.methodLink "DialectAtlasModel" (1 : Nat) ({ cls := "java/lang/Object", name := "<init>", desc := "()V" } : Jvm.MethodName) ∈ WS := wm 601 (by decide +kernel) (by decide +kernel)
theorem tb_572 : Jvm.Cond.fieldLink "DialectAtlasModel" (78 : Nat) "DialectAtlasModel" "thrown" "I" ∈ WS := wm 602 (by decide +kernel) (by decide +kernel)
theorem tb_573 : Jvm.Cond.fieldLink "DialectAtlasModel" (92 : Nat) "DialectAtlasModel" "many" "I" ∈ WS := wm 603 (by decide +kernel) (by decide +kernel)
theorem tb_574 : Jvm.Cond.fieldLink "DialectAtlasModel" (7 : Nat) "DialectAtlasModel" "draft" "[I" ∈ WS := wm 604 (by decide +kernel) (by decide +kernel)
theorem tb_575 : Jvm.Cond.fieldLink "DialectAtlasModel" (86 : Nat) "DialectAtlasModel" "interviews" "I" ∈ WS := wm 605 (by decide +kernel) (by decide +kernel)
theorem tb_576 : Jvm.Cond.fieldLink "DialectAtlasModel" (13 : Nat) "DialectAtlasModel" "informant" "[I" ∈ WS := wm 606 (by decide +kernel) (by decide +kernel)
theorem tb_577 : Jvm.Cond.fieldLink "DialectAtlasModel" (16 : Nat) "DialectAtlasModel" "place" "[I" ∈ WS := wm 607 (by decide +kernel) (by decide +kernel)
theorem tb_578 : Jvm.Cond.fieldLink "DialectAtlasModel" (19 : Nat) "DialectAtlasModel" "year" "[I" ∈ WS := wm 608 (by decide +kernel) (by decide +kernel)
theorem tb_579 : Jvm.Cond.fieldLink "DialectAtlasModel" (22 : Nat) "DialectAtlasModel" "word" "[I" ∈ WS := wm 609 (by decide +kernel) (by decide +kernel)
theorem tb_580 : Jvm.Cond.fieldLink "DialectAtlasModel" (25 : Nat) "DialectAtlasModel" "told" "[I" ∈ WS := wm 610 (by decide +kernel) (by decide +kernel)
theorem tb_581 : Jvm.Cond.fieldLink "DialectAtlasModel" (28 : Nat) "DialectAtlasModel" "gone" "[Z" ∈ WS := wm 611 (by decide +kernel) (by decide +kernel)
theorem tb_582 : Jvm.Cond.fieldLink "DialectAtlasModel" (32 : Nat) "DialectAtlasModel" "root" "[I" ∈ WS := wm 612 (by decide +kernel) (by decide +kernel)
theorem tb_583 : Jvm.Cond.fieldLink "DialectAtlasModel" (89 : Nat) "DialectAtlasModel" "rules" "I" ∈ WS := wm 613 (by decide +kernel) (by decide +kernel)
theorem tb_584 : Jvm.Cond.fieldLink "DialectAtlasModel" (35 : Nat) "DialectAtlasModel" "from" "[I" ∈ WS := wm 614 (by decide +kernel) (by decide +kernel)
theorem tb_585 : Jvm.Cond.fieldLink "DialectAtlasModel" (38 : Nat) "DialectAtlasModel" "to" "[I" ∈ WS := wm 615 (by decide +kernel) (by decide +kernel)
theorem tb_586 : Jvm.Cond.fieldLink "DialectAtlasModel" (41 : Nat) "DialectAtlasModel" "behind" "[I" ∈ WS := wm 616 (by decide +kernel) (by decide +kernel)
theorem tb_587 : Jvm.Cond.fieldLink "DialectAtlasModel" (44 : Nat) "DialectAtlasModel" "first" "[I" ∈ WS := wm 617 (by decide +kernel) (by decide +kernel)
theorem tb_588 : Jvm.Cond.fieldLink "DialectAtlasModel" (47 : Nat) "DialectAtlasModel" "last" "[I" ∈ WS := wm 618 (by decide +kernel) (by decide +kernel)
theorem tb_589 : Jvm.Cond.fieldLink "DialectAtlasModel" (50 : Nat) "DialectAtlasModel" "since" "[I" ∈ WS := wm 619 (by decide +kernel) (by decide +kernel)
theorem tb_590 : Jvm.Cond.fieldLink "DialectAtlasModel" (53 : Nat) "DialectAtlasModel" "fallen" "[Z" ∈ WS := wm 620 (by decide +kernel) (by decide +kernel)
theorem tb_591 : Jvm.Cond.fieldLink "DialectAtlasModel" (56 : Nat) "DialectAtlasModel" "rests" "[J" ∈ WS := wm 621 (by decide +kernel) (by decide +kernel)
theorem tb_592 : Jvm.Cond.fieldLink "DialectAtlasModel" (60 : Nat) "DialectAtlasModel" "copies" "[J" ∈ WS := wm 622 (by decide +kernel) (by decide +kernel)
theorem tb_593 : Jvm.Cond.fieldLink "DialectAtlasModel" (157 : Nat) "DialectAtlasModel" "quotes" "I" ∈ WS := wm 623 (by decide +kernel) (by decide +kernel)
theorem tb_594 : Jvm.Cond.fieldLink "DialectAtlasModel" (63 : Nat) "DialectAtlasModel" "quote" "[I" ∈ WS := wm 624 (by decide +kernel) (by decide +kernel)
theorem tb_595 : Jvm.Cond.fieldLink "DialectAtlasModel" (66 : Nat) "DialectAtlasModel" "row" "[I" ∈ WS := wm 625 (by decide +kernel) (by decide +kernel)
theorem tb_596 : Jvm.Cond.fieldLink "DialectAtlasModel" (69 : Nat) "DialectAtlasModel" "next" "[I" ∈ WS := wm 626 (by decide +kernel) (by decide +kernel)
theorem tb_597 : Jvm.Cond.fieldLink "DialectAtlasModel" (72 : Nat) "DialectAtlasModel" "other" "[I" ∈ WS := wm 627 (by decide +kernel) (by decide +kernel)
theorem tb_598 : Jvm.Cond.fieldLink "DialectAtlasModel" (75 : Nat) "DialectAtlasModel" "steps" "[I" ∈ WS := wm 628 (by decide +kernel) (by decide +kernel)
theorem tb_599 : Jvm.Cond.lays "DialectAtlasModel" "DialectAtlasModel" "thrown" "I" ∈ WS := wm 629 (by decide +kernel) (by decide +kernel)
theorem tb_600 : Jvm.Cond.soleField "DialectAtlasModel" "thrown" ∈ WS := wm 630 (by decide +kernel) (by decide +kernel)
theorem tb_601 : Jvm.Cond.lays "DialectAtlasModel" "DialectAtlasModel" "many" "I" ∈ WS := wm 631 (by decide +kernel) (by decide +kernel)
theorem tb_602 : Jvm.Cond.soleField "DialectAtlasModel" "many" ∈ WS := wm 632 (by decide +kernel) (by decide +kernel)
theorem tb_603 : Jvm.Cond.laysFinal "DialectAtlasModel" "DialectAtlasModel" "draft" "[I" ∈ WS := wm 633 (by decide +kernel) (by decide +kernel)
theorem tb_604 : Jvm.Cond.soleField "DialectAtlasModel" "draft" ∈ WS := wm 634 (by decide +kernel) (by decide +kernel)
theorem tb_605 : Jvm.Cond.lays "DialectAtlasModel" "DialectAtlasModel" "interviews" "I" ∈ WS := wm 635 (by decide +kernel) (by decide +kernel)
theorem tb_606 : Jvm.Cond.soleField "DialectAtlasModel" "interviews" ∈ WS := wm 636 (by decide +kernel) (by decide +kernel)
theorem tb_607 : Jvm.Cond.laysFinal "DialectAtlasModel" "DialectAtlasModel" "informant" "[I" ∈ WS := wm 637 (by decide +kernel) (by decide +kernel)
theorem tb_608 : Jvm.Cond.soleField "DialectAtlasModel" "informant" ∈ WS := wm 638 (by decide +kernel) (by decide +kernel)
theorem tb_609 : Jvm.Cond.laysFinal "DialectAtlasModel" "DialectAtlasModel" "place" "[I" ∈ WS := wm 639 (by decide +kernel) (by decide +kernel)
theorem tb_610 : Jvm.Cond.soleField "DialectAtlasModel" "place" ∈ WS := wm 640 (by decide +kernel) (by decide +kernel)
theorem tb_611 : Jvm.Cond.laysFinal "DialectAtlasModel" "DialectAtlasModel" "year" "[I" ∈ WS := wm 641 (by decide +kernel) (by decide +kernel)
theorem tb_612 : Jvm.Cond.soleField "DialectAtlasModel" "year" ∈ WS := wm 642 (by decide +kernel) (by decide +kernel)
theorem tb_613 : Jvm.Cond.laysFinal "DialectAtlasModel" "DialectAtlasModel" "word" "[I" ∈ WS := wm 643 (by decide +kernel) (by decide +kernel)
theorem tb_614 : Jvm.Cond.soleField "DialectAtlasModel" "word" ∈ WS := wm 644 (by decide +kernel) (by decide +kernel)
theorem tb_615 : Jvm.Cond.laysFinal "DialectAtlasModel" "DialectAtlasModel" "told" "[I" ∈ WS := wm 645 (by decide +kernel) (by decide +kernel)
theorem tb_616 : Jvm.Cond.soleField "DialectAtlasModel" "told" ∈ WS := wm 646 (by decide +kernel) (by decide +kernel)
theorem tb_617 : Jvm.Cond.laysFinal "DialectAtlasModel" "DialectAtlasModel" "gone" "[Z" ∈ WS := wm 647 (by decide +kernel) (by decide +kernel)
theorem tb_618 : Jvm.Cond.soleField "DialectAtlasModel" "gone" ∈ WS := wm 648 (by decide +kernel) (by decide +kernel)
theorem tb_619 : Jvm.Cond.laysFinal "DialectAtlasModel" "DialectAtlasModel" "root" "[I" ∈ WS := wm 649 (by decide +kernel) (by decide +kernel)
theorem tb_620 : Jvm.Cond.soleField "DialectAtlasModel" "root" ∈ WS := wm 650 (by decide +kernel) (by decide +kernel)
theorem tb_621 : Jvm.Cond.lays "DialectAtlasModel" "DialectAtlasModel" "rules" "I" ∈ WS := wm 651 (by decide +kernel) (by decide +kernel)
theorem tb_622 : Jvm.Cond.soleField "DialectAtlasModel" "rules" ∈ WS := wm 652 (by decide +kernel) (by decide +kernel)
theorem tb_623 : Jvm.Cond.laysFinal "DialectAtlasModel" "DialectAtlasModel" "from" "[I" ∈ WS := wm 653 (by decide +kernel) (by decide +kernel)
theorem tb_624 : Jvm.Cond.soleField "DialectAtlasModel" "from" ∈ WS := wm 654 (by decide +kernel) (by decide +kernel)
theorem tb_625 : Jvm.Cond.laysFinal "DialectAtlasModel" "DialectAtlasModel" "to" "[I" ∈ WS := wm 655 (by decide +kernel) (by decide +kernel)
theorem tb_626 : Jvm.Cond.soleField "DialectAtlasModel" "to" ∈ WS := wm 656 (by decide +kernel) (by decide +kernel)
theorem tb_627 : Jvm.Cond.laysFinal "DialectAtlasModel" "DialectAtlasModel" "behind" "[I" ∈ WS := wm 657 (by decide +kernel) (by decide +kernel)
theorem tb_628 : Jvm.Cond.soleField "DialectAtlasModel" "behind" ∈ WS := wm 658 (by decide +kernel) (by decide +kernel)
theorem tb_629 : Jvm.Cond.laysFinal "DialectAtlasModel" "DialectAtlasModel" "first" "[I" ∈ WS := wm 659 (by decide +kernel) (by decide +kernel)
theorem tb_630 : Jvm.Cond.soleField "DialectAtlasModel" "first" ∈ WS := wm 660 (by decide +kernel) (by decide +kernel)
theorem tb_631 : Jvm.Cond.laysFinal "DialectAtlasModel" "DialectAtlasModel" "last" "[I" ∈ WS := wm 661 (by decide +kernel) (by decide +kernel)
theorem tb_632 : Jvm.Cond.soleField "DialectAtlasModel" "last" ∈ WS := wm 662 (by decide +kernel) (by decide +kernel)
theorem tb_633 : Jvm.Cond.laysFinal "DialectAtlasModel" "DialectAtlasModel" "since" "[I" ∈ WS := wm 663 (by decide +kernel) (by decide +kernel)
theorem tb_634 : Jvm.Cond.soleField "DialectAtlasModel" "since" ∈ WS := wm 664 (by decide +kernel) (by decide +kernel)
theorem tb_635 : Jvm.Cond.laysFinal "DialectAtlasModel" "DialectAtlasModel" "fallen" "[Z" ∈ WS := wm 665 (by decide +kernel) (by decide +kernel)
theorem tb_636 : Jvm.Cond.soleField "DialectAtlasModel" "fallen" ∈ WS := wm 666 (by decide +kernel) (by decide +kernel)
theorem tb_637 : Jvm.Cond.laysFinal "DialectAtlasModel" "DialectAtlasModel" "rests" "[J" ∈ WS := wm 667 (by decide +kernel) (by decide +kernel)
theorem tb_638 : Jvm.Cond.soleField "DialectAtlasModel" "rests" ∈ WS := wm 668 (by decide +kernel) (by decide +kernel)
theorem tb_639 : Jvm.Cond.laysFinal "DialectAtlasModel" "DialectAtlasModel" "copies" "[J" ∈ WS := wm 669 (by decide +kernel) (by decide +kernel)
theorem tb_640 : Jvm.Cond.soleField "DialectAtlasModel" "copies" ∈ WS := wm 670 (by decide +kernel) (by decide +kernel)
theorem tb_641 : Jvm.Cond.lays "DialectAtlasModel" "DialectAtlasModel" "quotes" "I" ∈ WS := wm 671 (by decide +kernel) (by decide +kernel)
theorem tb_642 : Jvm.Cond.soleField "DialectAtlasModel" "quotes" ∈ WS := wm 672 (by decide +kernel) (by decide +kernel)
theorem tb_643 : Jvm.Cond.laysFinal "DialectAtlasModel" "DialectAtlasModel" "quote" "[I" ∈ WS := wm 673 (by decide +kernel) (by decide +kernel)
theorem tb_644 : Jvm.Cond.soleField "DialectAtlasModel" "quote" ∈ WS := wm 674 (by decide +kernel) (by decide +kernel)
theorem tb_645 : Jvm.Cond.laysFinal "DialectAtlasModel" "DialectAtlasModel" "row" "[I" ∈ WS := wm 675 (by decide +kernel) (by decide +kernel)
theorem tb_646 : Jvm.Cond.soleField "DialectAtlasModel" "row" ∈ WS := wm 676 (by decide +kernel) (by decide +kernel)
theorem tb_647 : Jvm.Cond.laysFinal "DialectAtlasModel" "DialectAtlasModel" "next" "[I" ∈ WS := wm 677 (by decide +kernel) (by decide +kernel)
theorem tb_648 : Jvm.Cond.soleField "DialectAtlasModel" "next" ∈ WS := wm 678 (by decide +kernel) (by decide +kernel)
theorem tb_649 : Jvm.Cond.laysFinal "DialectAtlasModel" "DialectAtlasModel" "other" "[I" ∈ WS := wm 679 (by decide +kernel) (by decide +kernel)
theorem tb_650 : Jvm.Cond.soleField "DialectAtlasModel" "other" ∈ WS := wm 680 (by decide +kernel) (by decide +kernel)
theorem tb_651 : Jvm.Cond.laysFinal "DialectAtlasModel" "DialectAtlasModel" "steps" "[I" ∈ WS := wm 681 (by decide +kernel) (by decide +kernel)
theorem tb_652 : Jvm.Cond.soleField "DialectAtlasModel" "steps" ∈ WS := wm 682 (by decide +kernel) (by decide +kernel)
theorem tb_653 : Jvm.Cond.superclass "DialectAtlasModel" "java/lang/Object" ∈ WS := wm 683 (by decide +kernel) (by decide +kernel)
theorem tb_654 : Jvm.Cond.arrayClass Jvm.ClassFile.FieldType.boolean ∈ WS := wm 684 (by decide +kernel) (by decide +kernel)
theorem tb_655 : Jvm.Cond.methodLink "DialectAtlasLaw" (85 : Nat) ({ cls := "DialectAtlasModel", name := "thrown", desc := "()I" } : Jvm.MethodName) ∈ WS := wm 685 (by decide +kernel) (by decide +kernel)
theorem tb_656 : Jvm.Cond.instanceMethod ({ cls := "DialectAtlasModel", name := "thrown", desc := "()I" } : Jvm.MethodName) ∈ WS := wm 686 (by decide +kernel) (by decide +kernel)
theorem tb_657 : Jvm.Cond.selects "DialectAtlasModel" ({ cls := "DialectAtlasModel", name := "thrown", desc := "()I" } : Jvm.MethodName) ({ cls := "DialectAtlasModel", name := "thrown", desc := "()I" } : Jvm.MethodName) ∈ WS := wm 687 (by decide +kernel) (by decide +kernel)
theorem tb_658 : Jvm.Cond.code ({ cls := "DialectAtlasModel", name := "thrown", desc := "()I" } : Jvm.MethodName) prog_6_method_2_code (1 : Nat) (Option.some Jvm.ClassFile.FieldType.int) ∈ WS := wm 688 (by decide +kernel) (by decide +kernel)
theorem tb_659 : Jvm.Cond.methodLink "DialectAtlasLaw" (84 : Nat) ({ cls := "DialectAtlasModel", name := "sound", desc := "(I)I" } : Jvm.MethodName) ∈ WS := wm 689 (by decide +kernel) (by decide +kernel)
theorem tb_660 : Jvm.Cond.instanceMethod ({ cls := "DialectAtlasModel", name := "sound", desc := "(I)I" } : Jvm.MethodName) ∈ WS := wm 690 (by decide +kernel) (by decide +kernel)
theorem tb_661 : Jvm.Cond.selects "DialectAtlasModel" ({ cls := "DialectAtlasModel", name := "sound", desc := "(I)I" } : Jvm.MethodName) ({ cls := "DialectAtlasModel", name := "sound", desc := "(I)I" } : Jvm.MethodName) ∈ WS := wm 691 (by decide +kernel) (by decide +kernel)
theorem tb_662 : Jvm.Cond.code ({ cls := "DialectAtlasModel", name := "sound", desc := "(I)I" } : Jvm.MethodName) prog_6_method_14_code (2 : Nat) (Option.some Jvm.ClassFile.FieldType.int) ∈ WS := wm 692 (by decide +kernel) (by decide +kernel)
theorem tb_663 : Jvm.Cond.methodLink "DialectAtlasModel" (99 : Nat) ({ cls := "DialectAtlasModel", name := "isSound", desc := "(I)Z" } : Jvm.MethodName) ∈ WS := wm 693 (by decide +kernel) (by decide +kernel)
theorem tb_664 : Jvm.Cond.static ({ cls := "DialectAtlasModel", name := "isSound", desc := "(I)Z" } : Jvm.MethodName) ∈ WS := wm 694 (by decide +kernel) (by decide +kernel)
theorem tb_665 : Jvm.Cond.code ({ cls := "DialectAtlasModel", name := "isSound", desc := "(I)Z" } : Jvm.MethodName) prog_6_method_7_code (1 : Nat) (Option.some Jvm.ClassFile.FieldType.boolean) ∈ WS := wm 695 (by decide +kernel) (by decide +kernel)
theorem tb_666 : Jvm.Cond.methodLink "DialectAtlasModel" (82 : Nat) ({ cls := "DialectAtlasModel", name := "in", desc := "(III)Z" } : Jvm.MethodName) ∈ WS := wm 696 (by decide +kernel) (by decide +kernel)
theorem tb_667 : Jvm.Cond.static ({ cls := "DialectAtlasModel", name := "in", desc := "(III)Z" } : Jvm.MethodName) ∈ WS := wm 697 (by decide +kernel) (by decide +kernel)
theorem tb_668 : Jvm.Cond.code ({ cls := "DialectAtlasModel", name := "in", desc := "(III)Z" } : Jvm.MethodName) prog_6_method_4_code (3 : Nat) (Option.some Jvm.ClassFile.FieldType.boolean) ∈ WS := wm 698 (by decide +kernel) (by decide +kernel)
theorem tb_669 : Jvm.Cond.methodLink "DialectAtlasModel" (103 : Nat) ({ cls := "DialectAtlasModel", name := "fails", desc := "(I)I" } : Jvm.MethodName) ∈ WS := wm 699 (by decide +kernel) (by decide +kernel)
theorem tb_671 : Jvm.Cond.instanceMethod ({ cls := "DialectAtlasModel", name := "fails", desc := "(I)I" } : Jvm.MethodName) ∈ WS := wm 701 (by decide +kernel) (by decide +kernel)
theorem tb_672 : Jvm.Cond.code ({ cls := "DialectAtlasModel", name := "fails", desc := "(I)I" } : Jvm.MethodName) prog_6_method_3_code (2 : Nat) (Option.some Jvm.ClassFile.FieldType.int) ∈ WS := wm 702 (by decide +kernel) (by decide +kernel)
theorem tb_673 : Jvm.Cond.methodLink "DialectAtlasLaw" (92 : Nat) ({ cls := "DialectAtlasModel", name := "interview", desc := "(IIII)I" } : Jvm.MethodName) ∈ WS := wm 703 (by decide +kernel) (by decide +kernel)
theorem tb_674 : Jvm.Cond.instanceMethod ({ cls := "DialectAtlasModel", name := "interview", desc := "(IIII)I" } : Jvm.MethodName) ∈ WS := wm 704 (by decide +kernel) (by decide +kernel)
theorem tb_675 : Jvm.Cond.selects "DialectAtlasModel" ({ cls := "DialectAtlasModel", name := "interview", desc := "(IIII)I" } : Jvm.MethodName) ({ cls := "DialectAtlasModel", name := "interview", desc := "(IIII)I" } : Jvm.MethodName) ∈ WS := wm 705 (by decide +kernel) (by decide +kernel)
theorem tb_676 : Jvm.Cond.code ({ cls := "DialectAtlasModel", name := "interview", desc := "(IIII)I" } : Jvm.MethodName) prog_6_method_15_code (5 : Nat) (Option.some Jvm.ClassFile.FieldType.int) ∈ WS := wm 706 (by decide +kernel) (by decide +kernel)
theorem tb_677 : Jvm.Cond.methodLink "DialectAtlasModel" (107 : Nat) ({ cls := "DialectAtlasModel", name := "isPlace", desc := "(I)Z" } : Jvm.MethodName) ∈ WS := wm 707 (by decide +kernel) (by decide +kernel)
theorem tb_678 : Jvm.Cond.static ({ cls := "DialectAtlasModel", name := "isPlace", desc := "(I)Z" } : Jvm.MethodName) ∈ WS := wm 708 (by decide +kernel) (by decide +kernel)
theorem tb_679 : Jvm.Cond.code ({ cls := "DialectAtlasModel", name := "isPlace", desc := "(I)Z" } : Jvm.MethodName) prog_6_method_5_code (1 : Nat) (Option.some Jvm.ClassFile.FieldType.boolean) ∈ WS := wm 709 (by decide +kernel) (by decide +kernel)
theorem tb_680 : Jvm.Cond.methodLink "DialectAtlasModel" (110 : Nat) ({ cls := "DialectAtlasModel", name := "isWord", desc := "(I)Z" } : Jvm.MethodName) ∈ WS := wm 710 (by decide +kernel) (by decide +kernel)
theorem tb_681 : Jvm.Cond.static ({ cls := "DialectAtlasModel", name := "isWord", desc := "(I)Z" } : Jvm.MethodName) ∈ WS := wm 711 (by decide +kernel) (by decide +kernel)
theorem tb_682 : Jvm.Cond.code ({ cls := "DialectAtlasModel", name := "isWord", desc := "(I)Z" } : Jvm.MethodName) prog_6_method_6_code (1 : Nat) (Option.some Jvm.ClassFile.FieldType.boolean) ∈ WS := wm 712 (by decide +kernel) (by decide +kernel)
theorem tb_683 : Jvm.Cond.methodLink "DialectAtlasModel" (113 : Nat) ({ cls := "DialectAtlasModel", name := "drafted", desc := "()I" } : Jvm.MethodName) ∈ WS := wm 713 (by decide +kernel) (by decide +kernel)
theorem tb_685 : Jvm.Cond.instanceMethod ({ cls := "DialectAtlasModel", name := "drafted", desc := "()I" } : Jvm.MethodName) ∈ WS := wm 715 (by decide +kernel) (by decide +kernel)
theorem tb_686 : Jvm.Cond.code ({ cls := "DialectAtlasModel", name := "drafted", desc := "()I" } : Jvm.MethodName) prog_6_method_13_code (2 : Nat) (Option.some Jvm.ClassFile.FieldType.int) ∈ WS := wm 716 (by decide +kernel) (by decide +kernel)
theorem tb_687 : Jvm.Cond.methodLink "DialectAtlasModel" (95 : Nat) ({ cls := "DialectAtlasModel", name := "number", desc := "([II)I" } : Jvm.MethodName) ∈ WS := wm 717 (by decide +kernel) (by decide +kernel)
theorem tb_688 : Jvm.Cond.static ({ cls := "DialectAtlasModel", name := "number", desc := "([II)I" } : Jvm.MethodName) ∈ WS := wm 718 (by decide +kernel) (by decide +kernel)
theorem tb_689 : Jvm.Cond.code ({ cls := "DialectAtlasModel", name := "number", desc := "([II)I" } : Jvm.MethodName) prog_6_method_11_code (4 : Nat) (Option.some Jvm.ClassFile.FieldType.int) ∈ WS := wm 719 (by decide +kernel) (by decide +kernel)
theorem tb_690 : Jvm.Cond.methodLink "DialectAtlasLaw" (95 : Nat) ({ cls := "DialectAtlasModel", name := "setRoot", desc := "(I)I" } : Jvm.MethodName) ∈ WS := wm 720 (by decide +kernel) (by decide +kernel)
theorem tb_691 : Jvm.Cond.instanceMethod ({ cls := "DialectAtlasModel", name := "setRoot", desc := "(I)I" } : Jvm.MethodName) ∈ WS := wm 721 (by decide +kernel) (by decide +kernel)
theorem tb_692 : Jvm.Cond.selects "DialectAtlasModel" ({ cls := "DialectAtlasModel", name := "setRoot", desc := "(I)I" } : Jvm.MethodName) ({ cls := "DialectAtlasModel", name := "setRoot", desc := "(I)I" } : Jvm.MethodName) ∈ WS := wm 722 (by decide +kernel) (by decide +kernel)
theorem tb_693 : Jvm.Cond.code ({ cls := "DialectAtlasModel", name := "setRoot", desc := "(I)I" } : Jvm.MethodName) prog_6_method_16_code (3 : Nat) (Option.some Jvm.ClassFile.FieldType.int) ∈ WS := wm 723 (by decide +kernel) (by decide +kernel)
theorem tb_694 : Jvm.Cond.methodLink "DialectAtlasLaw" (98 : Nat) ({ cls := "DialectAtlasModel", name := "form", desc := "(I)I" } : Jvm.MethodName) ∈ WS := wm 724 (by decide +kernel) (by decide +kernel)
theorem tb_695 : Jvm.Cond.instanceMethod ({ cls := "DialectAtlasModel", name := "form", desc := "(I)I" } : Jvm.MethodName) ∈ WS := wm 725 (by decide +kernel) (by decide +kernel)
theorem tb_696 : Jvm.Cond.selects "DialectAtlasModel" ({ cls := "DialectAtlasModel", name := "form", desc := "(I)I" } : Jvm.MethodName) ({ cls := "DialectAtlasModel", name := "form", desc := "(I)I" } : Jvm.MethodName) ∈ WS := wm 726 (by decide +kernel) (by decide +kernel)
theorem tb_697 : Jvm.Cond.code ({ cls := "DialectAtlasModel", name := "form", desc := "(I)I" } : Jvm.MethodName) prog_6_method_17_code (2 : Nat) (Option.some Jvm.ClassFile.FieldType.int) ∈ WS := wm 727 (by decide +kernel) (by decide +kernel)
theorem tb_698 : Jvm.Cond.methodLink "DialectAtlasModel" (117 : Nat) ({ cls := "DialectAtlasModel", name := "isInterview", desc := "(I)Z" } : Jvm.MethodName) ∈ WS := wm 728 (by decide +kernel) (by decide +kernel)
theorem tb_700 : Jvm.Cond.instanceMethod ({ cls := "DialectAtlasModel", name := "isInterview", desc := "(I)Z" } : Jvm.MethodName) ∈ WS := wm 730 (by decide +kernel) (by decide +kernel)
theorem tb_701 : Jvm.Cond.code ({ cls := "DialectAtlasModel", name := "isInterview", desc := "(I)Z" } : Jvm.MethodName) prog_6_method_9_code (2 : Nat) (Option.some Jvm.ClassFile.FieldType.boolean) ∈ WS := wm 731 (by decide +kernel) (by decide +kernel)
theorem tb_702 : Jvm.Cond.methodLink "DialectAtlasLaw" (102 : Nat) ({ cls := "DialectAtlasModel", name := "rule", desc := "(IIIIII)I" } : Jvm.MethodName) ∈ WS := wm 732 (by decide +kernel) (by decide +kernel)
theorem tb_703 : Jvm.Cond.instanceMethod ({ cls := "DialectAtlasModel", name := "rule", desc := "(IIIIII)I" } : Jvm.MethodName) ∈ WS := wm 733 (by decide +kernel) (by decide +kernel)
theorem tb_704 : Jvm.Cond.selects "DialectAtlasModel" ({ cls := "DialectAtlasModel", name := "rule", desc := "(IIIIII)I" } : Jvm.MethodName) ({ cls := "DialectAtlasModel", name := "rule", desc := "(IIIIII)I" } : Jvm.MethodName) ∈ WS := wm 734 (by decide +kernel) (by decide +kernel)
theorem tb_705 : Jvm.Cond.code ({ cls := "DialectAtlasModel", name := "rule", desc := "(IIIIII)I" } : Jvm.MethodName) prog_6_method_18_code (7 : Nat) (Option.some Jvm.ClassFile.FieldType.int) ∈ WS := wm 735 (by decide +kernel) (by decide +kernel)
theorem tb_706 : Jvm.Cond.methodLink "DialectAtlasLaw" (106 : Nat) ({ cls := "DialectAtlasModel", name := "rest", desc := "(II)I" } : Jvm.MethodName) ∈ WS := wm 736 (by decide +kernel) (by decide +kernel)
theorem tb_707 : Jvm.Cond.instanceMethod ({ cls := "DialectAtlasModel", name := "rest", desc := "(II)I" } : Jvm.MethodName) ∈ WS := wm 737 (by decide +kernel) (by decide +kernel)
theorem tb_708 : Jvm.Cond.selects "DialectAtlasModel" ({ cls := "DialectAtlasModel", name := "rest", desc := "(II)I" } : Jvm.MethodName) ({ cls := "DialectAtlasModel", name := "rest", desc := "(II)I" } : Jvm.MethodName) ∈ WS := wm 738 (by decide +kernel) (by decide +kernel)
theorem tb_709 : Jvm.Cond.code ({ cls := "DialectAtlasModel", name := "rest", desc := "(II)I" } : Jvm.MethodName) prog_6_method_20_code (3 : Nat) (Option.some Jvm.ClassFile.FieldType.int) ∈ WS := wm 739 (by decide +kernel) (by decide +kernel)
theorem tb_710 : Jvm.Cond.methodLink "DialectAtlasModel" (120 : Nat) ({ cls := "DialectAtlasModel", name := "isRule", desc := "(I)Z" } : Jvm.MethodName) ∈ WS := wm 740 (by decide +kernel) (by decide +kernel)
theorem tb_712 : Jvm.Cond.instanceMethod ({ cls := "DialectAtlasModel", name := "isRule", desc := "(I)Z" } : Jvm.MethodName) ∈ WS := wm 742 (by decide +kernel) (by decide +kernel)
theorem tb_713 : Jvm.Cond.code ({ cls := "DialectAtlasModel", name := "isRule", desc := "(I)Z" } : Jvm.MethodName) prog_6_method_10_code (2 : Nat) (Option.some Jvm.ClassFile.FieldType.boolean) ∈ WS := wm 743 (by decide +kernel) (by decide +kernel)
theorem tb_714 : Jvm.Cond.methodLink "DialectAtlasModel" (123 : Nat) ({ cls := "DialectAtlasModel", name := "count", desc := "(J)I" } : Jvm.MethodName) ∈ WS := wm 744 (by decide +kernel) (by decide +kernel)
theorem tb_715 : Jvm.Cond.static ({ cls := "DialectAtlasModel", name := "count", desc := "(J)I" } : Jvm.MethodName) ∈ WS := wm 745 (by decide +kernel) (by decide +kernel)
theorem tb_716 : Jvm.Cond.code ({ cls := "DialectAtlasModel", name := "count", desc := "(J)I" } : Jvm.MethodName) prog_6_method_19_code (4 : Nat) (Option.some Jvm.ClassFile.FieldType.int) ∈ WS := wm 746 (by decide +kernel) (by decide +kernel)
theorem tb_717 : Jvm.Cond.methodLink "DialectAtlasLaw" (109 : Nat) ({ cls := "DialectAtlasModel", name := "stands", desc := "(I)Z" } : Jvm.MethodName) ∈ WS := wm 747 (by decide +kernel) (by decide +kernel)
theorem tb_718 : Jvm.Cond.instanceMethod ({ cls := "DialectAtlasModel", name := "stands", desc := "(I)Z" } : Jvm.MethodName) ∈ WS := wm 748 (by decide +kernel) (by decide +kernel)
theorem tb_719 : Jvm.Cond.selects "DialectAtlasModel" ({ cls := "DialectAtlasModel", name := "stands", desc := "(I)Z" } : Jvm.MethodName) ({ cls := "DialectAtlasModel", name := "stands", desc := "(I)Z" } : Jvm.MethodName) ∈ WS := wm 749 (by decide +kernel) (by decide +kernel)
theorem tb_720 : Jvm.Cond.code ({ cls := "DialectAtlasModel", name := "stands", desc := "(I)Z" } : Jvm.MethodName) prog_6_method_21_code (2 : Nat) (Option.some Jvm.ClassFile.FieldType.boolean) ∈ WS := wm 750 (by decide +kernel) (by decide +kernel)
theorem tb_721 : Jvm.Cond.methodLink "DialectAtlasLaw" (113 : Nat) ({ cls := "DialectAtlasModel", name := "expected", desc := "(III)I" } : Jvm.MethodName) ∈ WS := wm 751 (by decide +kernel) (by decide +kernel)
theorem tb_722 : Jvm.Cond.instanceMethod ({ cls := "DialectAtlasModel", name := "expected", desc := "(III)I" } : Jvm.MethodName) ∈ WS := wm 752 (by decide +kernel) (by decide +kernel)
theorem tb_723 : Jvm.Cond.selects "DialectAtlasModel" ({ cls := "DialectAtlasModel", name := "expected", desc := "(III)I" } : Jvm.MethodName) ({ cls := "DialectAtlasModel", name := "expected", desc := "(III)I" } : Jvm.MethodName) ∈ WS := wm 753 (by decide +kernel) (by decide +kernel)
theorem tb_724 : Jvm.Cond.code ({ cls := "DialectAtlasModel", name := "expected", desc := "(III)I" } : Jvm.MethodName) prog_6_method_24_code (4 : Nat) (Option.some Jvm.ClassFile.FieldType.int) ∈ WS := wm 754 (by decide +kernel) (by decide +kernel)
theorem tb_725 : Jvm.Cond.methodLink "DialectAtlasModel" (135 : Nat) ({ cls := "DialectAtlasModel", name := "expects", desc := "(III)I" } : Jvm.MethodName) ∈ WS := wm 755 (by decide +kernel) (by decide +kernel)
theorem tb_727 : Jvm.Cond.instanceMethod ({ cls := "DialectAtlasModel", name := "expects", desc := "(III)I" } : Jvm.MethodName) ∈ WS := wm 757 (by decide +kernel) (by decide +kernel)
theorem tb_728 : Jvm.Cond.code ({ cls := "DialectAtlasModel", name := "expects", desc := "(III)I" } : Jvm.MethodName) prog_6_method_23_code (6 : Nat) (Option.some Jvm.ClassFile.FieldType.int) ∈ WS := wm 758 (by decide +kernel) (by decide +kernel)
theorem tb_729 : Jvm.Cond.methodLink "DialectAtlasModel" (127 : Nat) ({ cls := "DialectAtlasModel", name := "lays", desc := "(I[I)I" } : Jvm.MethodName) ∈ WS := wm 759 (by decide +kernel) (by decide +kernel)
theorem tb_730 : Jvm.Cond.static ({ cls := "DialectAtlasModel", name := "lays", desc := "(I[I)I" } : Jvm.MethodName) ∈ WS := wm 760 (by decide +kernel) (by decide +kernel)
theorem tb_731 : Jvm.Cond.code ({ cls := "DialectAtlasModel", name := "lays", desc := "(I[I)I" } : Jvm.MethodName) prog_6_method_12_code (5 : Nat) (Option.some Jvm.ClassFile.FieldType.int) ∈ WS := wm 761 (by decide +kernel) (by decide +kernel)
theorem tb_732 : Jvm.Cond.methodLink "DialectAtlasModel" (131 : Nat) ({ cls := "DialectAtlasModel", name := "applies", desc := "(II)I" } : Jvm.MethodName) ∈ WS := wm 762 (by decide +kernel) (by decide +kernel)
theorem tb_734 : Jvm.Cond.instanceMethod ({ cls := "DialectAtlasModel", name := "applies", desc := "(II)I" } : Jvm.MethodName) ∈ WS := wm 764 (by decide +kernel) (by decide +kernel)
theorem tb_735 : Jvm.Cond.code ({ cls := "DialectAtlasModel", name := "applies", desc := "(II)I" } : Jvm.MethodName) prog_6_method_22_code (8 : Nat) (Option.some Jvm.ClassFile.FieldType.int) ∈ WS := wm 765 (by decide +kernel) (by decide +kernel)
theorem tb_736 : Jvm.Cond.methodLink "DialectAtlasLaw" (116 : Nat) ({ cls := "DialectAtlasModel", name := "far", desc := "(I)I" } : Jvm.MethodName) ∈ WS := wm 766 (by decide +kernel) (by decide +kernel)
theorem tb_737 : Jvm.Cond.instanceMethod ({ cls := "DialectAtlasModel", name := "far", desc := "(I)I" } : Jvm.MethodName) ∈ WS := wm 767 (by decide +kernel) (by decide +kernel)
theorem tb_738 : Jvm.Cond.selects "DialectAtlasModel" ({ cls := "DialectAtlasModel", name := "far", desc := "(I)I" } : Jvm.MethodName) ({ cls := "DialectAtlasModel", name := "far", desc := "(I)I" } : Jvm.MethodName) ∈ WS := wm 768 (by decide +kernel) (by decide +kernel)
theorem tb_739 : Jvm.Cond.code ({ cls := "DialectAtlasModel", name := "far", desc := "(I)I" } : Jvm.MethodName) prog_6_method_26_code (2 : Nat) (Option.some Jvm.ClassFile.FieldType.int) ∈ WS := wm 769 (by decide +kernel) (by decide +kernel)
theorem tb_740 : Jvm.Cond.methodLink "DialectAtlasModel" (139 : Nat) ({ cls := "DialectAtlasModel", name := "distance", desc := "(II)I" } : Jvm.MethodName) ∈ WS := wm 770 (by decide +kernel) (by decide +kernel)
theorem tb_742 : Jvm.Cond.instanceMethod ({ cls := "DialectAtlasModel", name := "distance", desc := "(II)I" } : Jvm.MethodName) ∈ WS := wm 772 (by decide +kernel) (by decide +kernel)
theorem tb_743 : Jvm.Cond.code ({ cls := "DialectAtlasModel", name := "distance", desc := "(II)I" } : Jvm.MethodName) prog_6_method_25_code (10 : Nat) (Option.some Jvm.ClassFile.FieldType.int) ∈ WS := wm 773 (by decide +kernel) (by decide +kernel)
theorem tb_744 : Jvm.Cond.methodLink "DialectAtlasLaw" (119 : Nat) ({ cls := "DialectAtlasModel", name := "formAt", desc := "(II)I" } : Jvm.MethodName) ∈ WS := wm 774 (by decide +kernel) (by decide +kernel)
theorem tb_745 : Jvm.Cond.instanceMethod ({ cls := "DialectAtlasModel", name := "formAt", desc := "(II)I" } : Jvm.MethodName) ∈ WS := wm 775 (by decide +kernel) (by decide +kernel)
theorem tb_746 : Jvm.Cond.selects "DialectAtlasModel" ({ cls := "DialectAtlasModel", name := "formAt", desc := "(II)I" } : Jvm.MethodName) ({ cls := "DialectAtlasModel", name := "formAt", desc := "(II)I" } : Jvm.MethodName) ∈ WS := wm 776 (by decide +kernel) (by decide +kernel)
theorem tb_747 : Jvm.Cond.code ({ cls := "DialectAtlasModel", name := "formAt", desc := "(II)I" } : Jvm.MethodName) prog_6_method_28_code (3 : Nat) (Option.some Jvm.ClassFile.FieldType.int) ∈ WS := wm 777 (by decide +kernel) (by decide +kernel)
theorem tb_748 : Jvm.Cond.methodLink "DialectAtlasModel" (142 : Nat) ({ cls := "DialectAtlasModel", name := "most", desc := "(II)I" } : Jvm.MethodName) ∈ WS := wm 778 (by decide +kernel) (by decide +kernel)
theorem tb_750 : Jvm.Cond.instanceMethod ({ cls := "DialectAtlasModel", name := "most", desc := "(II)I" } : Jvm.MethodName) ∈ WS := wm 780 (by decide +kernel) (by decide +kernel)
theorem tb_751 : Jvm.Cond.code ({ cls := "DialectAtlasModel", name := "most", desc := "(II)I" } : Jvm.MethodName) prog_6_method_27_code (8 : Nat) (Option.some Jvm.ClassFile.FieldType.int) ∈ WS := wm 781 (by decide +kernel) (by decide +kernel)
theorem tb_752 : Jvm.Cond.methodLink "DialectAtlasLaw" (122 : Nat) ({ cls := "DialectAtlasModel", name := "lines", desc := "(I)I" } : Jvm.MethodName) ∈ WS := wm 782 (by decide +kernel) (by decide +kernel)
theorem tb_753 : Jvm.Cond.instanceMethod ({ cls := "DialectAtlasModel", name := "lines", desc := "(I)I" } : Jvm.MethodName) ∈ WS := wm 783 (by decide +kernel) (by decide +kernel)
theorem tb_754 : Jvm.Cond.selects "DialectAtlasModel" ({ cls := "DialectAtlasModel", name := "lines", desc := "(I)I" } : Jvm.MethodName) ({ cls := "DialectAtlasModel", name := "lines", desc := "(I)I" } : Jvm.MethodName) ∈ WS := wm 784 (by decide +kernel) (by decide +kernel)
theorem tb_755 : Jvm.Cond.code ({ cls := "DialectAtlasModel", name := "lines", desc := "(I)I" } : Jvm.MethodName) prog_6_method_30_code (2 : Nat) (Option.some Jvm.ClassFile.FieldType.int) ∈ WS := wm 785 (by decide +kernel) (by decide +kernel)
theorem tb_756 : Jvm.Cond.methodLink "DialectAtlasModel" (145 : Nat) ({ cls := "DialectAtlasModel", name := "drawn", desc := "(I)I" } : Jvm.MethodName) ∈ WS := wm 786 (by decide +kernel) (by decide +kernel)
theorem tb_758 : Jvm.Cond.instanceMethod ({ cls := "DialectAtlasModel", name := "drawn", desc := "(I)I" } : Jvm.MethodName) ∈ WS := wm 788 (by decide +kernel) (by decide +kernel)
theorem tb_759 : Jvm.Cond.code ({ cls := "DialectAtlasModel", name := "drawn", desc := "(I)I" } : Jvm.MethodName) prog_6_method_29_code (6 : Nat) (Option.some Jvm.ClassFile.FieldType.int) ∈ WS := wm 789 (by decide +kernel) (by decide +kernel)
theorem tb_760 : Jvm.Cond.methodLink "DialectAtlasLaw" (125 : Nat) ({ cls := "DialectAtlasModel", name := "linesByForms", desc := "(I)I" } : Jvm.MethodName) ∈ WS := wm 790 (by decide +kernel) (by decide +kernel)
theorem tb_761 : Jvm.Cond.instanceMethod ({ cls := "DialectAtlasModel", name := "linesByForms", desc := "(I)I" } : Jvm.MethodName) ∈ WS := wm 791 (by decide +kernel) (by decide +kernel)
theorem tb_762 : Jvm.Cond.selects "DialectAtlasModel" ({ cls := "DialectAtlasModel", name := "linesByForms", desc := "(I)I" } : Jvm.MethodName) ({ cls := "DialectAtlasModel", name := "linesByForms", desc := "(I)I" } : Jvm.MethodName) ∈ WS := wm 792 (by decide +kernel) (by decide +kernel)
theorem tb_763 : Jvm.Cond.code ({ cls := "DialectAtlasModel", name := "linesByForms", desc := "(I)I" } : Jvm.MethodName) prog_6_method_31_code (2 : Nat) (Option.some Jvm.ClassFile.FieldType.int) ∈ WS := wm 793 (by decide +kernel) (by decide +kernel)
theorem tb_764 : Jvm.Cond.methodLink "DialectAtlasLaw" (128 : Nat) ({ cls := "DialectAtlasModel", name := "forget", desc := "(I)I" } : Jvm.MethodName) ∈ WS := wm 794 (by decide +kernel) (by decide +kernel)
theorem tb_765 : Jvm.Cond.instanceMethod ({ cls := "DialectAtlasModel", name := "forget", desc := "(I)I" } : Jvm.MethodName) ∈ WS := wm 795 (by decide +kernel) (by decide +kernel)
theorem tb_766 : Jvm.Cond.selects "DialectAtlasModel" ({ cls := "DialectAtlasModel", name := "forget", desc := "(I)I" } : Jvm.MethodName) ({ cls := "DialectAtlasModel", name := "forget", desc := "(I)I" } : Jvm.MethodName) ∈ WS := wm 796 (by decide +kernel) (by decide +kernel)
theorem tb_767 : Jvm.Cond.code ({ cls := "DialectAtlasModel", name := "forget", desc := "(I)I" } : Jvm.MethodName) prog_6_method_32_code (7 : Nat) (Option.some Jvm.ClassFile.FieldType.int) ∈ WS := wm 797 (by decide +kernel) (by decide +kernel)
theorem tb_768 : Jvm.Cond.constantLong "DialectAtlasModel" (148 : Nat) (-1 : Int64) ∈ WS := wm 798 (by decide +kernel) (by decide +kernel)
theorem tb_769 : Jvm.Cond.methodLink "DialectAtlasLaw" (131 : Nat) ({ cls := "DialectAtlasModel", name := "copy", desc := "(I)I" } : Jvm.MethodName) ∈ WS := wm 799 (by decide +kernel) (by decide +kernel)
theorem tb_770 : Jvm.Cond.instanceMethod ({ cls := "DialectAtlasModel", name := "copy", desc := "(I)I" } : Jvm.MethodName) ∈ WS := wm 800 (by decide +kernel) (by decide +kernel)
theorem tb_771 : Jvm.Cond.selects "DialectAtlasModel" ({ cls := "DialectAtlasModel", name := "copy", desc := "(I)I" } : Jvm.MethodName) ({ cls := "DialectAtlasModel", name := "copy", desc := "(I)I" } : Jvm.MethodName) ∈ WS := wm 801 (by decide +kernel) (by decide +kernel)
theorem tb_772 : Jvm.Cond.code ({ cls := "DialectAtlasModel", name := "copy", desc := "(I)I" } : Jvm.MethodName) prog_6_method_34_code (2 : Nat) (Option.some Jvm.ClassFile.FieldType.int) ∈ WS := wm 802 (by decide +kernel) (by decide +kernel)
theorem tb_773 : Jvm.Cond.methodLink "DialectAtlasModel" (150 : Nat) ({ cls := "DialectAtlasModel", name := "isSchool", desc := "(I)Z" } : Jvm.MethodName) ∈ WS := wm 803 (by decide +kernel) (by decide +kernel)
theorem tb_774 : Jvm.Cond.static ({ cls := "DialectAtlasModel", name := "isSchool", desc := "(I)Z" } : Jvm.MethodName) ∈ WS := wm 804 (by decide +kernel) (by decide +kernel)
theorem tb_775 : Jvm.Cond.code ({ cls := "DialectAtlasModel", name := "isSchool", desc := "(I)Z" } : Jvm.MethodName) prog_6_method_8_code (1 : Nat) (Option.some Jvm.ClassFile.FieldType.boolean) ∈ WS := wm 805 (by decide +kernel) (by decide +kernel)
theorem tb_776 : Jvm.Cond.methodLink "DialectAtlasModel" (153 : Nat) ({ cls := "DialectAtlasModel", name := "there", desc := "()J" } : Jvm.MethodName) ∈ WS := wm 806 (by decide +kernel) (by decide +kernel)
theorem tb_778 : Jvm.Cond.instanceMethod ({ cls := "DialectAtlasModel", name := "there", desc := "()J" } : Jvm.MethodName) ∈ WS := wm 808 (by decide +kernel) (by decide +kernel)
theorem tb_779 : Jvm.Cond.code ({ cls := "DialectAtlasModel", name := "there", desc := "()J" } : Jvm.MethodName) prog_6_method_33_code (4 : Nat) (Option.some Jvm.ClassFile.FieldType.long) ∈ WS := wm 809 (by decide +kernel) (by decide +kernel)
theorem tb_780 : Jvm.Cond.methodLink "DialectAtlasLaw" (134 : Nat) ({ cls := "DialectAtlasModel", name := "tell", desc := "(I)I" } : Jvm.MethodName) ∈ WS := wm 810 (by decide +kernel) (by decide +kernel)
theorem tb_781 : Jvm.Cond.instanceMethod ({ cls := "DialectAtlasModel", name := "tell", desc := "(I)I" } : Jvm.MethodName) ∈ WS := wm 811 (by decide +kernel) (by decide +kernel)
theorem tb_782 : Jvm.Cond.selects "DialectAtlasModel" ({ cls := "DialectAtlasModel", name := "tell", desc := "(I)I" } : Jvm.MethodName) ({ cls := "DialectAtlasModel", name := "tell", desc := "(I)I" } : Jvm.MethodName) ∈ WS := wm 812 (by decide +kernel) (by decide +kernel)
theorem tb_783 : Jvm.Cond.code ({ cls := "DialectAtlasModel", name := "tell", desc := "(I)I" } : Jvm.MethodName) prog_6_method_35_code (3 : Nat) (Option.some Jvm.ClassFile.FieldType.int) ∈ WS := wm 813 (by decide +kernel) (by decide +kernel)
theorem tb_784 : Jvm.Cond.methodLink "DialectAtlasLaw" (137 : Nat) ({ cls := "DialectAtlasModel", name := "owed", desc := "(I)I" } : Jvm.MethodName) ∈ WS := wm 814 (by decide +kernel) (by decide +kernel)
theorem tb_785 : Jvm.Cond.instanceMethod ({ cls := "DialectAtlasModel", name := "owed", desc := "(I)I" } : Jvm.MethodName) ∈ WS := wm 815 (by decide +kernel) (by decide +kernel)
theorem tb_786 : Jvm.Cond.selects "DialectAtlasModel" ({ cls := "DialectAtlasModel", name := "owed", desc := "(I)I" } : Jvm.MethodName) ({ cls := "DialectAtlasModel", name := "owed", desc := "(I)I" } : Jvm.MethodName) ∈ WS := wm 816 (by decide +kernel) (by decide +kernel)
theorem tb_787 : Jvm.Cond.code ({ cls := "DialectAtlasModel", name := "owed", desc := "(I)I" } : Jvm.MethodName) prog_6_method_36_code (2 : Nat) (Option.some Jvm.ClassFile.FieldType.int) ∈ WS := wm 817 (by decide +kernel) (by decide +kernel)
theorem tb_788 : Jvm.Cond.methodLink "DialectAtlasLaw" (140 : Nat) ({ cls := "DialectAtlasModel", name := "quote", desc := "(I)I" } : Jvm.MethodName) ∈ WS := wm 818 (by decide +kernel) (by decide +kernel)
theorem tb_789 : Jvm.Cond.instanceMethod ({ cls := "DialectAtlasModel", name := "quote", desc := "(I)I" } : Jvm.MethodName) ∈ WS := wm 819 (by decide +kernel) (by decide +kernel)
theorem tb_790 : Jvm.Cond.selects "DialectAtlasModel" ({ cls := "DialectAtlasModel", name := "quote", desc := "(I)I" } : Jvm.MethodName) ({ cls := "DialectAtlasModel", name := "quote", desc := "(I)I" } : Jvm.MethodName) ∈ WS := wm 820 (by decide +kernel) (by decide +kernel)
theorem tb_791 : Jvm.Cond.code ({ cls := "DialectAtlasModel", name := "quote", desc := "(I)I" } : Jvm.MethodName) prog_6_method_37_code (2 : Nat) (Option.some Jvm.ClassFile.FieldType.int) ∈ WS := wm 821 (by decide +kernel) (by decide +kernel)
theorem tb_792 : Jvm.Cond.methodLink "DialectAtlasLaw" (143 : Nat) ({ cls := "DialectAtlasModel", name := "quoted", desc := "(I)I" } : Jvm.MethodName) ∈ WS := wm 822 (by decide +kernel) (by decide +kernel)
theorem tb_793 : Jvm.Cond.instanceMethod ({ cls := "DialectAtlasModel", name := "quoted", desc := "(I)I" } : Jvm.MethodName) ∈ WS := wm 823 (by decide +kernel) (by decide +kernel)
theorem tb_794 : Jvm.Cond.selects "DialectAtlasModel" ({ cls := "DialectAtlasModel", name := "quoted", desc := "(I)I" } : Jvm.MethodName) ({ cls := "DialectAtlasModel", name := "quoted", desc := "(I)I" } : Jvm.MethodName) ∈ WS := wm 824 (by decide +kernel) (by decide +kernel)
theorem tb_795 : Jvm.Cond.code ({ cls := "DialectAtlasModel", name := "quoted", desc := "(I)I" } : Jvm.MethodName) prog_6_method_38_code (2 : Nat) (Option.some Jvm.ClassFile.FieldType.int) ∈ WS := wm 825 (by decide +kernel) (by decide +kernel)
theorem tb_796 : Jvm.Cond.sameMethod "java/lang/Throwable" "java/lang/Throwable" "fillInStackTrace" "(I)Ljava/lang/Throwable;" ∈ WS := wm 826 (by decide +kernel) (by decide +kernel)
theorem tn_797 : Jvm.Cond.castable "DialectAtlas" "java/lang/Object" ∈ NGW := nm 827 (by decide +kernel) (by decide +kernel)
theorem tn_798 : Jvm.Cond.castable "java/util/ArrayList" "java/lang/Object" ∈ NGW := nm 828 (by decide +kernel) (by decide +kernel)
theorem tn_799 : Jvm.Cond.castable "DialectAtlas$StepCounter" "java/lang/Object" ∈ NGW := nm 829 (by decide +kernel) (by decide +kernel)
theorem tn_800 : Jvm.Cond.castable "DialectAtlasModel" "java/lang/Object" ∈ NGW := nm 830 (by decide +kernel) (by decide +kernel)
theorem tn_801 : Jvm.Cond.castable "java/lang/IndexOutOfBoundsException" "java/lang/Object" ∈ NGW := nm 831 (by decide +kernel) (by decide +kernel)
theorem tn_802 : Jvm.Cond.castable "java/lang/IllegalStateException" "java/lang/Object" ∈ NGW := nm 832 (by decide +kernel) (by decide +kernel)
theorem tn_803 : Jvm.Cond.castable "java/lang/IllegalArgumentException" "java/lang/Object" ∈ NGW := nm 833 (by decide +kernel) (by decide +kernel)
theorem tn_804 : Jvm.Cond.castable "DialectAtlas$Interview" "java/lang/Object" ∈ NGW := nm 834 (by decide +kernel) (by decide +kernel)
theorem tn_805 : Jvm.Cond.castable "DialectAtlas$Rule" "java/lang/Object" ∈ NGW := nm 835 (by decide +kernel) (by decide +kernel)
theorem tn_806 : Jvm.Cond.castable "java/lang/Throwable" "java/lang/Object" ∈ NGW := nm 836 (by decide +kernel) (by decide +kernel)
theorem tn_807 : Jvm.Cond.castable "java/lang/String" "java/lang/Object" ∈ NGW := nm 837 (by decide +kernel) (by decide +kernel)
theorem tb_808 : Jvm.Cond.sameMethod "[Ljava/lang/Object;" "java/lang/Object" "getClass" "()Ljava/lang/Class;" ∈ WS := wm 838 (by decide +kernel) (by decide +kernel)
theorem tb_809 : Jvm.Cond.selects "[Ljava/lang/Object;" ({ cls := "java/lang/Object", name := "getClass", desc := "()Ljava/lang/Class;" } : Jvm.MethodName) ({ cls := "java/lang/Object", name := "getClass", desc := "()Ljava/lang/Class;" } : Jvm.MethodName) ∈ WS := wm 839 (by decide +kernel) (by decide +kernel)
theorem tn_810 : Jvm.Cond.declares ({ cls := "java/lang/Object", name := "getClass", desc := "()Ljava/lang/Class;" } : Jvm.MethodName) ∈ NGW := nm 840 (by decide +kernel) (by decide +kernel)
theorem tn_811 : Jvm.Cond.castable "[I" "java/lang/Object" ∈ NGW := nm 841 (by decide +kernel) (by decide +kernel)
theorem tn_812 : Jvm.Cond.castable "[J" "java/lang/Object" ∈ NGW := nm 842 (by decide +kernel) (by decide +kernel)
theorem tn_813 : Jvm.Cond.castable "[B" "java/lang/Object" ∈ NGW := nm 843 (by decide +kernel) (by decide +kernel)
theorem tn_814 : Jvm.Cond.castable "[Ljava/lang/Object;" "java/lang/Object" ∈ NGW := nm 844 (by decide +kernel) (by decide +kernel)
theorem tn_815 : Jvm.Cond.castable "[Z" "java/lang/Object" ∈ NGW := nm 845 (by decide +kernel) (by decide +kernel)
end
section
abbrev q_G : Type := va_G × (ClassId × ClassId × ClassId × ClassId) × Nat × Nat
abbrev q_cI (g : q_G) : ClassId := g.2.1.1
abbrev q_cJ (g : q_G) : ClassId := g.2.1.2.1
abbrev q_cZ (g : q_G) : ClassId := g.2.1.2.2.1
abbrev q_cO (g : q_G) : ClassId := g.2.1.2.2.2
abbrev q_tys (g : q_G) : List (ClassId × FieldType) := [(g.2.1.1, .int), (g.2.1.2.1, .long), (g.2.1.2.2.1, .boolean), (g.2.1.2.2.2, .object "java/lang/Object")]
def q_A (g : q_G) : Nat → Prop := fun q => g.2.2.1 ≤ q
def STR : List (Nat × String) := [(63, "no such sound"), (70, "the draft has 8 sounds"), (73, "no such informant, place or word"), (77, "no such year"), (84, "the draft is empty, or there are 40 interviews"), (102, "no such word"), (104, "the draft is empty"), (106, "no such interview"), (116, "no such sound, or no such place"), (122, "the sound cannot become that, or not before that"), (124, "no such range of places, or no such year"), (126, "there are 20 rules"), (133, "no such rule or interview"), (146, "the rule cannot rest on the interview, or does so"), (160, "no such rule"), (162, "no such word or place"), (187, "no such informant"), (199, "no such school"), (201, "the interview is forgotten, or there are 20 quotes"), (203, "no such quote")]
def NCP : List (String × String) := [("java/lang/IllegalArgumentException", "java/lang/IndexOutOfBoundsException"), ("java/lang/IllegalStateException", "java/lang/IndexOutOfBoundsException"), ("java/lang/IllegalStateException", "java/lang/IllegalArgumentException")]
def q_env (g : q_G) (U : State) : Prop :=
  g.2.2.1 ≤ U.heap.size ∧ va_K g.1 vwCl (q_tys g) U ∧ (∀ w ∈ NGW, va_Nw w U) ∧ (∀ q ∈ STR, ∃ sa, vk_R RX3 q.1 q.2 sa U) ∧ (∀ q ∈ NCP, va_Nc q.1 q.2 U) ∧
  vx_Zq Bundle.tN "UNASSIGNED_STACK" Bundle.steD (q_A g) U U.heap ∧ vx_Zq Bundle.tN "SUPPRESSED_SENTINEL" Bundle.listD (q_A g) U U.heap ∧
  va_Z "java/util/ArrayList" "DEFAULTCAPACITY_EMPTY_ELEMENTDATA" "[Ljava/lang/Object;" (.ref g.2.2.2) (q_A g) U U.heap ∧ va_T (.object "java/lang/Object") g.2.2.2 0 (fun _ => .null) (q_A g) U U.heap ∧ va_AO "java/lang/Object" U ∧ (∃ mi, va_Mi "[Ljava/lang/Object;" mi U)
theorem ng_warm {w : Cond} (hw : ngk w = true) {s U : State} (hW : s.WarmedH U.vm) (h : va_Nw w s) : va_Nw w U := by
  cases w <;> first | exact va_Nw.warmF hW h | exact va_Nw.warmM hW h | exact va_Nw.warmC hW h | exact va_Nw.warmD hW h | (cases hw; done)
theorem ng_tab {w : Cond} (hw : ngk w = true) : w.onTables = true := by
  cases w <;> first | rfl | (cases hw; done)
theorem ng_ng {w : Cond} (hw : w ∈ NGW) : ngk w = true := (List.mem_filter.mp hw).2
theorem q_env.go {g : q_G} {s U : State} {H : Heap} {locs : List Loc} (h : q_env g s) (hU : U.heap = H) (hW : s.WarmedH U.vm) (hS : va_S (q_A g) s.heap H locs) : q_env g U := by
  obtain ⟨h1, h2, h3, h4, h5, h6, h7, h8, h9, h10, mi, h11⟩ := h
  have ha := hW.alike
  have hk : ∀ a : Nat, a < s.heap.size → ¬ q_A g a → U.heap[a]? = s.heap[a]? := fun a z1 z2 => by rw [hU]; exact hS.2.1 a z1 z2
  exact ⟨Nat.le_trans h1 (by rw [hU]; exact hS.1), va_K.moved ha h2, fun w hw => ng_warm (ng_ng hw) hW (h3 w hw), fun q hq => (h4 q hq).elim (fun sa z => ⟨sa, vk_R.warm hW z⟩), fun q hq => va_Nc.moved ha (h5 q hq),
    vx_Zq.kept (vx_Zq.moved ha h6) hk, vx_Zq.kept (vx_Zq.moved ha h7) hk, va_Z.kept (va_Z.moved ha h8) hk, va_T.kept (va_T.moved ha h9) hk, va_AO.moved ha h10, mi, va_Mi.moved ha h11⟩
theorem q_env.calling {g : q_G} {U : State} (h : q_env g U) (gf : JFrame) (mk : MethodId) (a : Array Value) : q_env g (U.calling gf mk a) :=
  h.go (H := U.heap) (locs := []) rfl (State.WarmedH.refl U) va_S.rf
def q_in (g : q_G) (ws : va_W) (H : Heap) : Prop := va_P g.1 vwCl ws H ∧ va_D (q_A g) ws
def q_Pc (g : q_G) (av : List Value) (ws : va_W) : Array Value → State → Prop := va_Pc av (fun U => q_env g U ∧ q_in g ws U.heap)
theorem q_Pc.blind {g : q_G} {av : List Value} {ws : va_W} : FrameBlind (q_Pc g av ws) := fun a U gf mk h => ⟨h.1, h.2.1.calling gf mk a, h.2.2⟩
def q_B (g : q_G) : va_W → State → Prop := fun w t => q_in g w t.heap
abbrev q_Qi (g : q_G) (post : Int32 → va_W → Prop) : Array Value → State → Outcome → State → Prop := va_Qi post (q_B g) (q_A g)
abbrev q_Ql (g : q_G) (post : Int64 → va_W → Prop) : Array Value → State → Outcome → State → Prop := va_Ql post (q_B g) (q_A g)
abbrev q_Qv (g : q_G) (post : va_W → Prop) : Array Value → State → Outcome → State → Prop := va_Qv post (q_B g) (q_A g)
abbrev q_Qq (g : q_G) (post : Option Nat → va_W → Prop) : Array Value → State → Outcome → State → Prop := va_Qq post (q_B g) (q_A g)
abbrev q_XC (g : q_G) (pe : String → va_W → Prop) : String → State → State → Prop := vx_X (fun _ : va_W => True) (fun E w t => pe E w ∧ q_in g w t.heap) (q_A g)
abbrev MetW (l : Launch) (g : q_G) (y : MethodName) (bytes : ByteArray) (maxL : Nat) (ret : Option FieldType) (rm : Room) (av : List Value) (ws : va_W) (Qc : Array Value → State → Outcome → State → Prop) : Prop := Met l y (Cond.code y bytes maxL ret :: WS) rm (q_Pc g av ws) Qc rm.cells rm.slots (q_A g)
abbrev MetX (l : Launch) (g : q_G) (y : MethodName) (bytes : ByteArray) (maxL : Nat) (ret : Option FieldType) (rm : Room) (av : List Value) (ws : va_W) (Qc : Array Value → State → Outcome → State → Prop) (pe : String → va_W → Prop) : Prop := vx_Met l y (Cond.code y bytes maxL ret :: WS) rm (q_Pc g av ws) Qc (q_XC g pe) rm.cells rm.slots (q_A g)
abbrev MetH (l : Launch) (g : q_G) (y : MethodName) (bytes : ByteArray) (maxL : Nat) (ret : Option FieldType) (hh : List (Nat × Nat × Nat × Nat)) (rm : Room) (av : List Value) (ws : va_W) (Qc : Array Value → State → Outcome → State → Prop) : Prop := Met l y (Cond.codeWith y bytes maxL ret hh :: WS) rm (q_Pc g av ws) Qc rm.cells rm.slots (q_A g)
theorem ws_good {w : Cond} (h : w ∈ WS) : goodWord w = true := (List.mem_filter.mp h).2
theorem gi_ws {ws : List Cond} (h : ∀ w ∈ ws, w ∈ WS) : GoodIn WS ws := fun w hw => ⟨h w hw, good_of_word (ws_good (h w hw))⟩
theorem gi_code {c : Cond} (h : c ∈ WS) : GoodIn WS (c :: WS) := gi_ws (fun w hw => (List.mem_cons.mp hw).elim (fun e => e ▸ h) id)
theorem gi_V {own C : String} {idx : Nat} {y : MethodName} {c : Cond} (m1 : Cond.methodLink own idx y ∈ WS) (m2 : Cond.instanceMethod y ∈ WS) (m3 : Cond.selects C y y ∈ WS) (m4 : Cond.initialized C ∈ WS) (m5 : c ∈ WS) : GoodIn WS (wsV own idx C y (c :: WS)) := gi_ws (fun w hw => by
  simp only [wsV, List.cons_append, List.nil_append, List.mem_cons] at hw
  rcases hw with rfl | rfl | rfl | rfl | rfl | hw
  · exact m1
  · exact m2
  · exact m3
  · exact m4
  · exact m5
  · exact hw)
theorem gi_S {own : String} {idx : Nat} {y : MethodName} {c : Cond} (m1 : Cond.methodLink own idx y ∈ WS) (m2 : Cond.static y ∈ WS) (m4 : Cond.initialized y.cls ∈ WS) (m5 : c ∈ WS) : GoodIn WS (va_wsS own idx y (c :: WS)) := gi_ws (fun w hw => by
  simp only [va_wsS, List.cons_append, List.nil_append, List.mem_cons] at hw
  rcases hw with rfl | rfl | rfl | rfl | hw
  · exact m1
  · exact m2
  · exact m4
  · exact m5
  · exact hw)
def bI : Bool → Int32
  | true => 1
  | false => 0
theorem bI_f : bI false = 0 := rfl
theorem bI_t : bI true = 1 := rfl
theorem bI_z (b : Bool) : bI b = 0 ↔ b = false := by cases b <;> decide
theorem bI_nar (b : Bool) : narrow .boolean (.int (bI b)) = .int (bI b) := by cases b <;> rfl
theorem bI_vnar (b : Bool) : vp_nar .boolean (bI b) = bI b := by cases b <;> rfl
theorem q_lkm {i : Nat} {v : Value} : ∀ {lv : List (Nat × Value)}, lv.lookup i = some v → (i, v) ∈ lv
  | [], h => by simp at h
  | (k, b) :: xs, h => by
    rw [List.lookup_cons] at h
    by_cases hk : (i == k) = true
    · rw [hk] at h
      have e : i = k := by simpa using hk
      have e2 : b = v := by simpa using h
      subst e; subst e2
      exact List.mem_cons_self
    · rw [Bool.eq_false_iff.mpr hk] at h
      exact List.mem_cons_of_mem _ (q_lkm h)
theorem q_lk {ls : Array Slot} {nL : Nat} {lv : List (Nat × Value)} {i : Nat} {v : Value} (h : lv_has ls nL lv) (hk : lv.lookup i = some v) : ls[i]? = some (.val v) := h.2.2 (i, v) (q_lkm hk)
theorem q_lks {ls : Array Slot} {nL : Nat} {lv lv' : List (Nat × Value)} (h : lv_has ls nL lv) (hs : ∀ q ∈ lv', q ∈ lv) : lv_has ls nL lv' := ⟨h.1, h.2.1, fun q hq => h.2.2 q (hs q hq)⟩
/-- two worlds of the same cells -/
theorem q_P_perm {D : va_G} {cl : List vw_C} {a b : va_W} {H : Heap} (hp : a.Perm b) (h : va_P D cl a H) : va_P D cl b H := fun k q hq => by
  obtain ⟨i, hi⟩ := List.getElem?_of_mem (hp.mem_iff.mpr (List.mem_of_getElem? hq))
  exact h i q hi
theorem q_D_nd {A : Nat → Prop} {a : va_W} : va_D A a ↔ (a.map Prod.fst).Nodup ∧ ∀ q ∈ a, A q.1 := by
  constructor
  · intro h
    refine ⟨?_, fun q hq => ?_⟩
    · rw [List.Nodup, List.pairwise_iff_getElem]
      intro i j hi hj hij he
      have hi' : i < a.length := by simpa using hi
      have hj' : j < a.length := by simpa using hj
      have e1 : a[i]? = some a[i] := List.getElem?_eq_getElem hi'
      have e2 : a[j]? = some a[j] := List.getElem?_eq_getElem hj'
      have := h.1 i j _ _ e1 e2 (by simpa using he)
      omega
    · obtain ⟨k, hk⟩ := List.getElem?_of_mem hq
      exact h.2 k q hk
  · intro h
    refine ⟨fun i j p q hi hj he => ?_, fun k q hk => h.2 q (List.mem_of_getElem? hk)⟩
    have hn := List.pairwise_iff_getElem.mp h.1
    obtain ⟨li, ei⟩ := List.getElem?_eq_some_iff.mp hi
    obtain ⟨lj, ej⟩ := List.getElem?_eq_some_iff.mp hj
    rcases Nat.lt_trichotomy i j with z | z | z
    · exact absurd (show (a.map Prod.fst)[i]'(by simpa using li) = (a.map Prod.fst)[j]'(by simpa using lj) by rw [List.getElem_map, List.getElem_map, ei, ej]; exact he) (hn i j _ _ z)
    · exact z
    · exact absurd (show (a.map Prod.fst)[j]'(by simpa using lj) = (a.map Prod.fst)[i]'(by simpa using li) by rw [List.getElem_map, List.getElem_map, ei, ej]; exact he.symm) (hn j i _ _ z)
theorem q_D_perm {A : Nat → Prop} {a b : va_W} (hp : a.Perm b) (h : va_D A a) : va_D A b := by
  rw [q_D_nd] at h ⊢
  exact ⟨(hp.map Prod.fst).nodup_iff.mp h.1, fun q hq => h.2 q (hp.mem_iff.mpr hq)⟩
theorem q_in.perm {g : q_G} {a b : va_W} {H : Heap} (hp : a.Perm b) (h : q_in g a H) : q_in g b H := ⟨q_P_perm hp h.1, q_D_perm hp h.2⟩
end
section
section ROWS
variable {p : Program} {l : Launch} {e : Env} {R : Room} {s : State} {m : MethodId} {args : Array Value} {below : List Frame} {meth : Method} {c : Code} {g : q_G} {nL : Nat} {Q : State → Prop} {cl sl : Nat} {cc : ByteArray} {own : String} {pc : Nat} {lv : List (Nat × Value)} {st : List Value} {ws : va_W}
def AT (p : Program) (l : Launch) (e : Env) (R : Room) (s : State) (m : MethodId) (args : Array Value) (below : List Frame) (meth : Method) (c : Code) (g : q_G) (nL : Nat) (Q : State → Prop) (cl sl : Nat) (pc : Nat) (lv : List (Nat × Value)) (st : List Value) (ws : va_W) : Prop :=
  ∀ (H : Heap) (locs : List Loc) (ls : Array Slot), va_P g.1 vwCl ws H → va_D (q_A g) ws → va_S (q_A g) s.heap H locs → lv_has ls nL lv → W p l e R s m args below meth c H locs cl sl Q (F0 m pc ls st)
abbrev q_cx (g : q_G) (p : Program) (m : MethodId) (c : Code) (cc : ByteArray) (nL : Nat) (s : State) (args : Array Value) (own : String) (meth : Method) : Prop :=
  CallFix p m c cc nL s args WS own ∧ q_env g s ∧ meth.locks = false
theorem q_cx.hA (cx : q_cx g p m c cc nL s args own meth) : ∀ q : Nat, s.heap.size ≤ q → q_A g q := fun _ h => Nat.le_trans cx.2.1.1 h
theorem q_cx.ok (cx : q_cx g p m c cc nL s args own meth) {w : Cond} (h : w ∈ WS) : w.before args s = true := cx.1.2.2.2.2 w h
theorem q_cx.nok (cx : q_cx g p m c cc nL s args own meth) {w : Cond} (h : w ∈ NGW) : w.before args s = true := va_Nw.use (ng_tab (ng_ng h)) (cx.2.1.2.2.1 w h)

theorem r_iconst (cx : q_cx g p m c cc nL s args own meth) {n : Int} {v : Int32} (hd : decode cc pc = .ok (.iconst n, 1)) (hv : Int32.ofInt n = v) (k : AT p l e R s m args below meth c g nL Q cl sl (pc + 1) lv (.int v :: st) ws) : AT p l e R s m args below meth c g nL Q cl sl pc lv (st) ws := fun H locs ls hP hD hS hl => lv_iconst cx.1.1 cx.1.2.1  hd hv (k H locs ls hP hD hS hl)
theorem r_bipush (cx : q_cx g p m c cc nL s args own meth) {n : Int} {v : Int32} (hd : decode cc pc = .ok (.bipush n, 2)) (hv : (Int8.ofInt n).toInt32 = v) (k : AT p l e R s m args below meth c g nL Q cl sl (pc + 2) lv (.int v :: st) ws) : AT p l e R s m args below meth c g nL Q cl sl pc lv (st) ws := fun H locs ls hP hD hS hl => lv_bipush cx.1.1 cx.1.2.1  hd hv (k H locs ls hP hD hS hl)
theorem r_sipush (cx : q_cx g p m c cc nL s args own meth) {n : Int} {v : Int32} (hd : decode cc pc = .ok (.sipush n, 3)) (hv : (Int16.ofInt n).toInt32 = v) (k : AT p l e R s m args below meth c g nL Q cl sl (pc + 3) lv (.int v :: st) ws) : AT p l e R s m args below meth c g nL Q cl sl pc lv (st) ws := fun H locs ls hP hD hS hl => lv_sipush cx.1.1 cx.1.2.1  hd hv (k H locs ls hP hD hS hl)
theorem r_lconst (cx : q_cx g p m c cc nL s args own meth) {n : Fin 2} {v : Int64} (hd : decode cc pc = .ok (.lconst n, 1)) (hv : Int64.ofNat (n : Nat) = v) (k : AT p l e R s m args below meth c g nL Q cl sl (pc + 1) lv (.long v :: st) ws) : AT p l e R s m args below meth c g nL Q cl sl pc lv (st) ws := fun H locs ls hP hD hS hl => lv_lconst cx.1.1 cx.1.2.1  hd hv (k H locs ls hP hD hS hl)
theorem r_ldc2 (cx : q_cx g p m c cc nL s args own meth) {index : Nat} {v : Int64} (hd : decode cc pc = .ok (.ldc2_w index, 3)) (hc : Cond.constantLong own index v ∈ WS) (k : AT p l e R s m args below meth c g nL Q cl sl (pc + 3) lv (.long v :: st) ws) : AT p l e R s m args below meth c g nL Q cl sl pc lv st ws := fun H locs ls hP hD hS hl => lv_ldc2 cx.1.1 cx.1.2.1 cx.1.2.2.2.1 (cx.ok hc) hd (k H locs ls hP hD hS hl)
theorem r_ldc (cx : q_cx g p m c cc nL s args own meth) {index : Nat} {v : Int32} (hd : decode cc pc = .ok (.ldc index, 2)) (hc : Cond.constant own index v ∈ WS) (k : AT p l e R s m args below meth c g nL Q cl sl (pc + 2) lv (.int v :: st) ws) : AT p l e R s m args below meth c g nL Q cl sl pc lv st ws := fun H locs ls hP hD hS hl => lv_ldc cx.1.1 cx.1.2.1 cx.1.2.2.2.1 (cx.ok hc) hd (k H locs ls hP hD hS hl)
theorem r_iload_n (cx : q_cx g p m c cc nL s args own meth) {k : Fin 4} {i : Nat} {x : Int32} (hd : decode cc pc = .ok (.iload_n k, 1)) (hi : (k : Nat) = i) (hl0 : lv.lookup i = some (.int x)) (kk : AT p l e R s m args below meth c g nL Q cl sl (pc + 1) lv (.int x :: st) ws) : AT p l e R s m args below meth c g nL Q cl sl pc lv st ws := fun H locs ls hP hD hS hl => lv_iload_n cx.1.1 cx.1.2.1 hd hi (q_lk hl hl0) (kk H locs ls hP hD hS hl)
theorem r_iload (cx : q_cx g p m c cc nL s args own meth) {i : Nat} {x : Int32} (hd : decode cc pc = .ok (.iload i, 2)) (hl0 : lv.lookup i = some (.int x)) (kk : AT p l e R s m args below meth c g nL Q cl sl (pc + 2) lv (.int x :: st) ws) : AT p l e R s m args below meth c g nL Q cl sl pc lv st ws := fun H locs ls hP hD hS hl => lv_iload cx.1.1 cx.1.2.1 hd (q_lk hl hl0) (kk H locs ls hP hD hS hl)
theorem r_istore_n (cx : q_cx g p m c cc nL s args own meth) {k : Fin 4} {i : Nat} {x : Int32} {lv2 : List (Nat × Value)} (hd : decode cc pc = .ok (.istore_n k, 1)) (hi : (k : Nat) = i) (hn : i < nL) (hl2 : (i, Value.int x) :: lv.filter (fun q => !(q.1 == i) && !(q.1 + 1 == i && q.2.category == 2)) = lv2) (kk : AT p l e R s m args below meth c g nL Q cl sl (pc + 1) lv2 st ws) : AT p l e R s m args below meth c g nL Q cl sl pc lv (.int x :: st) ws := fun H locs ls hP hD hS hl => lv_istore_n cx.1.1 cx.1.2.1 hd hi hl hn hl2 (fun ls2 hl2 => kk H locs ls2 hP hD hS hl2)
theorem r_istore (cx : q_cx g p m c cc nL s args own meth) {i : Nat} {x : Int32} {lv2 : List (Nat × Value)} (hd : decode cc pc = .ok (.istore i, 2)) (hn : i < nL) (hl2 : (i, Value.int x) :: lv.filter (fun q => !(q.1 == i) && !(q.1 + 1 == i && q.2.category == 2)) = lv2) (kk : AT p l e R s m args below meth c g nL Q cl sl (pc + 2) lv2 st ws) : AT p l e R s m args below meth c g nL Q cl sl pc lv (.int x :: st) ws := fun H locs ls hP hD hS hl => lv_istore cx.1.1 cx.1.2.1 hd hl hn hl2 (fun ls2 hl2 => kk H locs ls2 hP hD hS hl2)
theorem r_lload_n (cx : q_cx g p m c cc nL s args own meth) {k : Fin 4} {i : Nat} {x : Int64} (hd : decode cc pc = .ok (.lload_n k, 1)) (hi : (k : Nat) = i) (hl0 : lv.lookup i = some (.long x)) (kk : AT p l e R s m args below meth c g nL Q cl sl (pc + 1) lv (.long x :: st) ws) : AT p l e R s m args below meth c g nL Q cl sl pc lv st ws := fun H locs ls hP hD hS hl => lv_lload_n cx.1.1 cx.1.2.1 hd hi (q_lk hl hl0) (kk H locs ls hP hD hS hl)
theorem r_lload (cx : q_cx g p m c cc nL s args own meth) {i : Nat} {x : Int64} (hd : decode cc pc = .ok (.lload i, 2)) (hl0 : lv.lookup i = some (.long x)) (kk : AT p l e R s m args below meth c g nL Q cl sl (pc + 2) lv (.long x :: st) ws) : AT p l e R s m args below meth c g nL Q cl sl pc lv st ws := fun H locs ls hP hD hS hl => lv_lload cx.1.1 cx.1.2.1 hd (q_lk hl hl0) (kk H locs ls hP hD hS hl)
theorem r_lstore_n (cx : q_cx g p m c cc nL s args own meth) {k : Fin 4} {i : Nat} {x : Int64} {lv2 : List (Nat × Value)} (hd : decode cc pc = .ok (.lstore_n k, 1)) (hi : (k : Nat) = i) (hn : i + 1 < nL) (hl2 : (i, Value.long x) :: lv.filter (fun q => !(q.1 == i) && (!(q.1 == i + 1) && !(q.1 + 1 == i && q.2.category == 2))) = lv2) (kk : AT p l e R s m args below meth c g nL Q cl sl (pc + 1) lv2 st ws) : AT p l e R s m args below meth c g nL Q cl sl pc lv (.long x :: st) ws := fun H locs ls hP hD hS hl => lv_lstore_n cx.1.1 cx.1.2.1 hd hi hl hn hl2 (fun ls2 hl2 => kk H locs ls2 hP hD hS hl2)
theorem r_lstore (cx : q_cx g p m c cc nL s args own meth) {i : Nat} {x : Int64} {lv2 : List (Nat × Value)} (hd : decode cc pc = .ok (.lstore i, 2)) (hn : i + 1 < nL) (hl2 : (i, Value.long x) :: lv.filter (fun q => !(q.1 == i) && (!(q.1 == i + 1) && !(q.1 + 1 == i && q.2.category == 2))) = lv2) (kk : AT p l e R s m args below meth c g nL Q cl sl (pc + 2) lv2 st ws) : AT p l e R s m args below meth c g nL Q cl sl pc lv (.long x :: st) ws := fun H locs ls hP hD hS hl => lv_lstore cx.1.1 cx.1.2.1 hd hl hn hl2 (fun ls2 hl2 => kk H locs ls2 hP hD hS hl2)
theorem r_aload_n (cx : q_cx g p m c cc nL s args own meth) {k : Fin 4} {i : Nat} {x : Nat} (hd : decode cc pc = .ok (.aload_n k, 1)) (hi : (k : Nat) = i) (hl0 : lv.lookup i = some (.ref x)) (kk : AT p l e R s m args below meth c g nL Q cl sl (pc + 1) lv (.ref x :: st) ws) : AT p l e R s m args below meth c g nL Q cl sl pc lv st ws := fun H locs ls hP hD hS hl => lv_aload_n cx.1.1 cx.1.2.1 hd hi (q_lk hl hl0) (kk H locs ls hP hD hS hl)
theorem r_aload (cx : q_cx g p m c cc nL s args own meth) {i : Nat} {x : Nat} (hd : decode cc pc = .ok (.aload i, 2)) (hl0 : lv.lookup i = some (.ref x)) (kk : AT p l e R s m args below meth c g nL Q cl sl (pc + 2) lv (.ref x :: st) ws) : AT p l e R s m args below meth c g nL Q cl sl pc lv st ws := fun H locs ls hP hD hS hl => lv_aload cx.1.1 cx.1.2.1 hd (q_lk hl hl0) (kk H locs ls hP hD hS hl)
theorem r_astore_n (cx : q_cx g p m c cc nL s args own meth) {k : Fin 4} {i : Nat} {x : Nat} {lv2 : List (Nat × Value)} (hd : decode cc pc = .ok (.astore_n k, 1)) (hi : (k : Nat) = i) (hn : i < nL) (hl2 : (i, Value.ref x) :: lv.filter (fun q => !(q.1 == i) && !(q.1 + 1 == i && q.2.category == 2)) = lv2) (kk : AT p l e R s m args below meth c g nL Q cl sl (pc + 1) lv2 st ws) : AT p l e R s m args below meth c g nL Q cl sl pc lv (.ref x :: st) ws := fun H locs ls hP hD hS hl => lv_astore_n cx.1.1 cx.1.2.1 hd hi hl hn hl2 (fun ls2 hl2 => kk H locs ls2 hP hD hS hl2)
theorem r_astore (cx : q_cx g p m c cc nL s args own meth) {i : Nat} {x : Nat} {lv2 : List (Nat × Value)} (hd : decode cc pc = .ok (.astore i, 2)) (hn : i < nL) (hl2 : (i, Value.ref x) :: lv.filter (fun q => !(q.1 == i) && !(q.1 + 1 == i && q.2.category == 2)) = lv2) (kk : AT p l e R s m args below meth c g nL Q cl sl (pc + 2) lv2 st ws) : AT p l e R s m args below meth c g nL Q cl sl pc lv (.ref x :: st) ws := fun H locs ls hP hD hS hl => lv_astore cx.1.1 cx.1.2.1 hd hl hn hl2 (fun ls2 hl2 => kk H locs ls2 hP hD hS hl2)
theorem q_lkix {i : Nat} {v : Value} {lv : List (Nat × Value)} (h : lv.lookup i = some v) : ∃ k : Nat, lv[k]? = some (i, v) := List.getElem?_of_mem (q_lkm h)
theorem r_iinc (cx : q_cx g p m c cc nL s args own meth) {i : Nat} {n : Int} {x v : Int32} {lv2 : List (Nat × Value)} (hd : decode cc pc = .ok (.iinc i n, 3)) (hl0 : lv.lookup i = some (.int x)) (hv : x + Int32.ofInt n = v) (hn : i < nL) (hl2 : (i, Value.int v) :: lv.filter (fun q => !(q.1 == i) && !(q.1 + 1 == i && q.2.category == 2)) = lv2) (kk : AT p l e R s m args below meth c g nL Q cl sl (pc + 3) lv2 st ws) : AT p l e R s m args below meth c g nL Q cl sl pc lv st ws := fun H locs ls hP hD hS hl => (q_lkix hl0).elim (fun k hk => lv_iinc (k := k) cx.1.1 cx.1.2.1 hd hl hk hv hn hl2 (fun ls2 hl2 => kk H locs ls2 hP hD hS hl2))
theorem r_iadd (cx : q_cx g p m c cc nL s args own meth) {x y : Int32} (hd : decode cc pc = .ok (.iadd, 1))  (k : AT p l e R s m args below meth c g nL Q cl sl (pc + 1) lv (.int (x + y) :: st) ws) : AT p l e R s m args below meth c g nL Q cl sl pc lv (.int y :: .int x :: st) ws := fun H locs ls hP hD hS hl => lv_iadd cx.1.1 cx.1.2.1  hd  (k H locs ls hP hD hS hl)
theorem r_isub (cx : q_cx g p m c cc nL s args own meth) {x y : Int32} (hd : decode cc pc = .ok (.isub, 1))  (k : AT p l e R s m args below meth c g nL Q cl sl (pc + 1) lv (.int (x - y) :: st) ws) : AT p l e R s m args below meth c g nL Q cl sl pc lv (.int y :: .int x :: st) ws := fun H locs ls hP hD hS hl => lv_isub cx.1.1 cx.1.2.1  hd  (k H locs ls hP hD hS hl)
theorem r_imul (cx : q_cx g p m c cc nL s args own meth) {x y : Int32} (hd : decode cc pc = .ok (.imul, 1))  (k : AT p l e R s m args below meth c g nL Q cl sl (pc + 1) lv (.int (x * y) :: st) ws) : AT p l e R s m args below meth c g nL Q cl sl pc lv (.int y :: .int x :: st) ws := fun H locs ls hP hD hS hl => lv_imul cx.1.1 cx.1.2.1  hd  (k H locs ls hP hD hS hl)
theorem r_iand (cx : q_cx g p m c cc nL s args own meth) {x y : Int32} (hd : decode cc pc = .ok (.iand, 1))  (k : AT p l e R s m args below meth c g nL Q cl sl (pc + 1) lv (.int (x &&& y) :: st) ws) : AT p l e R s m args below meth c g nL Q cl sl pc lv (.int y :: .int x :: st) ws := fun H locs ls hP hD hS hl => lv_iand cx.1.1 cx.1.2.1  hd  (k H locs ls hP hD hS hl)
theorem r_ior (cx : q_cx g p m c cc nL s args own meth) {x y : Int32} (hd : decode cc pc = .ok (.ior, 1))  (k : AT p l e R s m args below meth c g nL Q cl sl (pc + 1) lv (.int (x ||| y) :: st) ws) : AT p l e R s m args below meth c g nL Q cl sl pc lv (.int y :: .int x :: st) ws := fun H locs ls hP hD hS hl => lv_ior cx.1.1 cx.1.2.1  hd  (k H locs ls hP hD hS hl)
theorem r_ixor (cx : q_cx g p m c cc nL s args own meth) {x y : Int32} (hd : decode cc pc = .ok (.ixor, 1))  (k : AT p l e R s m args below meth c g nL Q cl sl (pc + 1) lv (.int (x ^^^ y) :: st) ws) : AT p l e R s m args below meth c g nL Q cl sl pc lv (.int y :: .int x :: st) ws := fun H locs ls hP hD hS hl => lv_ixor cx.1.1 cx.1.2.1  hd  (k H locs ls hP hD hS hl)
theorem r_ladd (cx : q_cx g p m c cc nL s args own meth) {x y : Int64} (hd : decode cc pc = .ok (.ladd, 1))  (k : AT p l e R s m args below meth c g nL Q cl sl (pc + 1) lv (.long (x + y) :: st) ws) : AT p l e R s m args below meth c g nL Q cl sl pc lv (.long y :: .long x :: st) ws := fun H locs ls hP hD hS hl => lv_ladd cx.1.1 cx.1.2.1  hd  (k H locs ls hP hD hS hl)
theorem r_lsub (cx : q_cx g p m c cc nL s args own meth) {x y : Int64} (hd : decode cc pc = .ok (.lsub, 1))  (k : AT p l e R s m args below meth c g nL Q cl sl (pc + 1) lv (.long (x - y) :: st) ws) : AT p l e R s m args below meth c g nL Q cl sl pc lv (.long y :: .long x :: st) ws := fun H locs ls hP hD hS hl => lv_lsub cx.1.1 cx.1.2.1  hd  (k H locs ls hP hD hS hl)
theorem r_land (cx : q_cx g p m c cc nL s args own meth) {x y : Int64} (hd : decode cc pc = .ok (.land, 1))  (k : AT p l e R s m args below meth c g nL Q cl sl (pc + 1) lv (.long (x &&& y) :: st) ws) : AT p l e R s m args below meth c g nL Q cl sl pc lv (.long y :: .long x :: st) ws := fun H locs ls hP hD hS hl => lv_land cx.1.1 cx.1.2.1  hd  (k H locs ls hP hD hS hl)
theorem r_lor (cx : q_cx g p m c cc nL s args own meth) {x y : Int64} (hd : decode cc pc = .ok (.lor, 1))  (k : AT p l e R s m args below meth c g nL Q cl sl (pc + 1) lv (.long (x ||| y) :: st) ws) : AT p l e R s m args below meth c g nL Q cl sl pc lv (.long y :: .long x :: st) ws := fun H locs ls hP hD hS hl => lv_lor cx.1.1 cx.1.2.1  hd  (k H locs ls hP hD hS hl)
theorem r_lxor (cx : q_cx g p m c cc nL s args own meth) {x y : Int64} (hd : decode cc pc = .ok (.lxor, 1))  (k : AT p l e R s m args below meth c g nL Q cl sl (pc + 1) lv (.long (x ^^^ y) :: st) ws) : AT p l e R s m args below meth c g nL Q cl sl pc lv (.long y :: .long x :: st) ws := fun H locs ls hP hD hS hl => lv_lxor cx.1.1 cx.1.2.1  hd  (k H locs ls hP hD hS hl)
theorem r_idiv (cx : q_cx g p m c cc nL s args own meth) {x y : Int32} (hd : decode cc pc = .ok (.idiv, 1)) (hne : ¬ y = 0) (k : AT p l e R s m args below meth c g nL Q cl sl (pc + 1) lv (.int (x / y) :: st) ws) : AT p l e R s m args below meth c g nL Q cl sl pc lv (.int y :: .int x :: st) ws := fun H locs ls hP hD hS hl => lv_idiv cx.1.1 cx.1.2.1  hd hne (k H locs ls hP hD hS hl)
theorem r_irem (cx : q_cx g p m c cc nL s args own meth) {x y : Int32} (hd : decode cc pc = .ok (.irem, 1)) (hne : ¬ y = 0) (k : AT p l e R s m args below meth c g nL Q cl sl (pc + 1) lv (.int (x - x / y * y) :: st) ws) : AT p l e R s m args below meth c g nL Q cl sl pc lv (.int y :: .int x :: st) ws := fun H locs ls hP hD hS hl => lv_irem cx.1.1 cx.1.2.1  hd hne (k H locs ls hP hD hS hl)
theorem r_ishl (cx : q_cx g p m c cc nL s args own meth) {x y : Int32} (hd : decode cc pc = .ok (.ishl, 1))  (k : AT p l e R s m args below meth c g nL Q cl sl (pc + 1) lv (.int (x <<< (y &&& 31)) :: st) ws) : AT p l e R s m args below meth c g nL Q cl sl pc lv (.int y :: .int x :: st) ws := fun H locs ls hP hD hS hl => lv_ishl cx.1.1 cx.1.2.1  hd  (k H locs ls hP hD hS hl)
theorem r_ishr (cx : q_cx g p m c cc nL s args own meth) {x y : Int32} (hd : decode cc pc = .ok (.ishr, 1))  (k : AT p l e R s m args below meth c g nL Q cl sl (pc + 1) lv (.int (x >>> (y &&& 31)) :: st) ws) : AT p l e R s m args below meth c g nL Q cl sl pc lv (.int y :: .int x :: st) ws := fun H locs ls hP hD hS hl => lv_ishr cx.1.1 cx.1.2.1  hd  (k H locs ls hP hD hS hl)
theorem r_lshl (cx : q_cx g p m c cc nL s args own meth) {x v : Int64} {y : Int32} (hd : decode cc pc = .ok (.lshl, 1)) (hv : x <<< (y.toInt64 &&& 63) = v) (k : AT p l e R s m args below meth c g nL Q cl sl (pc + 1) lv (.long v :: st) ws) : AT p l e R s m args below meth c g nL Q cl sl pc lv (.int y :: .long x :: st) ws := fun H locs ls hP hD hS hl => lv_lshl cx.1.1 cx.1.2.1  hd hv (k H locs ls hP hD hS hl)
theorem r_lshr (cx : q_cx g p m c cc nL s args own meth) {x v : Int64} {y : Int32} (hd : decode cc pc = .ok (.lshr, 1)) (hv : x >>> (y.toInt64 &&& 63) = v) (k : AT p l e R s m args below meth c g nL Q cl sl (pc + 1) lv (.long v :: st) ws) : AT p l e R s m args below meth c g nL Q cl sl pc lv (.int y :: .long x :: st) ws := fun H locs ls hP hD hS hl => lv_lshr cx.1.1 cx.1.2.1  hd hv (k H locs ls hP hD hS hl)
theorem r_lushr (cx : q_cx g p m c cc nL s args own meth) {x v : Int64} {y : Int32} (hd : decode cc pc = .ok (.lushr, 1)) (hv : (x.toUInt64 >>> (y.toInt64.toUInt64 &&& Int64.toUInt64 63)).toInt64 = v) (k : AT p l e R s m args below meth c g nL Q cl sl (pc + 1) lv (.long v :: st) ws) : AT p l e R s m args below meth c g nL Q cl sl pc lv (.int y :: .long x :: st) ws := fun H locs ls hP hD hS hl => lv_lushr cx.1.1 cx.1.2.1  hd hv (k H locs ls hP hD hS hl)
theorem r_i2l (cx : q_cx g p m c cc nL s args own meth) {x : Int32} {v : Int64} (hd : decode cc pc = .ok (.i2l, 1)) (hv : x.toInt64 = v) (k : AT p l e R s m args below meth c g nL Q cl sl (pc + 1) lv (.long v :: st) ws) : AT p l e R s m args below meth c g nL Q cl sl pc lv (.int x :: st) ws := fun H locs ls hP hD hS hl => lv_i2l cx.1.1 cx.1.2.1  hd hv (k H locs ls hP hD hS hl)
theorem r_l2i (cx : q_cx g p m c cc nL s args own meth) {x : Int64} {v : Int32} (hd : decode cc pc = .ok (.l2i, 1)) (hv : x.toInt32 = v) (k : AT p l e R s m args below meth c g nL Q cl sl (pc + 1) lv (.int v :: st) ws) : AT p l e R s m args below meth c g nL Q cl sl pc lv (.long x :: st) ws := fun H locs ls hP hD hS hl => lv_l2i cx.1.1 cx.1.2.1  hd hv (k H locs ls hP hD hS hl)
theorem r_lcmp (cx : q_cx g p m c cc nL s args own meth) {x y : Int64} (hd : decode cc pc = .ok (.lcmp, 1))  (k : AT p l e R s m args below meth c g nL Q cl sl (pc + 1) lv (.int (lg_cmp x y) :: st) ws) : AT p l e R s m args below meth c g nL Q cl sl pc lv (.long y :: .long x :: st) ws := fun H locs ls hP hD hS hl => W.lcmp cx.1.1 cx.1.2.1  hd  (k H locs ls hP hD hS hl)
theorem r_dup (cx : q_cx g p m c cc nL s args own meth) {va : Value} (hd : decode cc pc = .ok (.dup, 1)) (hva : va.category = 1) (k : AT p l e R s m args below meth c g nL Q cl sl (pc + 1) lv (va :: va :: st) ws) : AT p l e R s m args below meth c g nL Q cl sl pc lv (va :: st) ws := fun H locs ls hP hD hS hl => lv_dup cx.1.1 cx.1.2.1  hd hva (k H locs ls hP hD hS hl)
theorem r_pop (cx : q_cx g p m c cc nL s args own meth) {va : Value} (hd : decode cc pc = .ok (.pop, 1)) (hva : va.category = 1) (k : AT p l e R s m args below meth c g nL Q cl sl (pc + 1) lv (st) ws) : AT p l e R s m args below meth c g nL Q cl sl pc lv (va :: st) ws := fun H locs ls hP hD hS hl => lv_pop cx.1.1 cx.1.2.1  hd hva (k H locs ls hP hD hS hl)
theorem r_dup_x1 (cx : q_cx g p m c cc nL s args own meth) {va vb : Value} (hd : decode cc pc = .ok (.dup_x1, 1)) (hva : va.category = 1) (hvb : vb.category = 1) (k : AT p l e R s m args below meth c g nL Q cl sl (pc + 1) lv (va :: vb :: va :: st) ws) : AT p l e R s m args below meth c g nL Q cl sl pc lv (va :: vb :: st) ws := fun H locs ls hP hD hS hl => lv_dup_x1 cx.1.1 cx.1.2.1  hd hva hvb (k H locs ls hP hD hS hl)
theorem r_dup2 (cx : q_cx g p m c cc nL s args own meth) {va vb : Value} (hd : decode cc pc = .ok (.dup2, 1)) (hva : va.category = 1) (hvb : vb.category = 1) (k : AT p l e R s m args below meth c g nL Q cl sl (pc + 1) lv (va :: vb :: va :: vb :: st) ws) : AT p l e R s m args below meth c g nL Q cl sl pc lv (va :: vb :: st) ws := fun H locs ls hP hD hS hl => lv_dup2_11 cx.1.1 cx.1.2.1  hd hva hvb (k H locs ls hP hD hS hl)
theorem r_null (cx : q_cx g p m c cc nL s args own meth)  (hd : decode cc pc = .ok (.aconst_null, 1))  (k : AT p l e R s m args below meth c g nL Q cl sl (pc + 1) lv (.null :: st) ws) : AT p l e R s m args below meth c g nL Q cl sl pc lv (st) ws := fun H locs ls hP hD hS hl => lv_null cx.1.1 cx.1.2.1  hd  (k H locs ls hP hD hS hl)
theorem r_ifeq (cx : q_cx g p m c cc nL s args own meth) {x : Int32} {off : Int} {tgt : Nat} (hd : decode cc pc = .ok (.ifCond .eq off, 3)) (ht : (pc : Int) + off = (tgt : Int)) (kt : x = 0 → AT p l e R s m args below meth c g nL Q cl sl tgt lv st ws) (kf : ¬ x = 0 → AT p l e R s m args below meth c g nL Q cl sl (pc + 3) lv st ws) : AT p l e R s m args below meth c g nL Q cl sl pc lv (.int x :: st) ws := fun H locs ls hP hD hS hl => lv_if_eq cx.1.1 cx.1.2.1 hd ht (fun h => kt h H locs ls hP hD hS hl) (fun h => kf h H locs ls hP hD hS hl)
theorem r_ifne (cx : q_cx g p m c cc nL s args own meth) {x : Int32} {off : Int} {tgt : Nat} (hd : decode cc pc = .ok (.ifCond .ne off, 3)) (ht : (pc : Int) + off = (tgt : Int)) (kt : ¬ x = 0 → AT p l e R s m args below meth c g nL Q cl sl tgt lv st ws) (kf : x = 0 → AT p l e R s m args below meth c g nL Q cl sl (pc + 3) lv st ws) : AT p l e R s m args below meth c g nL Q cl sl pc lv (.int x :: st) ws := fun H locs ls hP hD hS hl => lv_if_ne cx.1.1 cx.1.2.1 hd ht (fun h => kt h H locs ls hP hD hS hl) (fun h => kf h H locs ls hP hD hS hl)
theorem r_iflt (cx : q_cx g p m c cc nL s args own meth) {x : Int32} {off : Int} {tgt : Nat} (hd : decode cc pc = .ok (.ifCond .lt off, 3)) (ht : (pc : Int) + off = (tgt : Int)) (kt : x < 0 → AT p l e R s m args below meth c g nL Q cl sl tgt lv st ws) (kf : ¬ x < 0 → AT p l e R s m args below meth c g nL Q cl sl (pc + 3) lv st ws) : AT p l e R s m args below meth c g nL Q cl sl pc lv (.int x :: st) ws := fun H locs ls hP hD hS hl => lv_if_lt cx.1.1 cx.1.2.1 hd ht (fun h => kt h H locs ls hP hD hS hl) (fun h => kf h H locs ls hP hD hS hl)
theorem r_ifge (cx : q_cx g p m c cc nL s args own meth) {x : Int32} {off : Int} {tgt : Nat} (hd : decode cc pc = .ok (.ifCond .ge off, 3)) (ht : (pc : Int) + off = (tgt : Int)) (kt : 0 ≤ x → AT p l e R s m args below meth c g nL Q cl sl tgt lv st ws) (kf : ¬ 0 ≤ x → AT p l e R s m args below meth c g nL Q cl sl (pc + 3) lv st ws) : AT p l e R s m args below meth c g nL Q cl sl pc lv (.int x :: st) ws := fun H locs ls hP hD hS hl => lv_if_ge cx.1.1 cx.1.2.1 hd ht (fun h => kt h H locs ls hP hD hS hl) (fun h => kf h H locs ls hP hD hS hl)
theorem r_ifgt (cx : q_cx g p m c cc nL s args own meth) {x : Int32} {off : Int} {tgt : Nat} (hd : decode cc pc = .ok (.ifCond .gt off, 3)) (ht : (pc : Int) + off = (tgt : Int)) (kt : 0 < x → AT p l e R s m args below meth c g nL Q cl sl tgt lv st ws) (kf : ¬ 0 < x → AT p l e R s m args below meth c g nL Q cl sl (pc + 3) lv st ws) : AT p l e R s m args below meth c g nL Q cl sl pc lv (.int x :: st) ws := fun H locs ls hP hD hS hl => lv_if_gt cx.1.1 cx.1.2.1 hd ht (fun h => kt h H locs ls hP hD hS hl) (fun h => kf h H locs ls hP hD hS hl)
theorem r_ifle (cx : q_cx g p m c cc nL s args own meth) {x : Int32} {off : Int} {tgt : Nat} (hd : decode cc pc = .ok (.ifCond .le off, 3)) (ht : (pc : Int) + off = (tgt : Int)) (kt : x ≤ 0 → AT p l e R s m args below meth c g nL Q cl sl tgt lv st ws) (kf : ¬ x ≤ 0 → AT p l e R s m args below meth c g nL Q cl sl (pc + 3) lv st ws) : AT p l e R s m args below meth c g nL Q cl sl pc lv (.int x :: st) ws := fun H locs ls hP hD hS hl => lv_if_le cx.1.1 cx.1.2.1 hd ht (fun h => kt h H locs ls hP hD hS hl) (fun h => kf h H locs ls hP hD hS hl)
theorem r_icmpeq (cx : q_cx g p m c cc nL s args own meth) {x y : Int32} {off : Int} {tgt : Nat} (hd : decode cc pc = .ok (.if_icmp .eq off, 3)) (ht : (pc : Int) + off = (tgt : Int)) (kt : x = y → AT p l e R s m args below meth c g nL Q cl sl tgt lv st ws) (kf : ¬ x = y → AT p l e R s m args below meth c g nL Q cl sl (pc + 3) lv st ws) : AT p l e R s m args below meth c g nL Q cl sl pc lv (.int y :: .int x :: st) ws := fun H locs ls hP hD hS hl => lv_icmp_eq cx.1.1 cx.1.2.1 hd ht (fun h => kt h H locs ls hP hD hS hl) (fun h => kf h H locs ls hP hD hS hl)
theorem r_icmpne (cx : q_cx g p m c cc nL s args own meth) {x y : Int32} {off : Int} {tgt : Nat} (hd : decode cc pc = .ok (.if_icmp .ne off, 3)) (ht : (pc : Int) + off = (tgt : Int)) (kt : ¬ x = y → AT p l e R s m args below meth c g nL Q cl sl tgt lv st ws) (kf : x = y → AT p l e R s m args below meth c g nL Q cl sl (pc + 3) lv st ws) : AT p l e R s m args below meth c g nL Q cl sl pc lv (.int y :: .int x :: st) ws := fun H locs ls hP hD hS hl => lv_icmp_ne cx.1.1 cx.1.2.1 hd ht (fun h => kt h H locs ls hP hD hS hl) (fun h => kf h H locs ls hP hD hS hl)
theorem r_icmplt (cx : q_cx g p m c cc nL s args own meth) {x y : Int32} {off : Int} {tgt : Nat} (hd : decode cc pc = .ok (.if_icmp .lt off, 3)) (ht : (pc : Int) + off = (tgt : Int)) (kt : x < y → AT p l e R s m args below meth c g nL Q cl sl tgt lv st ws) (kf : ¬ x < y → AT p l e R s m args below meth c g nL Q cl sl (pc + 3) lv st ws) : AT p l e R s m args below meth c g nL Q cl sl pc lv (.int y :: .int x :: st) ws := fun H locs ls hP hD hS hl => lv_icmp_lt cx.1.1 cx.1.2.1 hd ht (fun h => kt h H locs ls hP hD hS hl) (fun h => kf h H locs ls hP hD hS hl)
theorem r_icmpge (cx : q_cx g p m c cc nL s args own meth) {x y : Int32} {off : Int} {tgt : Nat} (hd : decode cc pc = .ok (.if_icmp .ge off, 3)) (ht : (pc : Int) + off = (tgt : Int)) (kt : y ≤ x → AT p l e R s m args below meth c g nL Q cl sl tgt lv st ws) (kf : ¬ y ≤ x → AT p l e R s m args below meth c g nL Q cl sl (pc + 3) lv st ws) : AT p l e R s m args below meth c g nL Q cl sl pc lv (.int y :: .int x :: st) ws := fun H locs ls hP hD hS hl => lv_icmp_ge cx.1.1 cx.1.2.1 hd ht (fun h => kt h H locs ls hP hD hS hl) (fun h => kf h H locs ls hP hD hS hl)
theorem r_icmpgt (cx : q_cx g p m c cc nL s args own meth) {x y : Int32} {off : Int} {tgt : Nat} (hd : decode cc pc = .ok (.if_icmp .gt off, 3)) (ht : (pc : Int) + off = (tgt : Int)) (kt : y < x → AT p l e R s m args below meth c g nL Q cl sl tgt lv st ws) (kf : ¬ y < x → AT p l e R s m args below meth c g nL Q cl sl (pc + 3) lv st ws) : AT p l e R s m args below meth c g nL Q cl sl pc lv (.int y :: .int x :: st) ws := fun H locs ls hP hD hS hl => lv_icmp_gt cx.1.1 cx.1.2.1 hd ht (fun h => kt h H locs ls hP hD hS hl) (fun h => kf h H locs ls hP hD hS hl)
theorem r_icmple (cx : q_cx g p m c cc nL s args own meth) {x y : Int32} {off : Int} {tgt : Nat} (hd : decode cc pc = .ok (.if_icmp .le off, 3)) (ht : (pc : Int) + off = (tgt : Int)) (kt : x ≤ y → AT p l e R s m args below meth c g nL Q cl sl tgt lv st ws) (kf : ¬ x ≤ y → AT p l e R s m args below meth c g nL Q cl sl (pc + 3) lv st ws) : AT p l e R s m args below meth c g nL Q cl sl pc lv (.int y :: .int x :: st) ws := fun H locs ls hP hD hS hl => lv_icmp_le cx.1.1 cx.1.2.1 hd ht (fun h => kt h H locs ls hP hD hS hl) (fun h => kf h H locs ls hP hD hS hl)
theorem r_goto (cx : q_cx g p m c cc nL s args own meth) {off : Int} {tgt : Nat} (hd : decode cc pc = .ok (.goto off, 3)) (ht : (pc : Int) + off = (tgt : Int)) (k : AT p l e R s m args below meth c g nL Q cl sl tgt lv st ws) : AT p l e R s m args below meth c g nL Q cl sl pc lv st ws := fun H locs ls hP hD hS hl => lv_goto cx.1.1 cx.1.2.1 hd ht (k H locs ls hP hD hS hl)
theorem r_ifeqb (cx : q_cx g p m c cc nL s args own meth) {b : Bool} {off : Int} {tgt : Nat} (hd : decode cc pc = .ok (.ifCond .eq off, 3)) (ht : (pc : Int) + off = (tgt : Int)) (kt : b = false → AT p l e R s m args below meth c g nL Q cl sl tgt lv st ws) (kf : b = true → AT p l e R s m args below meth c g nL Q cl sl (pc + 3) lv st ws) : AT p l e R s m args below meth c g nL Q cl sl pc lv (.int (bI b) :: st) ws := r_ifeq cx hd ht (fun h => kt ((bI_z b).mp h)) (fun h => kf (by cases b <;> first | rfl | exact absurd rfl h))
theorem r_ifneb (cx : q_cx g p m c cc nL s args own meth) {b : Bool} {off : Int} {tgt : Nat} (hd : decode cc pc = .ok (.ifCond .ne off, 3)) (ht : (pc : Int) + off = (tgt : Int)) (kt : b = true → AT p l e R s m args below meth c g nL Q cl sl tgt lv st ws) (kf : b = false → AT p l e R s m args below meth c g nL Q cl sl (pc + 3) lv st ws) : AT p l e R s m args below meth c g nL Q cl sl pc lv (.int (bI b) :: st) ws := r_ifne cx hd ht (fun h => kt (by cases b <;> first | rfl | exact absurd rfl h)) (fun h => kf ((bI_z b).mp h))
theorem r_icmpeqN (cx : q_cx g p m c cc nL s args own meth) {a b : Nat} {off : Int} {tgt : Nat} (ha : a < 2147483648) (hb : b < 2147483648) (hd : decode cc pc = .ok (.if_icmp .eq off, 3)) (ht : (pc : Int) + off = (tgt : Int)) (kt : a = b → AT p l e R s m args below meth c g nL Q cl sl tgt lv st ws) (kf : a ≠ b → AT p l e R s m args below meth c g nL Q cl sl (pc + 3) lv st ws) : AT p l e R s m args below meth c g nL Q cl sl pc lv (.int (nI b) :: .int (nI a) :: st) ws := r_icmpeq cx hd ht (fun h => kt ((nI_eq ha hb).mp h)) (fun h => kf (fun z => h ((nI_eq ha hb).mpr z)))
theorem r_icmpneN (cx : q_cx g p m c cc nL s args own meth) {a b : Nat} {off : Int} {tgt : Nat} (ha : a < 2147483648) (hb : b < 2147483648) (hd : decode cc pc = .ok (.if_icmp .ne off, 3)) (ht : (pc : Int) + off = (tgt : Int)) (kt : a ≠ b → AT p l e R s m args below meth c g nL Q cl sl tgt lv st ws) (kf : a = b → AT p l e R s m args below meth c g nL Q cl sl (pc + 3) lv st ws) : AT p l e R s m args below meth c g nL Q cl sl pc lv (.int (nI b) :: .int (nI a) :: st) ws := r_icmpne cx hd ht (fun h => kt (fun z => h ((nI_eq ha hb).mpr z))) (fun h => kf ((nI_eq ha hb).mp h))
theorem r_icmpltN (cx : q_cx g p m c cc nL s args own meth) {a b : Nat} {off : Int} {tgt : Nat} (ha : a < 2147483648) (hb : b < 2147483648) (hd : decode cc pc = .ok (.if_icmp .lt off, 3)) (ht : (pc : Int) + off = (tgt : Int)) (kt : a < b → AT p l e R s m args below meth c g nL Q cl sl tgt lv st ws) (kf : b ≤ a → AT p l e R s m args below meth c g nL Q cl sl (pc + 3) lv st ws) : AT p l e R s m args below meth c g nL Q cl sl pc lv (.int (nI b) :: .int (nI a) :: st) ws := r_icmplt cx hd ht (fun h => kt ((nI_ltI ha hb).mp h)) (fun h => kf (Nat.not_lt.mp (fun z => h ((nI_ltI ha hb).mpr z))))
theorem r_icmpgeN (cx : q_cx g p m c cc nL s args own meth) {a b : Nat} {off : Int} {tgt : Nat} (ha : a < 2147483648) (hb : b < 2147483648) (hd : decode cc pc = .ok (.if_icmp .ge off, 3)) (ht : (pc : Int) + off = (tgt : Int)) (kt : b ≤ a → AT p l e R s m args below meth c g nL Q cl sl tgt lv st ws) (kf : a < b → AT p l e R s m args below meth c g nL Q cl sl (pc + 3) lv st ws) : AT p l e R s m args below meth c g nL Q cl sl pc lv (.int (nI b) :: .int (nI a) :: st) ws := r_icmpge cx hd ht (fun h => kt ((nI_leI hb ha).mp h)) (fun h => kf (Nat.not_le.mp (fun z => h ((nI_leI hb ha).mpr z))))
theorem r_icmpgtN (cx : q_cx g p m c cc nL s args own meth) {a b : Nat} {off : Int} {tgt : Nat} (ha : a < 2147483648) (hb : b < 2147483648) (hd : decode cc pc = .ok (.if_icmp .gt off, 3)) (ht : (pc : Int) + off = (tgt : Int)) (kt : b < a → AT p l e R s m args below meth c g nL Q cl sl tgt lv st ws) (kf : a ≤ b → AT p l e R s m args below meth c g nL Q cl sl (pc + 3) lv st ws) : AT p l e R s m args below meth c g nL Q cl sl pc lv (.int (nI b) :: .int (nI a) :: st) ws := r_icmpgt cx hd ht (fun h => kt ((nI_ltI hb ha).mp h)) (fun h => kf (Nat.not_lt.mp (fun z => h ((nI_ltI hb ha).mpr z))))
theorem r_icmpleN (cx : q_cx g p m c cc nL s args own meth) {a b : Nat} {off : Int} {tgt : Nat} (ha : a < 2147483648) (hb : b < 2147483648) (hd : decode cc pc = .ok (.if_icmp .le off, 3)) (ht : (pc : Int) + off = (tgt : Int)) (kt : a ≤ b → AT p l e R s m args below meth c g nL Q cl sl tgt lv st ws) (kf : b < a → AT p l e R s m args below meth c g nL Q cl sl (pc + 3) lv st ws) : AT p l e R s m args below meth c g nL Q cl sl pc lv (.int (nI b) :: .int (nI a) :: st) ws := r_icmple cx hd ht (fun h => kt ((nI_leI ha hb).mp h)) (fun h => kf (Nat.not_le.mp (fun z => h ((nI_leI ha hb).mpr z))))
theorem r_ifeqN (cx : q_cx g p m c cc nL s args own meth) {a : Nat} {off : Int} {tgt : Nat} (ha : a < 2147483648) (hd : decode cc pc = .ok (.ifCond .eq off, 3)) (ht : (pc : Int) + off = (tgt : Int)) (kt : a = 0 → AT p l e R s m args below meth c g nL Q cl sl tgt lv st ws) (kf : a ≠ 0 → AT p l e R s m args below meth c g nL Q cl sl (pc + 3) lv st ws) : AT p l e R s m args below meth c g nL Q cl sl pc lv (.int (nI a) :: st) ws := r_ifeq cx hd ht (fun h => kt ((nI_eq ha (show (0 : Nat) < 2147483648 by decide)).mp h)) (fun h => kf (fun z => h ((nI_eq ha (show (0 : Nat) < 2147483648 by decide)).mpr z)))
theorem r_ifneN (cx : q_cx g p m c cc nL s args own meth) {a : Nat} {off : Int} {tgt : Nat} (ha : a < 2147483648) (hd : decode cc pc = .ok (.ifCond .ne off, 3)) (ht : (pc : Int) + off = (tgt : Int)) (kt : a ≠ 0 → AT p l e R s m args below meth c g nL Q cl sl tgt lv st ws) (kf : a = 0 → AT p l e R s m args below meth c g nL Q cl sl (pc + 3) lv st ws) : AT p l e R s m args below meth c g nL Q cl sl pc lv (.int (nI a) :: st) ws := r_ifne cx hd ht (fun h => kt (fun z => h ((nI_eq ha (show (0 : Nat) < 2147483648 by decide)).mpr z))) (fun h => kf ((nI_eq ha (show (0 : Nat) < 2147483648 by decide)).mp h))
theorem r_ifgtN (cx : q_cx g p m c cc nL s args own meth) {a : Nat} {off : Int} {tgt : Nat} (ha : a < 2147483648) (hd : decode cc pc = .ok (.ifCond .gt off, 3)) (ht : (pc : Int) + off = (tgt : Int)) (kt : 0 < a → AT p l e R s m args below meth c g nL Q cl sl tgt lv st ws) (kf : a = 0 → AT p l e R s m args below meth c g nL Q cl sl (pc + 3) lv st ws) : AT p l e R s m args below meth c g nL Q cl sl pc lv (.int (nI a) :: st) ws := r_ifgt cx hd ht (fun h => kt ((nI_ltI (show (0 : Nat) < 2147483648 by decide) ha).mp h)) (fun h => kf (Nat.le_zero.mp (Nat.not_lt.mp (fun z => h ((nI_ltI (show (0 : Nat) < 2147483648 by decide) ha).mpr z)))))
theorem r_ifleN (cx : q_cx g p m c cc nL s args own meth) {a : Nat} {off : Int} {tgt : Nat} (ha : a < 2147483648) (hd : decode cc pc = .ok (.ifCond .le off, 3)) (ht : (pc : Int) + off = (tgt : Int)) (kt : a = 0 → AT p l e R s m args below meth c g nL Q cl sl tgt lv st ws) (kf : 0 < a → AT p l e R s m args below meth c g nL Q cl sl (pc + 3) lv st ws) : AT p l e R s m args below meth c g nL Q cl sl pc lv (.int (nI a) :: st) ws := r_ifle cx hd ht (fun h => kt (Nat.le_zero.mp ((nI_leI ha (show (0 : Nat) < 2147483648 by decide)).mp h))) (fun h => kf (Nat.not_le.mp (fun z => h ((nI_leI ha (show (0 : Nat) < 2147483648 by decide)).mpr z))))
theorem r_ifltN (cx : q_cx g p m c cc nL s args own meth) {a : Nat} {off : Int} {tgt : Nat} (ha : a < 2147483648) (hd : decode cc pc = .ok (.ifCond .lt off, 3)) (ht : (pc : Int) + off = (tgt : Int)) (kf : AT p l e R s m args below meth c g nL Q cl sl (pc + 3) lv st ws) : AT p l e R s m args below meth c g nL Q cl sl pc lv (.int (nI a) :: st) ws := r_iflt cx hd ht (fun h => absurd h (nI_pos ha)) (fun _ => kf)
theorem r_ifgeN (cx : q_cx g p m c cc nL s args own meth) {a : Nat} {off : Int} {tgt : Nat} (ha : a < 2147483648) (hd : decode cc pc = .ok (.ifCond .ge off, 3)) (ht : (pc : Int) + off = (tgt : Int)) (kt : AT p l e R s m args below meth c g nL Q cl sl tgt lv st ws) : AT p l e R s m args below meth c g nL Q cl sl pc lv (.int (nI a) :: st) ws := r_ifge cx hd ht (fun _ => kt) (fun h => absurd (nI_pos' ha) h)
theorem r_iaddN (cx : q_cx g p m c cc nL s args own meth) {a b : Nat} (hd : decode cc pc = .ok (.iadd, 1)) (k : AT p l e R s m args below meth c g nL Q cl sl (pc + 1) lv (.int (nI (a + b)) :: st) ws) : AT p l e R s m args below meth c g nL Q cl sl pc lv (.int (nI b) :: .int (nI a) :: st) ws := r_iadd cx hd (by rw [nI_add]; exact k)
theorem r_isubN (cx : q_cx g p m c cc nL s args own meth) {a b : Nat} (hd : decode cc pc = .ok (.isub, 1)) (h : b ≤ a) (k : AT p l e R s m args below meth c g nL Q cl sl (pc + 1) lv (.int (nI (a - b)) :: st) ws) : AT p l e R s m args below meth c g nL Q cl sl pc lv (.int (nI b) :: .int (nI a) :: st) ws := r_isub cx hd (by rw [pk_sub h]; exact k)
theorem r_imulN (cx : q_cx g p m c cc nL s args own meth) {a b : Nat} (hd : decode cc pc = .ok (.imul, 1)) (k : AT p l e R s m args below meth c g nL Q cl sl (pc + 1) lv (.int (nI (a * b)) :: st) ws) : AT p l e R s m args below meth c g nL Q cl sl pc lv (.int (nI b) :: .int (nI a) :: st) ws := r_imul cx hd (by rw [pk_mul]; exact k)
theorem r_idivN (cx : q_cx g p m c cc nL s args own meth) {a b : Nat} (hd : decode cc pc = .ok (.idiv, 1)) (ha : a < 2147483648) (h0 : 0 < b) (hb : b < 2147483648) (k : AT p l e R s m args below meth c g nL Q cl sl (pc + 1) lv (.int (nI (a / b)) :: st) ws) : AT p l e R s m args below meth c g nL Q cl sl pc lv (.int (nI b) :: .int (nI a) :: st) ws := r_idiv cx hd (nI_ne0 h0 hb) (by rw [pk_div ha h0 hb]; exact k)
theorem r_iremN (cx : q_cx g p m c cc nL s args own meth) {a b : Nat} (hd : decode cc pc = .ok (.irem, 1)) (ha : a < 2147483648) (h0 : 0 < b) (hb : b < 2147483648) (k : AT p l e R s m args below meth c g nL Q cl sl (pc + 1) lv (.int (nI (a % b)) :: st) ws) : AT p l e R s m args below meth c g nL Q cl sl pc lv (.int (nI b) :: .int (nI a) :: st) ws := r_irem cx hd (nI_ne0 h0 hb) (by rw [pk_rem ha h0 hb]; exact k)
theorem q_ofI (j : Nat) : Int32.ofInt (j : Int) = nI j := Int32.ofInt_eq_ofNat
theorem r_iincN (cx : q_cx g p m c cc nL s args own meth) {i j a : Nat} {n : Int} {lv2 : List (Nat × Value)} (hd : decode cc pc = .ok (.iinc i n, 3)) (hl0 : lv.lookup i = some (.int (nI a))) (hj : n = (j : Int)) (hn : i < nL) (hl2 : (i, Value.int (nI (a + j))) :: lv.filter (fun q => !(q.1 == i) && !(q.1 + 1 == i && q.2.category == 2)) = lv2) (kk : AT p l e R s m args below meth c g nL Q cl sl (pc + 3) lv2 st ws) : AT p l e R s m args below meth c g nL Q cl sl pc lv st ws := r_iinc cx hd hl0 (by rw [hj, q_ofI, nI_add]) hn hl2 kk
theorem r_eqi {x y : Int32} (h : x = y) (k : AT p l e R s m args below meth c g nL Q cl sl pc lv (.int y :: st) ws) : AT p l e R s m args below meth c g nL Q cl sl pc lv (.int x :: st) ws := h ▸ k
theorem r_eql {x y : Int64} (h : x = y) (k : AT p l e R s m args below meth c g nL Q cl sl pc lv (.long y :: st) ws) : AT p l e R s m args below meth c g nL Q cl sl pc lv (.long x :: st) ws := h ▸ k
theorem r_eqv {x y : Value} (h : x = y) (k : AT p l e R s m args below meth c g nL Q cl sl pc lv (y :: st) ws) : AT p l e R s m args below meth c g nL Q cl sl pc lv (x :: st) ws := h ▸ k
theorem r_lv {lv2 : List (Nat × Value)} (h : ∀ q ∈ lv2, q ∈ lv) (k : AT p l e R s m args below meth c g nL Q cl sl pc lv2 st ws) : AT p l e R s m args below meth c g nL Q cl sl pc lv st ws := fun H locs ls hP hD hS hl => k H locs ls hP hD hS (q_lks hl h)
theorem q_pk {lv lv2 : List (Nat × Value)} (ks : List Nat) (h : lv_pick lv ks = lv2) : ∀ q ∈ lv2, q ∈ lv := fun q hq => by
  subst h
  obtain ⟨i, -, hi⟩ := List.mem_filterMap.mp hq
  exact List.mem_of_getElem? hi
theorem r_ws {ws2 : va_W} (h : ws = ws2) (k : AT p l e R s m args below meth c g nL Q cl sl pc lv st ws2) : AT p l e R s m args below meth c g nL Q cl sl pc lv st ws := h ▸ k
theorem r_perm {ws2 : va_W} (h : ws.Perm ws2) (k : AT p l e R s m args below meth c g nL Q cl sl pc lv st ws2) : AT p l e R s m args below meth c g nL Q cl sl pc lv st ws := fun H locs ls hP hD hS hl => k H locs ls (q_P_perm h hP) (q_D_perm h hD) hS hl
theorem r_drop {ws2 wsx : va_W} (h : (ws2 ++ wsx).Perm ws) (k : AT p l e R s m args below meth c g nL Q cl sl pc lv st ws2) : AT p l e R s m args below meth c g nL Q cl sl pc lv st ws := fun H locs ls hP hD hS hl => k H locs ls (fun kk q hq => q_P_perm h.symm hP kk q (by rw [List.getElem?_append_left (List.getElem?_eq_some_iff.mp hq).1]; exact hq)) (by
    have h2 := q_D_perm h.symm hD
    rw [q_D_nd] at h2 ⊢
    refine ⟨?_, fun q hq => h2.2 q (List.mem_append_left _ hq)⟩
    have h3 := h2.1
    rw [List.map_append] at h3
    exact (List.nodup_append.mp h3).1) hS hl
theorem r_wide {k n : Nat} (h1 : cl ≤ k) (h2 : sl ≤ n) (kk : AT p l e R s m args below meth c g nL Q k n pc lv st ws) : AT p l e R s m args below meth c g nL Q cl sl pc lv st ws := fun H locs ls hP hD hS hl => W.widen h1 h2 (kk H locs ls hP hD hS hl)
theorem r_iald (cx : q_cx g p m c cc nL s args own meth) (q0 t0 : Nat) {a : Nat} {cA : ClassId} {n : Nat} {f : Nat → Int32} {i : Int32} (hd : decode cc pc = .ok (.iaload, 1)) (ha : ws[q0]? = some (a, .inl (cA, n, .inl f))) (ht : (q_tys g)[t0]? = some (cA, .int)) (hin : vp_in i n) (k : AT p l e R s m args below meth c g nL Q cl sl (pc + 1) lv (.int (f i.toNatClampNeg) :: st) ws) : AT p l e R s m args below meth c g nL Q cl sl pc lv (.int i :: .ref a :: st) ws := fun H locs ls hP hD hS hl => va_iald cx.1.1 cx.1.2.1 cx.2.1.2.1 hP q0 t0 ha ht hin hd (k H locs ls hP hD hS hl)
theorem r_zald (cx : q_cx g p m c cc nL s args own meth) (q0 t0 : Nat) {a : Nat} {cA : ClassId} {n : Nat} {f : Nat → Int32} {i : Int32} (hd : decode cc pc = .ok (.baload, 1)) (ha : ws[q0]? = some (a, .inl (cA, n, .inl f))) (ht : (q_tys g)[t0]? = some (cA, .boolean)) (hin : vp_in i n) (k : AT p l e R s m args below meth c g nL Q cl sl (pc + 1) lv (.int (f i.toNatClampNeg) :: st) ws) : AT p l e R s m args below meth c g nL Q cl sl pc lv (.int i :: .ref a :: st) ws := fun H locs ls hP hD hS hl => va_zald cx.1.1 cx.1.2.1 cx.2.1.2.1 hP q0 t0 ha ht hin hd (k H locs ls hP hD hS hl)
theorem r_lald (cx : q_cx g p m c cc nL s args own meth) (q0 t0 : Nat) {a : Nat} {cA : ClassId} {n : Nat} {f : Nat → Int64} {i : Int32} (hd : decode cc pc = .ok (.laload, 1)) (ha : ws[q0]? = some (a, .inl (cA, n, .inr (.inl f)))) (ht : (q_tys g)[t0]? = some (cA, .long)) (hin : vp_in i n) (k : AT p l e R s m args below meth c g nL Q cl sl (pc + 1) lv (.long (f i.toNatClampNeg) :: st) ws) : AT p l e R s m args below meth c g nL Q cl sl pc lv (.int i :: .ref a :: st) ws := fun H locs ls hP hD hS hl => va_lald cx.1.1 cx.1.2.1 cx.2.1.2.1 hP q0 t0 ha ht hin hd (k H locs ls hP hD hS hl)
theorem r_aldq (cx : q_cx g p m c cc nL s args own meth) (q0 t0 : Nat) {a : Nat} {cA : ClassId} {C : String} {n : Nat} {f : Nat → Option Nat} {i : Int32} (hd : decode cc pc = .ok (.aaload, 1)) (ha : ws[q0]? = some (a, .inl (cA, n, .inr (.inr (.inr (.inr f)))))) (ht : (q_tys g)[t0]? = some (cA, .object C)) (hin : vp_in i n) (k : AT p l e R s m args below meth c g nL Q cl sl (pc + 1) lv (va_rf (f i.toNatClampNeg) :: st) ws) : AT p l e R s m args below meth c g nL Q cl sl pc lv (.int i :: .ref a :: st) ws := fun H locs ls hP hD hS hl => va_aldq cx.1.1 cx.1.2.1 cx.2.1.2.1 hP q0 t0 ha ht hin hd (k H locs ls hP hD hS hl)
theorem r_iast (cx : q_cx g p m c cc nL s args own meth) (q0 t0 : Nat) {a : Nat} {cA : ClassId} {n : Nat} {f : Nat → Int32} {i : Int32} {x : Int32} (hd : decode cc pc = .ok (.iastore, 1)) (ha : ws[q0]? = some (a, .inl (cA, n, .inl f))) (ht : (q_tys g)[t0]? = some (cA, .int)) (hin : vp_in i n) (k : AT p l e R s m args below meth c g nL Q cl sl (pc + 1) lv st (ws.set q0 (a, .inl (cA, n, .inl (upd f i.toNatClampNeg x))))) : AT p l e R s m args below meth c g nL Q cl sl pc lv (.int x :: .int i :: .ref a :: st) ws := fun H locs ls hP hD hS hl => va_iast cx.1.1 cx.1.2.1 cx.2.1.2.1 hP hD hS q0 t0 ha ht hin hd (fun H1 locs1 hP hD hS => k H1 locs1 ls hP hD hS hl)
theorem r_zast (cx : q_cx g p m c cc nL s args own meth) (q0 t0 : Nat) {a : Nat} {cA : ClassId} {n : Nat} {f : Nat → Int32} {i : Int32} {x : Int32} (hd : decode cc pc = .ok (.bastore, 1)) (ha : ws[q0]? = some (a, .inl (cA, n, .inl f))) (ht : (q_tys g)[t0]? = some (cA, .boolean)) (hin : vp_in i n) (k : AT p l e R s m args below meth c g nL Q cl sl (pc + 1) lv st (ws.set q0 (a, .inl (cA, n, .inl (upd f i.toNatClampNeg (vp_nar .boolean x)))))) : AT p l e R s m args below meth c g nL Q cl sl pc lv (.int x :: .int i :: .ref a :: st) ws := fun H locs ls hP hD hS hl => va_zast cx.1.1 cx.1.2.1 cx.2.1.2.1 hP hD hS q0 t0 ha ht hin hd (fun H1 locs1 hP hD hS => k H1 locs1 ls hP hD hS hl)
theorem r_last (cx : q_cx g p m c cc nL s args own meth) (q0 t0 : Nat) {a : Nat} {cA : ClassId} {n : Nat} {f : Nat → Int64} {i : Int32} {x : Int64} (hd : decode cc pc = .ok (.lastore, 1)) (ha : ws[q0]? = some (a, .inl (cA, n, .inr (.inl f)))) (ht : (q_tys g)[t0]? = some (cA, .long)) (hin : vp_in i n) (k : AT p l e R s m args below meth c g nL Q cl sl (pc + 1) lv st (ws.set q0 (a, .inl (cA, n, .inr (.inl (vp_updL f i.toNatClampNeg x)))))) : AT p l e R s m args below meth c g nL Q cl sl pc lv (.long x :: .int i :: .ref a :: st) ws := fun H locs ls hP hD hS hl => va_last cx.1.1 cx.1.2.1 cx.2.1.2.1 hP hD hS q0 t0 ha ht hin hd (fun H1 locs1 hP hD hS => k H1 locs1 ls hP hD hS hl)
theorem r_alen (cx : q_cx g p m c cc nL s args own meth) (q0 t0 : Nat) {a : Nat} {cA : ClassId} {x : vp_A} {ty : FieldType} {v : Int32} (hd : decode cc pc = .ok (.arraylength, 1)) (ha : ws[q0]? = some (a, .inl (cA, x))) (ht : (q_tys g)[t0]? = some (cA, ty)) (hv : Int32.ofNat x.1 = v) (k : AT p l e R s m args below meth c g nL Q cl sl (pc + 1) lv (.int v :: st) ws) : AT p l e R s m args below meth c g nL Q cl sl pc lv (.ref a :: st) ws := fun H locs ls hP hD hS hl => va_alen cx.1.1 cx.1.2.1 cx.2.1.2.1 hP q0 t0 ha ht hv hd (k H locs ls hP hD hS hl)
theorem r_ialdN (cx : q_cx g p m c cc nL s args own meth) (q0 t0 : Nat) {a : Nat} {cA : ClassId} {n : Nat} {f : Nat → Int32} {i : Nat} (hd : decode cc pc = .ok (.iaload, 1)) (ha : ws[q0]? = some (a, .inl (cA, n, .inl f))) (ht : (q_tys g)[t0]? = some (cA, .int)) (hin : i < n) (hn : n < 2147483648) (k : AT p l e R s m args below meth c g nL Q cl sl (pc + 1) lv (.int (f i) :: st) ws) : AT p l e R s m args below meth c g nL Q cl sl pc lv (.int (nI i) :: .ref a :: st) ws := r_iald cx q0 t0 hd ha ht (vp_in_nI hin hn) (by rw [nI_clamp (Nat.lt_trans hin hn)]; exact k)
theorem r_zaldN (cx : q_cx g p m c cc nL s args own meth) (q0 t0 : Nat) {a : Nat} {cA : ClassId} {n : Nat} {f : Nat → Int32} {i : Nat} (hd : decode cc pc = .ok (.baload, 1)) (ha : ws[q0]? = some (a, .inl (cA, n, .inl f))) (ht : (q_tys g)[t0]? = some (cA, .boolean)) (hin : i < n) (hn : n < 2147483648) (k : AT p l e R s m args below meth c g nL Q cl sl (pc + 1) lv (.int (f i) :: st) ws) : AT p l e R s m args below meth c g nL Q cl sl pc lv (.int (nI i) :: .ref a :: st) ws := r_zald cx q0 t0 hd ha ht (vp_in_nI hin hn) (by rw [nI_clamp (Nat.lt_trans hin hn)]; exact k)
theorem r_laldN (cx : q_cx g p m c cc nL s args own meth) (q0 t0 : Nat) {a : Nat} {cA : ClassId} {n : Nat} {f : Nat → Int64} {i : Nat} (hd : decode cc pc = .ok (.laload, 1)) (ha : ws[q0]? = some (a, .inl (cA, n, .inr (.inl f)))) (ht : (q_tys g)[t0]? = some (cA, .long)) (hin : i < n) (hn : n < 2147483648) (k : AT p l e R s m args below meth c g nL Q cl sl (pc + 1) lv (.long (f i) :: st) ws) : AT p l e R s m args below meth c g nL Q cl sl pc lv (.int (nI i) :: .ref a :: st) ws := r_lald cx q0 t0 hd ha ht (vp_in_nI hin hn) (by rw [nI_clamp (Nat.lt_trans hin hn)]; exact k)
theorem r_iastN (cx : q_cx g p m c cc nL s args own meth) (q0 t0 : Nat) {a : Nat} {cA : ClassId} {n : Nat} {f : Nat → Int32} {i : Nat} {x : Int32} (hd : decode cc pc = .ok (.iastore, 1)) (ha : ws[q0]? = some (a, .inl (cA, n, .inl f))) (ht : (q_tys g)[t0]? = some (cA, .int)) (hin : i < n) (hn : n < 2147483648) (k : AT p l e R s m args below meth c g nL Q cl sl (pc + 1) lv st (ws.set q0 (a, .inl (cA, n, .inl (upd f i x))))) : AT p l e R s m args below meth c g nL Q cl sl pc lv (.int x :: .int (nI i) :: .ref a :: st) ws := r_iast cx q0 t0 hd ha ht (vp_in_nI hin hn) (by rw [nI_clamp (Nat.lt_trans hin hn)]; exact k)
theorem r_zastN (cx : q_cx g p m c cc nL s args own meth) (q0 t0 : Nat) {a : Nat} {cA : ClassId} {n : Nat} {f : Nat → Int32} {i : Nat} {b : Bool} (hd : decode cc pc = .ok (.bastore, 1)) (ha : ws[q0]? = some (a, .inl (cA, n, .inl f))) (ht : (q_tys g)[t0]? = some (cA, .boolean)) (hin : i < n) (hn : n < 2147483648) (k : AT p l e R s m args below meth c g nL Q cl sl (pc + 1) lv st (ws.set q0 (a, .inl (cA, n, .inl (upd f i (bI b)))))) : AT p l e R s m args below meth c g nL Q cl sl pc lv (.int (bI b) :: .int (nI i) :: .ref a :: st) ws := r_zast cx q0 t0 hd ha ht (vp_in_nI hin hn) (by rw [nI_clamp (Nat.lt_trans hin hn), bI_vnar]; exact k)
theorem r_lastN (cx : q_cx g p m c cc nL s args own meth) (q0 t0 : Nat) {a : Nat} {cA : ClassId} {n : Nat} {f : Nat → Int64} {i : Nat} {x : Int64} (hd : decode cc pc = .ok (.lastore, 1)) (ha : ws[q0]? = some (a, .inl (cA, n, .inr (.inl f)))) (ht : (q_tys g)[t0]? = some (cA, .long)) (hin : i < n) (hn : n < 2147483648) (k : AT p l e R s m args below meth c g nL Q cl sl (pc + 1) lv st (ws.set q0 (a, .inl (cA, n, .inr (.inl (vp_updL f i x)))))) : AT p l e R s m args below meth c g nL Q cl sl pc lv (.long x :: .int (nI i) :: .ref a :: st) ws := r_last cx q0 t0 hd ha ht (vp_in_nI hin hn) (by rw [nI_clamp (Nat.lt_trans hin hn)]; exact k)
theorem r_iret (cx : q_cx g p m c cc nL s args own meth) {post : Int32 → va_W → Prop} {v : Int32} {mc ms : Nat} (hd : decode cc pc = .ok (.ireturn, 1)) (hr : meth.sig.returnType = some .int)  (hp : post v ws) (hc : cl ≤ mc) (hs : sl ≤ ms) : AT p l e R s m args below meth c g nL (MQ below (q_Qi g post) args s mc ms (q_A g)) cl sl pc lv [.int v] ws := fun H locs ls hP hD hS hl => W.widen hc hs (W.iret cx.1.1 cx.1.2.1 hr  (fun t ht hW => ⟨⟨v, ws, rfl, hp, by rw [q_B, q_in, ht]; exact ⟨hP, hD⟩⟩, hS.F ht⟩) hS.2.2 hd cx.2.2)
theorem x_iret (cx : q_cx g p m c cc nL s args own meth) {post : Int32 → va_W → Prop} {XC : String → State → State → Prop} {v : Int32} {mc ms : Nat} (hd : decode cc pc = .ok (.ireturn, 1)) (hr : meth.sig.returnType = some .int)  (hp : post v ws) (hc : cl ≤ mc) (hs : sl ≤ ms) : AT p l e R s m args below meth c g nL (vx_MQ below (q_Qi g post) XC args s mc ms (q_A g)) cl sl pc lv [.int v] ws := fun H locs ls hP hD hS hl => vx_ret (r_iret cx hd hr  hp hc hs H locs ls hP hD hS hl)
theorem r_lret (cx : q_cx g p m c cc nL s args own meth) {post : Int64 → va_W → Prop} {v : Int64} {mc ms : Nat} (hd : decode cc pc = .ok (.lreturn, 1)) (hr : meth.sig.returnType = some .long)  (hp : post v ws) (hc : cl ≤ mc) (hs : sl ≤ ms) : AT p l e R s m args below meth c g nL (MQ below (q_Ql g post) args s mc ms (q_A g)) cl sl pc lv [.long v] ws := fun H locs ls hP hD hS hl => W.widen hc hs (W.lret cx.1.1 cx.1.2.1 hr  (fun t ht hW => ⟨⟨v, ws, rfl, hp, by rw [q_B, q_in, ht]; exact ⟨hP, hD⟩⟩, hS.F ht⟩) hS.2.2 hd cx.2.2)
theorem x_lret (cx : q_cx g p m c cc nL s args own meth) {post : Int64 → va_W → Prop} {XC : String → State → State → Prop} {v : Int64} {mc ms : Nat} (hd : decode cc pc = .ok (.lreturn, 1)) (hr : meth.sig.returnType = some .long)  (hp : post v ws) (hc : cl ≤ mc) (hs : sl ≤ ms) : AT p l e R s m args below meth c g nL (vx_MQ below (q_Ql g post) XC args s mc ms (q_A g)) cl sl pc lv [.long v] ws := fun H locs ls hP hD hS hl => vx_ret (r_lret cx hd hr  hp hc hs H locs ls hP hD hS hl)
theorem r_zret (cx : q_cx g p m c cc nL s args own meth) {post : Int32 → va_W → Prop} {v : Int32} {mc ms : Nat} (hd : decode cc pc = .ok (.ireturn, 1)) (hr : meth.sig.returnType = some .boolean) (hn : narrow .boolean (.int v) = .int v) (hp : post v ws) (hc : cl ≤ mc) (hs : sl ≤ ms) : AT p l e R s m args below meth c g nL (MQ below (q_Qi g post) args s mc ms (q_A g)) cl sl pc lv [.int v] ws := fun H locs ls hP hD hS hl => W.widen hc hs (W.zret cx.1.1 cx.1.2.1 hr hn (fun t ht hW => ⟨⟨v, ws, rfl, hp, by rw [q_B, q_in, ht]; exact ⟨hP, hD⟩⟩, hS.F ht⟩) hS.2.2 hd cx.2.2)
theorem x_zret (cx : q_cx g p m c cc nL s args own meth) {post : Int32 → va_W → Prop} {XC : String → State → State → Prop} {v : Int32} {mc ms : Nat} (hd : decode cc pc = .ok (.ireturn, 1)) (hr : meth.sig.returnType = some .boolean) (hn : narrow .boolean (.int v) = .int v) (hp : post v ws) (hc : cl ≤ mc) (hs : sl ≤ ms) : AT p l e R s m args below meth c g nL (vx_MQ below (q_Qi g post) XC args s mc ms (q_A g)) cl sl pc lv [.int v] ws := fun H locs ls hP hD hS hl => vx_ret (r_zret cx hd hr hn hp hc hs H locs ls hP hD hS hl)
theorem r_vret (cx : q_cx g p m c cc nL s args own meth) {post : va_W → Prop} {mc ms : Nat} (hd : decode cc pc = .ok (.return_, 1)) (hr : meth.sig.returnType = none) (hp : post ws) (hc : cl ≤ mc) (hs : sl ≤ ms) : AT p l e R s m args below meth c g nL (MQ below (q_Qv g post) args s mc ms (q_A g)) cl sl pc lv [] ws := fun H locs ls hP hD hS hl => W.widen hc hs (W.vret cx.1.1 cx.1.2.1 hr (fun t ht hW => ⟨⟨ws, rfl, hp, by rw [q_B, q_in, ht]; exact ⟨hP, hD⟩⟩, hS.F ht⟩) hS.2.2 hd cx.2.2)
theorem q_rf (r : Option Nat) : va_rf r = .null ∨ ∃ a, va_rf r = .ref a := by cases r <;> simp [va_rf]
theorem r_aret (cx : q_cx g p m c cc nL s args own meth) {post : Option Nat → va_W → Prop} {r : Option Nat} {rt : FieldType} {mc ms : Nat} (hd : decode cc pc = .ok (.areturn, 1)) (hr : meth.sig.returnType = some rt) (hrt : (∃ n, rt = .object n) ∨ ∃ t, rt = .array t) (hp : post r ws) (hc : cl ≤ mc) (hs : sl ≤ ms) : AT p l e R s m args below meth c g nL (MQ below (q_Qq g post) args s mc ms (q_A g)) cl sl pc lv [va_rf r] ws := fun H locs ls hP hD hS hl => W.widen hc hs (W.aret cx.1.1 cx.1.2.1 hr hrt (q_rf r) (fun t ht hW => ⟨⟨r, ws, rfl, hp, by rw [q_B, q_in, ht]; exact ⟨hP, hD⟩⟩, hS.F ht⟩) hS.2.2 hd cx.2.2)
theorem at_loop {σ : Type} (I : σ → Prop) (lf : σ → List (Nat × Value)) (wf : σ → va_W) (μ : σ → Nat) (x0 : σ) (h0 : I x0) (hl : ∀ q ∈ lf x0, q ∈ lv) (hw : ws = wf x0) (step : ∀ x, I x → (∀ y, I y → μ y < μ x → AT p l e R s m args below meth c g nL Q cl sl pc (lf y) st (wf y)) → AT p l e R s m args below meth c g nL Q cl sl pc (lf x) st (wf x)) : AT p l e R s m args below meth c g nL Q cl sl pc lv st ws := by
  subst hw
  have key : ∀ (n : Nat) (x : σ), μ x < n → I x → AT p l e R s m args below meth c g nL Q cl sl pc (lf x) st (wf x) := by
    intro n
    induction n with
    | zero => intro x h; exact absurd h (Nat.not_lt_zero _)
    | succ n ih => intro x h hx; exact step x hx (fun y hy hlt => ih y (by omega) hy)
  exact r_lv hl (key _ x0 (Nat.lt_succ_self _) h0)
theorem at_join {σ : Type} {tgt : Nat} (I : σ → Prop) (lf : σ → List (Nat × Value)) (sf : σ → List Value) (wf : σ → va_W) (k : ∀ x, I x → AT p l e R s m args below meth c g nL Q cl sl tgt (lf x) (sf x) (wf x)) (body : (∀ x, I x → AT p l e R s m args below meth c g nL Q cl sl tgt (lf x) (sf x) (wf x)) → AT p l e R s m args below meth c g nL Q cl sl pc lv st ws) : AT p l e R s m args below meth c g nL Q cl sl pc lv st ws := body k
theorem q_met {y : MethodName} {bytes : ByteArray} {maxL : Nat} {ret : Option FieldType} {rm : Room} {av : List Value} {Qc : Array Value → State → Outcome → State → Prop} (hy : plainName y.cls = true) (hown : y.cls = own) (hlen : (lg_sl av).length ≤ maxL)
    (body : ∀ (p : Program) (e : Env) (s : State) (m : MethodId) (args : Array Value) (below : List Frame) (meth : Method) (c : Code), q_cx g p m c bytes maxL s args own meth → meth.sig.returnType = ret → (meth.name = y.name) → AT p l e rm s m args below meth c g maxL (MQ below Qc args s rm.cells rm.slots (q_A g)) 0 0 0 (lv_args 0 av) [] ws) : MetW l g y bytes maxL ret rm av ws Qc := by
  refine Met.ofW (cc := bytes) (maxL := maxL) (ret := ret) hy rfl ?_
  intro p e s m args below meth c s₁ B hml hv
  obtain ⟨rfl, hE, hI⟩ := hv
  have hts := atoms_spec (ws := Cond.code y bytes maxL ret :: WS) B.pre
  rw [lg_entry_eq]
  exact body p e s m _ below meth c ⟨⟨B.exec, B.bytes, hml, hown ▸ findClass_of_methodNamed B.named, fun w hw => hts w (List.mem_cons_of_mem _ hw)⟩, hE, B.notSynchronized⟩ B.returns (name_of_methodNamed B.named B.method).1 s.heap [] _ hI.1 hI.2 va_S.rf (lv_entry av hlen)
theorem q_metX {y : MethodName} {bytes : ByteArray} {maxL : Nat} {ret : Option FieldType} {rm : Room} {av : List Value} {Qc : Array Value → State → Outcome → State → Prop} {pe : String → va_W → Prop} (hy : plainName y.cls = true) (hown : y.cls = own) (hlen : (lg_sl av).length ≤ maxL)
    (body : ∀ (p : Program) (e : Env) (s : State) (m : MethodId) (args : Array Value) (below : List Frame) (meth : Method) (c : Code), q_cx g p m c bytes maxL s args own meth → meth.sig.returnType = ret → (∀ x ∈ c.exceptionTable.toList, False) → AT p l e rm s m args below meth c g maxL (vx_MQ below Qc (q_XC g pe) args s rm.cells rm.slots (q_A g)) 0 0 0 (lv_args 0 av) [] ws) : MetX l g y bytes maxL ret rm av ws Qc pe := by
  refine vx_ofW (cc := bytes) (maxL := maxL) (ret := ret) hy rfl ?_
  intro p e s m args below meth c s₁ B hml htab hv
  obtain ⟨rfl, hE, hI⟩ := hv
  have hts := atoms_spec (ws := Cond.code y bytes maxL ret :: WS) B.pre
  rw [lg_entry_eq]
  exact body p e s m _ below meth c ⟨⟨B.exec, B.bytes, hml, hown ▸ findClass_of_methodNamed B.named, fun w hw => hts w (List.mem_cons_of_mem _ hw)⟩, hE, B.notSynchronized⟩ B.returns htab s.heap [] _ hI.1 hI.2 va_S.rf (lv_entry av hlen)
end ROWS
end
section
section CALLS
variable {p : Program} {l : Launch} {e : Env} {R : Room} {s : State} {m : MethodId} {args : Array Value} {below : List Frame} {meth : Method} {c : Code} {g : q_G} {nL : Nat} {Q : State → Prop} {cl sl : Nat} {cc : ByteArray} {own : String} {pc : Nat} {lv : List (Nat × Value)} {st st0 : List Value} {ws : va_W} {y : MethodName} {bytes : ByteArray} {maxL index n : Nat} {ret : Option FieldType} {rm : Room} {As : List Value} {b : Nat}
abbrev q_MH : String := "java/lang/invoke/MethodHandle"
abbrev q_VH : String := "java/lang/invoke/VarHandle"
theorem q_Vi (cx : q_cx g p m c cc nL s args own meth) {C : String} {post : Int32 → va_W → Prop} (G : GoodIn WS (wsV own index C y (Cond.code y bytes maxL ret :: WS))) (hC : y.cls = C ∧ y.cls ≠ q_MH ∧ y.cls ≠ q_VH ∧ (parseMethodDescriptor y.desc).map (fun d => d.parameters.length) = some n) {ci : Nat} {q : vw_C} (hc : vwCl[ci]? = some q) (hq : q.1 = C)
    (hM : MetW l g y bytes maxL ret rm (.ref b :: As) ws (q_Qi g post)) (hd : decode cc pc = .ok (.invokevirtual index, 3)) (q0 : Nat) {fs : List Value} (he : ws[q0]? = some (b, .inr (ci, fs))) (hR : rm.frames + 1 ≤ R.frames ∧ 8 + (maxL + 11) + rm.locals ≤ R.locals) (hroom : cl + rm.cells ≤ R.cells ∧ sl + rm.slots ≤ R.slots) (hst : st0 = As.reverse ++ .ref b :: st) (hn : As.length = n) (hW : (st.map fun v => v.category).sum ≤ 8) (kk : ∀ (r : Int32) (u : va_W), post r u → AT p l e R s m args below meth c g nL Q (cl + rm.cells) (sl + rm.slots) (pc + 3) lv (.int r :: st) u) : AT p l e R s m args below meth c g nL Q cl sl pc lv st0 ws := fun H locs ls hP hD hS hl =>
  va_calli (va_runV (As := As) (rest := st) cx.1 hM (cwV n cx.1.2.2.2.2 G rfl rfl rfl hC hR) ⟨q_Pc.blind, hq ▸ va_recv cx.2.1.2.1 hP hc he, fun U hU hW => ⟨rfl, q_env.go cx.2.1 hU hW hS, by rw [q_in, hU]; exact ⟨hP, hD⟩⟩⟩ rfl hn hl.1 hst (lv_room hW) hd hroom) hS (fun q _ h => h) (fun q h => h) (fun r u t H1 locs1 ht hvm hw hB hz1 hk1 hS => by subst ht; exact kk r u hw _ locs1 ls hB.1 hB.2 hS hl)
theorem q_Si (cx : q_cx g p m c cc nL s args own meth) {post : Int32 → va_W → Prop} (G : GoodIn WS (va_wsS own index y (Cond.code y bytes maxL ret :: WS))) (hC :  y.cls ≠ q_MH ∧ y.cls ≠ q_VH ∧ (parseMethodDescriptor y.desc).map (fun d => d.parameters.length) = some n)
    (hM : MetW l g y bytes maxL ret rm As ws (q_Qi g post)) (hd : decode cc pc = .ok (.invokestatic index, 3)) (hR : rm.frames + 1 ≤ R.frames ∧ 8 + (maxL + 11) + rm.locals ≤ R.locals) (hroom : cl + rm.cells ≤ R.cells ∧ sl + rm.slots ≤ R.slots) (hst : st0 = As.reverse ++ st) (hn : As.length = n) (hW : (st.map fun v => v.category).sum ≤ 8) (kk : ∀ (r : Int32) (u : va_W), post r u → AT p l e R s m args below meth c g nL Q (cl + rm.cells) (sl + rm.slots) (pc + 3) lv (.int r :: st) u) : AT p l e R s m args below meth c g nL Q cl sl pc lv st0 ws := fun H locs ls hP hD hS hl =>
  va_calli (va_runS (As := As) (rest := st) cx.1 hM (va_cwS n cx.1.2.2.2.2 G rfl rfl rfl hC hR) ⟨q_Pc.blind, fun U hU hW => ⟨rfl, q_env.go cx.2.1 hU hW hS, by rw [q_in, hU]; exact ⟨hP, hD⟩⟩⟩ rfl hn hl.1 hst (lv_room hW) hd hroom) hS (fun q _ h => h) (fun q h => h) (fun r u t H1 locs1 ht hvm hw hB hz1 hk1 hS => by subst ht; exact kk r u hw _ locs1 ls hB.1 hB.2 hS hl)
theorem q_Ni (cx : q_cx g p m c cc nL s args own meth) {C host : String} {post : Int32 → va_W → Prop} (m0 : Cond.methodLinkNest own index y host ∈ NGW) (m2 : Cond.instanceMethod y ∈ WS) (m3 : Cond.selects C y y ∈ WS) (m4 : Cond.initialized y.cls ∈ WS) (m5 : Cond.code y bytes maxL ret ∈ WS) (hC :  y.cls ≠ q_MH ∧ y.cls ≠ q_VH ∧ (parseMethodDescriptor y.desc).map (fun d => d.parameters.length) = some n) {ci : Nat} {q : vw_C} (hc : vwCl[ci]? = some q) (hq : q.1 = C)
    (hM : MetW l g y bytes maxL ret rm (.ref b :: As) ws (q_Qi g post)) (hd : decode cc pc = .ok (.invokevirtual index, 3)) (q0 : Nat) {fs : List Value} (he : ws[q0]? = some (b, .inr (ci, fs))) (hR : rm.frames + 1 ≤ R.frames ∧ 8 + (maxL + 11) + rm.locals ≤ R.locals) (hroom : cl + rm.cells ≤ R.cells ∧ sl + rm.slots ≤ R.slots) (hst : st0 = As.reverse ++ .ref b :: st) (hn : As.length = n) (hW : (st.map fun v => v.category).sum ≤ 8) (kk : ∀ (r : Int32) (u : va_W), post r u → AT p l e R s m args below meth c g nL Q (cl + rm.cells) (sl + rm.slots) (pc + 3) lv (.int r :: st) u) : AT p l e R s m args below meth c g nL Q cl sl pc lv st0 ws := fun H locs ls hP hD hS hl =>
  va_calli (va_runVN (As := As) (rest := st) cx.1 hM ⟨va_cnB n cx.1.2.2.2.2 (gi_code m5) rfl rfl rfl (cx.2.1.2.2.1 _ m0) (cx.ok m4) hC hR, cx.ok m2, cx.ok m3⟩ ⟨q_Pc.blind, hq ▸ va_recv cx.2.1.2.1 hP hc he, fun U hU hW => ⟨rfl, q_env.go cx.2.1 hU hW hS, by rw [q_in, hU]; exact ⟨hP, hD⟩⟩⟩ rfl hn hl.1 hst (lv_room hW) hd hroom) hS (fun q _ h => h) (fun q h => h) (fun r u t H1 locs1 ht hvm hw hB hz1 hk1 hS => by subst ht; exact kk r u hw _ locs1 ls hB.1 hB.2 hS hl)
theorem q_Xi (cx : q_cx g p m c cc nL s args own meth) {C : String} {post : Int32 → va_W → Prop} {pe : String → va_W → Prop} (G : GoodIn WS (wsV own index C y (Cond.code y bytes maxL ret :: WS))) (hC : y.cls = C ∧ y.cls ≠ q_MH ∧ y.cls ≠ q_VH ∧ (parseMethodDescriptor y.desc).map (fun d => d.parameters.length) = some n) {ci : Nat} {q : vw_C} (hc : vwCl[ci]? = some q) (hq : q.1 = C)
    (hM : MetX l g y bytes maxL ret rm (.ref b :: As) ws (q_Qi g post) pe) (hd : decode cc pc = .ok (.invokevirtual index, 3)) (q0 : Nat) {fs : List Value} (he : ws[q0]? = some (b, .inr (ci, fs))) (hR : rm.frames + 1 ≤ R.frames ∧ 8 + (maxL + 11) + rm.locals ≤ R.locals) (hroom : cl + rm.cells ≤ R.cells ∧ sl + rm.slots ≤ R.slots) (hst : st0 = As.reverse ++ .ref b :: st) (hn : As.length = n) (hW : (st.map fun v => v.category).sum ≤ 8)
    (kx : ∀ (E : String) (u : va_W), pe E u → ∀ (H : Heap) (locs : List Loc) (ls : Array Slot) (q9 : Addr) (ce : Cell), va_P g.1 vwCl u H → va_D (q_A g) u → va_S (q_A g) s.heap H locs → lv_has ls nL lv → H[q9]? = some ce → ce.vm = .none → s.vm.findClass E = some ce.cls → vx_W p l e R s m args below meth c H locs (cl + rm.cells) (sl + rm.slots) Q (F0 m pc ls st) q9) (kk : ∀ (r : Int32) (u : va_W), post r u → AT p l e R s m args below meth c g nL Q (cl + rm.cells) (sl + rm.slots) (pc + 3) lv (.int r :: st) u) : AT p l e R s m args below meth c g nL Q cl sl pc lv st0 ws := fun H locs ls hP hD hS hl =>
  vx_calli (vx_runV (As := As) (rest := st) cx.1 hM (cwV n cx.1.2.2.2.2 G rfl rfl rfl hC hR) ⟨q_Pc.blind, hq ▸ va_recv cx.2.1.2.1 hP hc he, fun U hU hW => ⟨rfl, q_env.go cx.2.1 hU hW hS, by rw [q_in, hU]; exact ⟨hP, hD⟩⟩⟩ rfl hn hl.1 hst (lv_room hW) hd hroom) hS (fun q _ h => h) (fun q h => h) (fun q _ h => h)
    (fun E ce q9 u t H1 locs1 ht hvm hp hB hz1 hk1 hS h1 h2 h3 => by subst ht; exact kx E u hB.1 _ locs1 ls q9 ce hB.2.1 hB.2.2 hS hl h1 h2 h3) (fun r u t H1 locs1 ht hvm hw hB hz1 hk1 hS => by subst ht; exact kk r u hw _ locs1 ls hB.1 hB.2 hS hl)
theorem q_Vl (cx : q_cx g p m c cc nL s args own meth) {C : String} {post : Int64 → va_W → Prop} (G : GoodIn WS (wsV own index C y (Cond.code y bytes maxL ret :: WS))) (hC : y.cls = C ∧ y.cls ≠ q_MH ∧ y.cls ≠ q_VH ∧ (parseMethodDescriptor y.desc).map (fun d => d.parameters.length) = some n) {ci : Nat} {q : vw_C} (hc : vwCl[ci]? = some q) (hq : q.1 = C)
    (hM : MetW l g y bytes maxL ret rm (.ref b :: As) ws (q_Ql g post)) (hd : decode cc pc = .ok (.invokevirtual index, 3)) (q0 : Nat) {fs : List Value} (he : ws[q0]? = some (b, .inr (ci, fs))) (hR : rm.frames + 1 ≤ R.frames ∧ 8 + (maxL + 11) + rm.locals ≤ R.locals) (hroom : cl + rm.cells ≤ R.cells ∧ sl + rm.slots ≤ R.slots) (hst : st0 = As.reverse ++ .ref b :: st) (hn : As.length = n) (hW : (st.map fun v => v.category).sum ≤ 8) (kk : ∀ (r : Int64) (u : va_W), post r u → AT p l e R s m args below meth c g nL Q (cl + rm.cells) (sl + rm.slots) (pc + 3) lv (.long r :: st) u) : AT p l e R s m args below meth c g nL Q cl sl pc lv st0 ws := fun H locs ls hP hD hS hl =>
  va_calll (va_runV (As := As) (rest := st) cx.1 hM (cwV n cx.1.2.2.2.2 G rfl rfl rfl hC hR) ⟨q_Pc.blind, hq ▸ va_recv cx.2.1.2.1 hP hc he, fun U hU hW => ⟨rfl, q_env.go cx.2.1 hU hW hS, by rw [q_in, hU]; exact ⟨hP, hD⟩⟩⟩ rfl hn hl.1 hst (lv_room hW) hd hroom) hS (fun q _ h => h) (fun q h => h) (fun r u t H1 locs1 ht hvm hw hB hz1 hk1 hS => by subst ht; exact kk r u hw _ locs1 ls hB.1 hB.2 hS hl)
theorem q_Sl (cx : q_cx g p m c cc nL s args own meth) {post : Int64 → va_W → Prop} (G : GoodIn WS (va_wsS own index y (Cond.code y bytes maxL ret :: WS))) (hC :  y.cls ≠ q_MH ∧ y.cls ≠ q_VH ∧ (parseMethodDescriptor y.desc).map (fun d => d.parameters.length) = some n)
    (hM : MetW l g y bytes maxL ret rm As ws (q_Ql g post)) (hd : decode cc pc = .ok (.invokestatic index, 3)) (hR : rm.frames + 1 ≤ R.frames ∧ 8 + (maxL + 11) + rm.locals ≤ R.locals) (hroom : cl + rm.cells ≤ R.cells ∧ sl + rm.slots ≤ R.slots) (hst : st0 = As.reverse ++ st) (hn : As.length = n) (hW : (st.map fun v => v.category).sum ≤ 8) (kk : ∀ (r : Int64) (u : va_W), post r u → AT p l e R s m args below meth c g nL Q (cl + rm.cells) (sl + rm.slots) (pc + 3) lv (.long r :: st) u) : AT p l e R s m args below meth c g nL Q cl sl pc lv st0 ws := fun H locs ls hP hD hS hl =>
  va_calll (va_runS (As := As) (rest := st) cx.1 hM (va_cwS n cx.1.2.2.2.2 G rfl rfl rfl hC hR) ⟨q_Pc.blind, fun U hU hW => ⟨rfl, q_env.go cx.2.1 hU hW hS, by rw [q_in, hU]; exact ⟨hP, hD⟩⟩⟩ rfl hn hl.1 hst (lv_room hW) hd hroom) hS (fun q _ h => h) (fun q h => h) (fun r u t H1 locs1 ht hvm hw hB hz1 hk1 hS => by subst ht; exact kk r u hw _ locs1 ls hB.1 hB.2 hS hl)
theorem q_Nl (cx : q_cx g p m c cc nL s args own meth) {C host : String} {post : Int64 → va_W → Prop} (m0 : Cond.methodLinkNest own index y host ∈ NGW) (m2 : Cond.instanceMethod y ∈ WS) (m3 : Cond.selects C y y ∈ WS) (m4 : Cond.initialized y.cls ∈ WS) (m5 : Cond.code y bytes maxL ret ∈ WS) (hC :  y.cls ≠ q_MH ∧ y.cls ≠ q_VH ∧ (parseMethodDescriptor y.desc).map (fun d => d.parameters.length) = some n) {ci : Nat} {q : vw_C} (hc : vwCl[ci]? = some q) (hq : q.1 = C)
    (hM : MetW l g y bytes maxL ret rm (.ref b :: As) ws (q_Ql g post)) (hd : decode cc pc = .ok (.invokevirtual index, 3)) (q0 : Nat) {fs : List Value} (he : ws[q0]? = some (b, .inr (ci, fs))) (hR : rm.frames + 1 ≤ R.frames ∧ 8 + (maxL + 11) + rm.locals ≤ R.locals) (hroom : cl + rm.cells ≤ R.cells ∧ sl + rm.slots ≤ R.slots) (hst : st0 = As.reverse ++ .ref b :: st) (hn : As.length = n) (hW : (st.map fun v => v.category).sum ≤ 8) (kk : ∀ (r : Int64) (u : va_W), post r u → AT p l e R s m args below meth c g nL Q (cl + rm.cells) (sl + rm.slots) (pc + 3) lv (.long r :: st) u) : AT p l e R s m args below meth c g nL Q cl sl pc lv st0 ws := fun H locs ls hP hD hS hl =>
  va_calll (va_runVN (As := As) (rest := st) cx.1 hM ⟨va_cnB n cx.1.2.2.2.2 (gi_code m5) rfl rfl rfl (cx.2.1.2.2.1 _ m0) (cx.ok m4) hC hR, cx.ok m2, cx.ok m3⟩ ⟨q_Pc.blind, hq ▸ va_recv cx.2.1.2.1 hP hc he, fun U hU hW => ⟨rfl, q_env.go cx.2.1 hU hW hS, by rw [q_in, hU]; exact ⟨hP, hD⟩⟩⟩ rfl hn hl.1 hst (lv_room hW) hd hroom) hS (fun q _ h => h) (fun q h => h) (fun r u t H1 locs1 ht hvm hw hB hz1 hk1 hS => by subst ht; exact kk r u hw _ locs1 ls hB.1 hB.2 hS hl)
theorem q_Xl (cx : q_cx g p m c cc nL s args own meth) {C : String} {post : Int64 → va_W → Prop} {pe : String → va_W → Prop} (G : GoodIn WS (wsV own index C y (Cond.code y bytes maxL ret :: WS))) (hC : y.cls = C ∧ y.cls ≠ q_MH ∧ y.cls ≠ q_VH ∧ (parseMethodDescriptor y.desc).map (fun d => d.parameters.length) = some n) {ci : Nat} {q : vw_C} (hc : vwCl[ci]? = some q) (hq : q.1 = C)
    (hM : MetX l g y bytes maxL ret rm (.ref b :: As) ws (q_Ql g post) pe) (hd : decode cc pc = .ok (.invokevirtual index, 3)) (q0 : Nat) {fs : List Value} (he : ws[q0]? = some (b, .inr (ci, fs))) (hR : rm.frames + 1 ≤ R.frames ∧ 8 + (maxL + 11) + rm.locals ≤ R.locals) (hroom : cl + rm.cells ≤ R.cells ∧ sl + rm.slots ≤ R.slots) (hst : st0 = As.reverse ++ .ref b :: st) (hn : As.length = n) (hW : (st.map fun v => v.category).sum ≤ 8)
    (kx : ∀ (E : String) (u : va_W), pe E u → ∀ (H : Heap) (locs : List Loc) (ls : Array Slot) (q9 : Addr) (ce : Cell), va_P g.1 vwCl u H → va_D (q_A g) u → va_S (q_A g) s.heap H locs → lv_has ls nL lv → H[q9]? = some ce → ce.vm = .none → s.vm.findClass E = some ce.cls → vx_W p l e R s m args below meth c H locs (cl + rm.cells) (sl + rm.slots) Q (F0 m pc ls st) q9) (kk : ∀ (r : Int64) (u : va_W), post r u → AT p l e R s m args below meth c g nL Q (cl + rm.cells) (sl + rm.slots) (pc + 3) lv (.long r :: st) u) : AT p l e R s m args below meth c g nL Q cl sl pc lv st0 ws := fun H locs ls hP hD hS hl =>
  vx_calll (vx_runV (As := As) (rest := st) cx.1 hM (cwV n cx.1.2.2.2.2 G rfl rfl rfl hC hR) ⟨q_Pc.blind, hq ▸ va_recv cx.2.1.2.1 hP hc he, fun U hU hW => ⟨rfl, q_env.go cx.2.1 hU hW hS, by rw [q_in, hU]; exact ⟨hP, hD⟩⟩⟩ rfl hn hl.1 hst (lv_room hW) hd hroom) hS (fun q _ h => h) (fun q h => h) (fun q _ h => h)
    (fun E ce q9 u t H1 locs1 ht hvm hp hB hz1 hk1 hS h1 h2 h3 => by subst ht; exact kx E u hB.1 _ locs1 ls q9 ce hB.2.1 hB.2.2 hS hl h1 h2 h3) (fun r u t H1 locs1 ht hvm hw hB hz1 hk1 hS => by subst ht; exact kk r u hw _ locs1 ls hB.1 hB.2 hS hl)
theorem q_Vv (cx : q_cx g p m c cc nL s args own meth) {C : String} {post : va_W → Prop} (G : GoodIn WS (wsV own index C y (Cond.code y bytes maxL ret :: WS))) (hC : y.cls = C ∧ y.cls ≠ q_MH ∧ y.cls ≠ q_VH ∧ (parseMethodDescriptor y.desc).map (fun d => d.parameters.length) = some n) {ci : Nat} {q : vw_C} (hc : vwCl[ci]? = some q) (hq : q.1 = C)
    (hM : MetW l g y bytes maxL ret rm (.ref b :: As) ws (q_Qv g post)) (hd : decode cc pc = .ok (.invokevirtual index, 3)) (q0 : Nat) {fs : List Value} (he : ws[q0]? = some (b, .inr (ci, fs))) (hR : rm.frames + 1 ≤ R.frames ∧ 8 + (maxL + 11) + rm.locals ≤ R.locals) (hroom : cl + rm.cells ≤ R.cells ∧ sl + rm.slots ≤ R.slots) (hst : st0 = As.reverse ++ .ref b :: st) (hn : As.length = n) (hW : (st.map fun v => v.category).sum ≤ 8) (kk : ∀ (u : va_W), post  u → AT p l e R s m args below meth c g nL Q (cl + rm.cells) (sl + rm.slots) (pc + 3) lv (st) u) : AT p l e R s m args below meth c g nL Q cl sl pc lv st0 ws := fun H locs ls hP hD hS hl =>
  va_callv (va_runV (As := As) (rest := st) cx.1 hM (cwV n cx.1.2.2.2.2 G rfl rfl rfl hC hR) ⟨q_Pc.blind, hq ▸ va_recv cx.2.1.2.1 hP hc he, fun U hU hW => ⟨rfl, q_env.go cx.2.1 hU hW hS, by rw [q_in, hU]; exact ⟨hP, hD⟩⟩⟩ rfl hn hl.1 hst (lv_room hW) hd hroom) hS (fun q _ h => h) (fun q h => h) (fun u t H1 locs1 ht hvm hw hB hz1 hk1 hS => by subst ht; exact kk u hw _ locs1 ls hB.1 hB.2 hS hl)
theorem q_Sv (cx : q_cx g p m c cc nL s args own meth) {post : va_W → Prop} (G : GoodIn WS (va_wsS own index y (Cond.code y bytes maxL ret :: WS))) (hC :  y.cls ≠ q_MH ∧ y.cls ≠ q_VH ∧ (parseMethodDescriptor y.desc).map (fun d => d.parameters.length) = some n)
    (hM : MetW l g y bytes maxL ret rm As ws (q_Qv g post)) (hd : decode cc pc = .ok (.invokestatic index, 3)) (hR : rm.frames + 1 ≤ R.frames ∧ 8 + (maxL + 11) + rm.locals ≤ R.locals) (hroom : cl + rm.cells ≤ R.cells ∧ sl + rm.slots ≤ R.slots) (hst : st0 = As.reverse ++ st) (hn : As.length = n) (hW : (st.map fun v => v.category).sum ≤ 8) (kk : ∀ (u : va_W), post  u → AT p l e R s m args below meth c g nL Q (cl + rm.cells) (sl + rm.slots) (pc + 3) lv (st) u) : AT p l e R s m args below meth c g nL Q cl sl pc lv st0 ws := fun H locs ls hP hD hS hl =>
  va_callv (va_runS (As := As) (rest := st) cx.1 hM (va_cwS n cx.1.2.2.2.2 G rfl rfl rfl hC hR) ⟨q_Pc.blind, fun U hU hW => ⟨rfl, q_env.go cx.2.1 hU hW hS, by rw [q_in, hU]; exact ⟨hP, hD⟩⟩⟩ rfl hn hl.1 hst (lv_room hW) hd hroom) hS (fun q _ h => h) (fun q h => h) (fun u t H1 locs1 ht hvm hw hB hz1 hk1 hS => by subst ht; exact kk u hw _ locs1 ls hB.1 hB.2 hS hl)
theorem q_Nv (cx : q_cx g p m c cc nL s args own meth) {C host : String} {post : va_W → Prop} (m0 : Cond.methodLinkNest own index y host ∈ NGW) (m2 : Cond.instanceMethod y ∈ WS) (m3 : Cond.selects C y y ∈ WS) (m4 : Cond.initialized y.cls ∈ WS) (m5 : Cond.code y bytes maxL ret ∈ WS) (hC :  y.cls ≠ q_MH ∧ y.cls ≠ q_VH ∧ (parseMethodDescriptor y.desc).map (fun d => d.parameters.length) = some n) {ci : Nat} {q : vw_C} (hc : vwCl[ci]? = some q) (hq : q.1 = C)
    (hM : MetW l g y bytes maxL ret rm (.ref b :: As) ws (q_Qv g post)) (hd : decode cc pc = .ok (.invokevirtual index, 3)) (q0 : Nat) {fs : List Value} (he : ws[q0]? = some (b, .inr (ci, fs))) (hR : rm.frames + 1 ≤ R.frames ∧ 8 + (maxL + 11) + rm.locals ≤ R.locals) (hroom : cl + rm.cells ≤ R.cells ∧ sl + rm.slots ≤ R.slots) (hst : st0 = As.reverse ++ .ref b :: st) (hn : As.length = n) (hW : (st.map fun v => v.category).sum ≤ 8) (kk : ∀ (u : va_W), post  u → AT p l e R s m args below meth c g nL Q (cl + rm.cells) (sl + rm.slots) (pc + 3) lv (st) u) : AT p l e R s m args below meth c g nL Q cl sl pc lv st0 ws := fun H locs ls hP hD hS hl =>
  va_callv (va_runVN (As := As) (rest := st) cx.1 hM ⟨va_cnB n cx.1.2.2.2.2 (gi_code m5) rfl rfl rfl (cx.2.1.2.2.1 _ m0) (cx.ok m4) hC hR, cx.ok m2, cx.ok m3⟩ ⟨q_Pc.blind, hq ▸ va_recv cx.2.1.2.1 hP hc he, fun U hU hW => ⟨rfl, q_env.go cx.2.1 hU hW hS, by rw [q_in, hU]; exact ⟨hP, hD⟩⟩⟩ rfl hn hl.1 hst (lv_room hW) hd hroom) hS (fun q _ h => h) (fun q h => h) (fun u t H1 locs1 ht hvm hw hB hz1 hk1 hS => by subst ht; exact kk u hw _ locs1 ls hB.1 hB.2 hS hl)
theorem q_Xv (cx : q_cx g p m c cc nL s args own meth) {C : String} {post : va_W → Prop} {pe : String → va_W → Prop} (G : GoodIn WS (wsV own index C y (Cond.code y bytes maxL ret :: WS))) (hC : y.cls = C ∧ y.cls ≠ q_MH ∧ y.cls ≠ q_VH ∧ (parseMethodDescriptor y.desc).map (fun d => d.parameters.length) = some n) {ci : Nat} {q : vw_C} (hc : vwCl[ci]? = some q) (hq : q.1 = C)
    (hM : MetX l g y bytes maxL ret rm (.ref b :: As) ws (q_Qv g post) pe) (hd : decode cc pc = .ok (.invokevirtual index, 3)) (q0 : Nat) {fs : List Value} (he : ws[q0]? = some (b, .inr (ci, fs))) (hR : rm.frames + 1 ≤ R.frames ∧ 8 + (maxL + 11) + rm.locals ≤ R.locals) (hroom : cl + rm.cells ≤ R.cells ∧ sl + rm.slots ≤ R.slots) (hst : st0 = As.reverse ++ .ref b :: st) (hn : As.length = n) (hW : (st.map fun v => v.category).sum ≤ 8)
    (kx : ∀ (E : String) (u : va_W), pe E u → ∀ (H : Heap) (locs : List Loc) (ls : Array Slot) (q9 : Addr) (ce : Cell), va_P g.1 vwCl u H → va_D (q_A g) u → va_S (q_A g) s.heap H locs → lv_has ls nL lv → H[q9]? = some ce → ce.vm = .none → s.vm.findClass E = some ce.cls → vx_W p l e R s m args below meth c H locs (cl + rm.cells) (sl + rm.slots) Q (F0 m pc ls st) q9) (kk : ∀ (u : va_W), post  u → AT p l e R s m args below meth c g nL Q (cl + rm.cells) (sl + rm.slots) (pc + 3) lv (st) u) : AT p l e R s m args below meth c g nL Q cl sl pc lv st0 ws := fun H locs ls hP hD hS hl =>
  vx_callv (vx_runV (As := As) (rest := st) cx.1 hM (cwV n cx.1.2.2.2.2 G rfl rfl rfl hC hR) ⟨q_Pc.blind, hq ▸ va_recv cx.2.1.2.1 hP hc he, fun U hU hW => ⟨rfl, q_env.go cx.2.1 hU hW hS, by rw [q_in, hU]; exact ⟨hP, hD⟩⟩⟩ rfl hn hl.1 hst (lv_room hW) hd hroom) hS (fun q _ h => h) (fun q h => h) (fun q _ h => h)
    (fun E ce q9 u t H1 locs1 ht hvm hp hB hz1 hk1 hS h1 h2 h3 => by subst ht; exact kx E u hB.1 _ locs1 ls q9 ce hB.2.1 hB.2.2 hS hl h1 h2 h3) (fun u t H1 locs1 ht hvm hw hB hz1 hk1 hS => by subst ht; exact kk u hw _ locs1 ls hB.1 hB.2 hS hl)
theorem q_Vq (cx : q_cx g p m c cc nL s args own meth) {C : String} {post : Option Nat → va_W → Prop} (G : GoodIn WS (wsV own index C y (Cond.code y bytes maxL ret :: WS))) (hC : y.cls = C ∧ y.cls ≠ q_MH ∧ y.cls ≠ q_VH ∧ (parseMethodDescriptor y.desc).map (fun d => d.parameters.length) = some n) {ci : Nat} {q : vw_C} (hc : vwCl[ci]? = some q) (hq : q.1 = C)
    (hM : MetW l g y bytes maxL ret rm (.ref b :: As) ws (q_Qq g post)) (hd : decode cc pc = .ok (.invokevirtual index, 3)) (q0 : Nat) {fs : List Value} (he : ws[q0]? = some (b, .inr (ci, fs))) (hR : rm.frames + 1 ≤ R.frames ∧ 8 + (maxL + 11) + rm.locals ≤ R.locals) (hroom : cl + rm.cells ≤ R.cells ∧ sl + rm.slots ≤ R.slots) (hst : st0 = As.reverse ++ .ref b :: st) (hn : As.length = n) (hW : (st.map fun v => v.category).sum ≤ 8) (kk : ∀ (r : Option Nat) (u : va_W), post r u → AT p l e R s m args below meth c g nL Q (cl + rm.cells) (sl + rm.slots) (pc + 3) lv (va_rf r :: st) u) : AT p l e R s m args below meth c g nL Q cl sl pc lv st0 ws := fun H locs ls hP hD hS hl =>
  va_callq (va_runV (As := As) (rest := st) cx.1 hM (cwV n cx.1.2.2.2.2 G rfl rfl rfl hC hR) ⟨q_Pc.blind, hq ▸ va_recv cx.2.1.2.1 hP hc he, fun U hU hW => ⟨rfl, q_env.go cx.2.1 hU hW hS, by rw [q_in, hU]; exact ⟨hP, hD⟩⟩⟩ rfl hn hl.1 hst (lv_room hW) hd hroom) hS (fun q _ h => h) (fun q h => h) (fun r u t H1 locs1 ht hvm hw hB hz1 hk1 hS => by subst ht; exact kk r u hw _ locs1 ls hB.1 hB.2 hS hl)
theorem q_Sq (cx : q_cx g p m c cc nL s args own meth) {post : Option Nat → va_W → Prop} (G : GoodIn WS (va_wsS own index y (Cond.code y bytes maxL ret :: WS))) (hC :  y.cls ≠ q_MH ∧ y.cls ≠ q_VH ∧ (parseMethodDescriptor y.desc).map (fun d => d.parameters.length) = some n)
    (hM : MetW l g y bytes maxL ret rm As ws (q_Qq g post)) (hd : decode cc pc = .ok (.invokestatic index, 3)) (hR : rm.frames + 1 ≤ R.frames ∧ 8 + (maxL + 11) + rm.locals ≤ R.locals) (hroom : cl + rm.cells ≤ R.cells ∧ sl + rm.slots ≤ R.slots) (hst : st0 = As.reverse ++ st) (hn : As.length = n) (hW : (st.map fun v => v.category).sum ≤ 8) (kk : ∀ (r : Option Nat) (u : va_W), post r u → AT p l e R s m args below meth c g nL Q (cl + rm.cells) (sl + rm.slots) (pc + 3) lv (va_rf r :: st) u) : AT p l e R s m args below meth c g nL Q cl sl pc lv st0 ws := fun H locs ls hP hD hS hl =>
  va_callq (va_runS (As := As) (rest := st) cx.1 hM (va_cwS n cx.1.2.2.2.2 G rfl rfl rfl hC hR) ⟨q_Pc.blind, fun U hU hW => ⟨rfl, q_env.go cx.2.1 hU hW hS, by rw [q_in, hU]; exact ⟨hP, hD⟩⟩⟩ rfl hn hl.1 hst (lv_room hW) hd hroom) hS (fun q _ h => h) (fun q h => h) (fun r u t H1 locs1 ht hvm hw hB hz1 hk1 hS => by subst ht; exact kk r u hw _ locs1 ls hB.1 hB.2 hS hl)
theorem q_Nq (cx : q_cx g p m c cc nL s args own meth) {C host : String} {post : Option Nat → va_W → Prop} (m0 : Cond.methodLinkNest own index y host ∈ NGW) (m2 : Cond.instanceMethod y ∈ WS) (m3 : Cond.selects C y y ∈ WS) (m4 : Cond.initialized y.cls ∈ WS) (m5 : Cond.code y bytes maxL ret ∈ WS) (hC :  y.cls ≠ q_MH ∧ y.cls ≠ q_VH ∧ (parseMethodDescriptor y.desc).map (fun d => d.parameters.length) = some n) {ci : Nat} {q : vw_C} (hc : vwCl[ci]? = some q) (hq : q.1 = C)
    (hM : MetW l g y bytes maxL ret rm (.ref b :: As) ws (q_Qq g post)) (hd : decode cc pc = .ok (.invokevirtual index, 3)) (q0 : Nat) {fs : List Value} (he : ws[q0]? = some (b, .inr (ci, fs))) (hR : rm.frames + 1 ≤ R.frames ∧ 8 + (maxL + 11) + rm.locals ≤ R.locals) (hroom : cl + rm.cells ≤ R.cells ∧ sl + rm.slots ≤ R.slots) (hst : st0 = As.reverse ++ .ref b :: st) (hn : As.length = n) (hW : (st.map fun v => v.category).sum ≤ 8) (kk : ∀ (r : Option Nat) (u : va_W), post r u → AT p l e R s m args below meth c g nL Q (cl + rm.cells) (sl + rm.slots) (pc + 3) lv (va_rf r :: st) u) : AT p l e R s m args below meth c g nL Q cl sl pc lv st0 ws := fun H locs ls hP hD hS hl =>
  va_callq (va_runVN (As := As) (rest := st) cx.1 hM ⟨va_cnB n cx.1.2.2.2.2 (gi_code m5) rfl rfl rfl (cx.2.1.2.2.1 _ m0) (cx.ok m4) hC hR, cx.ok m2, cx.ok m3⟩ ⟨q_Pc.blind, hq ▸ va_recv cx.2.1.2.1 hP hc he, fun U hU hW => ⟨rfl, q_env.go cx.2.1 hU hW hS, by rw [q_in, hU]; exact ⟨hP, hD⟩⟩⟩ rfl hn hl.1 hst (lv_room hW) hd hroom) hS (fun q _ h => h) (fun q h => h) (fun r u t H1 locs1 ht hvm hw hB hz1 hk1 hS => by subst ht; exact kk r u hw _ locs1 ls hB.1 hB.2 hS hl)
theorem q_I (cx : q_cx g p m c cc nL s args own meth) {post : va_W → Prop} (m1 : Cond.methodLink own index y ∈ WS) (m2 : Cond.instanceMethod y ∈ WS) (m4 : Cond.initialized y.cls ∈ WS) (m5 : Cond.code y bytes maxL none ∈ WS) (hy1 : y.name = "<init>") (hC :  y.cls ≠ q_MH ∧ y.cls ≠ q_VH ∧ (parseMethodDescriptor y.desc).map (fun d => d.parameters.length) = some n)
    (hM : MetW l g y bytes maxL none rm (.ref b :: As) ws (q_Qv g post)) (hd : decode cc pc = .ok (.invokespecial index, 3)) (hR : rm.frames + 1 ≤ R.frames ∧ 8 + (maxL + 11) + rm.locals ≤ R.locals) (hroom : cl + rm.cells ≤ R.cells ∧ sl + rm.slots ≤ R.slots) (hst : st0 = As.reverse ++ .ref b :: st) (hn : As.length = n) (hW : (st.map fun v => v.category).sum ≤ 8) (kk : ∀ (u : va_W), post u → AT p l e R s m args below meth c g nL Q (cl + rm.cells) (sl + rm.slots) (pc + 3) lv st u) : AT p l e R s m args below meth c g nL Q cl sl pc lv st0 ws := fun H locs ls hP hD hS hl =>
  va_callv (va_runI (As := As) (rest := st) cx.1 hM (cwI n cx.1.2.2.2.2 (gi_code m5) rfl rfl rfl (cx.ok m4) (cx.ok m1) (cx.ok m2) hy1 hC hR) ⟨q_Pc.blind, fun U hU hW => ⟨rfl, q_env.go cx.2.1 hU hW hS, by rw [q_in, hU]; exact ⟨hP, hD⟩⟩⟩ rfl hn hl.1 hst (lv_room hW) hd hroom) hS (fun q _ h => h) (fun q h => h) (fun u t H1 locs1 ht hvm hw hB hz1 hk1 hS => by subst ht; exact kk u hw _ locs1 ls hB.1 hB.2 hS hl)
theorem q_IN (cx : q_cx g p m c cc nL s args own meth) {host : String} {post : va_W → Prop} (m0 : Cond.methodLinkNest own index y host ∈ NGW) (m2 : Cond.instanceMethod y ∈ WS) (m4 : Cond.initialized y.cls ∈ WS) (m5 : Cond.code y bytes maxL none ∈ WS) (hy1 : y.name = "<init>") (hC :  y.cls ≠ q_MH ∧ y.cls ≠ q_VH ∧ (parseMethodDescriptor y.desc).map (fun d => d.parameters.length) = some n)
    (hM : MetW l g y bytes maxL none rm (.ref b :: As) ws (q_Qv g post)) (hd : decode cc pc = .ok (.invokespecial index, 3)) (hR : rm.frames + 1 ≤ R.frames ∧ 8 + (maxL + 11) + rm.locals ≤ R.locals) (hroom : cl + rm.cells ≤ R.cells ∧ sl + rm.slots ≤ R.slots) (hst : st0 = As.reverse ++ .ref b :: st) (hn : As.length = n) (hW : (st.map fun v => v.category).sum ≤ 8) (kk : ∀ (u : va_W), post u → AT p l e R s m args below meth c g nL Q (cl + rm.cells) (sl + rm.slots) (pc + 3) lv st u) : AT p l e R s m args below meth c g nL Q cl sl pc lv st0 ws := fun H locs ls hP hD hS hl =>
  va_callv (va_runIN (As := As) (rest := st) cx.1 hM ⟨va_cnB n cx.1.2.2.2.2 (gi_code m5) rfl rfl rfl (cx.2.1.2.2.1 _ m0) (cx.ok m4) hC hR, hy1, cx.ok m2⟩ ⟨q_Pc.blind, fun U hU hW => ⟨rfl, q_env.go cx.2.1 hU hW hS, by rw [q_in, hU]; exact ⟨hP, hD⟩⟩⟩ rfl hn hl.1 hst (lv_room hW) hd hroom) hS (fun q _ h => h) (fun q h => h) (fun u t H1 locs1 ht hvm hw hB hz1 hk1 hS => by subst ht; exact kk u hw _ locs1 ls hB.1 hB.2 hS hl)
theorem q_SWi (cx : q_cx g p m c cc nL s args own meth) {hh : List (Nat × Nat × Nat × Nat)} {post : Int32 → va_W → Prop} (G : GoodIn WS (va_wsS own index y (Cond.codeWith y bytes maxL ret hh :: WS))) (hC :  y.cls ≠ q_MH ∧ y.cls ≠ q_VH ∧ (parseMethodDescriptor y.desc).map (fun d => d.parameters.length) = some n)
    (hM : MetH l g y bytes maxL ret hh rm As ws (q_Qi g post)) (hd : decode cc pc = .ok (.invokestatic index, 3)) (hR : rm.frames + 1 ≤ R.frames ∧ 8 + (maxL + 11) + rm.locals ≤ R.locals) (hroom : cl + rm.cells ≤ R.cells ∧ sl + rm.slots ≤ R.slots) (hst : st0 = As.reverse ++ st) (hn : As.length = n) (hW : (st.map fun v => v.category).sum ≤ 8) (kk : ∀ (r : Int32) (u : va_W), post r u → AT p l e R s m args below meth c g nL Q (cl + rm.cells) (sl + rm.slots) (pc + 3) lv (.int r :: st) u) : AT p l e R s m args below meth c g nL Q cl sl pc lv st0 ws := fun H locs ls hP hD hS hl =>
  va_calli (vx_runSW (As := As) (rest := st) cx.1 hM (vx_cwSW n cx.1.2.2.2.2 G rfl rfl rfl hC hR) ⟨q_Pc.blind, fun U hU hW => ⟨rfl, q_env.go cx.2.1 hU hW hS, by rw [q_in, hU]; exact ⟨hP, hD⟩⟩⟩ rfl hn hl.1 hst (lv_room hW) hd hroom) hS (fun q _ h => h) (fun q h => h) (fun r u t H1 locs1 ht hvm hw hB hz1 hk1 hS => by subst ht; exact kk r u hw _ locs1 ls hB.1 hB.2 hS hl)
theorem r_objInit (cx : q_cx g p m c cc nL s args own meth) (m1 : Cond.methodLink own index Lib.objectInit ∈ WS) (m2 : Cond.instanceMethod Lib.objectInit ∈ WS) (m3 : Cond.code Lib.objectInit ⟨#[0xb1]⟩ 1 none ∈ WS) {a : Nat} (hd : decode cc pc = .ok (.invokespecial index, 3)) (hf : 1 ≤ R.frames) (hlo : (st.map fun v => v.category).sum + 12 ≤ R.locals) (k : AT p l e R s m args below meth c g nL Q cl sl (pc + 3) lv st ws) : AT p l e R s m args below meth c g nL Q cl sl pc lv (.ref a :: st) ws := fun H locs ls hP hD hS hl =>
  W.objInit cx.1.1 cx.1.2.1 cx.1.2.2.2.1 (cx.ok m1) (cx.ok m2) (cx.ok m3) rfl (by rw [cx.1.2.2.1]; exact hl.1) rfl hd hf (by show 2 * (F0 m pc ls (Value.ref a :: st)).monitorRoom + _ + 12 ≤ _; have h0 : (F0 m pc ls (Value.ref a :: st)).monitorRoom = 0 := rfl; omega) (k H locs ls hP hD hS hl)
theorem q_new (cx : q_cx g p m c cc nL s args own meth) {C : String} {T : u_T} {N ci : Nat} (hin : ∀ w ∈ u_ws C T N, w ∈ WS) (ty : Nat → FieldType) (hty : ∀ k, k < N → parseFieldDescriptor (T k).2.2.1 = some (ty k)) (m1 : Cond.classLink own index C ∈ WS) (m2 : Cond.instantiable C N ∈ WS) (m3 : Cond.initialized C ∈ WS) (hc : vwCl[ci]? = some (C, T, N)) {fs : List Value} (hfs : ∀ j, j < N → defaultValue (ty j) = vp_V fs j)
    (hd : decode cc pc = .ok (.new index, 3)) (hcells : cl + 1 ≤ R.cells) (hslots : sl + N ≤ R.slots) (kk : ∀ (q : Nat), AT p l e R s m args below meth c g nL Q (cl + 1) (sl + N) (pc + 3) lv (.ref q :: st) (ws ++ [(q, .inr (ci, fs))])) : AT p l e R s m args below meth c g nL Q cl sl pc lv st ws := fun H locs ls hP hD hS hl =>
  va_new cx.1.1 cx.1.2.1 cx.1.2.2.2.2 hin ty hty cx.1.2.2.2.1 (cx.ok m1) (cx.ok m2) (cx.ok m3) cx.2.1.2.1 hP hD hS cx.hA hc hfs hcells hslots hd (fun q H1 hP hD hS => kk q H1 locs ls hP hD hS hl)
theorem r_newarr (cx : q_cx g p m c cc nL s args own meth) {atype : ArrayType} {ty : FieldType} (t0 : Nat) {cA : ClassId} (harr : Cond.arrayClass (newarray.typeOf atype) ∈ WS) (hty : newarray.typeOf atype = ty) (ht : (q_tys g)[t0]? = some (cA, ty)) (hpr : match ty with | .object _ => False | _ => True) {N : Nat} {a0 : vp_A} (ha : ∀ cA : ClassId, vp_cell cA a0 = arrV cA N (fun _ => defaultValue ty)) (hN31 : N < 2147483648) (hbytes : N * componentBytes ty ≤ 536870912)
    (hd : decode cc pc = .ok (.newarray atype, 2)) (hcells : cl + 1 ≤ R.cells) (hslots : sl + N ≤ R.slots) (kk : ∀ (q : Nat), AT p l e R s m args below meth c g nL Q (cl + 1) (sl + N) (pc + 2) lv (.ref q :: st) (ws ++ [(q, .inl (cA, a0))])) : AT p l e R s m args below meth c g nL Q cl sl pc lv (.int (nI N) :: st) ws := fun H locs ls hP hD hS hl => by
  refine va_newa cx.1.1 cx.1.2.1 (cx.ok harr) hty cx.2.1.2.1 hP hD hS cx.hA ha (nI_pos hN31) (nI_clamp hN31) hbytes hcells hslots hd (fun q cA2 H1 hK hP hD hS => ?_)
  have h1 := (hK.2 (q_tys g).length (cA2, ty) (by rw [List.getElem?_append_right (Nat.le_refl _), Nat.sub_self]; rfl)).2
  have h2 := (cx.2.1.2.1.2 t0 (cA, ty) ht).2
  have e : cA2 = cA := by
    cases ty <;> first | exact absurd hpr (fun z => z) | exact Option.some.inj (h1.symm.trans h2)
  rw [e] at hP hD
  exact kk q H1 locs ls hP hD hS hl
end CALLS
section THROWS
variable {p : Program} {l : Launch} {e : Env} {R : Room} {s : State} {m : MethodId} {args : Array Value} {below : List Frame} {meth : Method} {c : Code} {g : q_G} {nL : Nat} {cl sl : Nat} {cc : ByteArray} {pc : Nat} {lv : List (Nat × Value)} {st : List Value} {ws : va_W}
abbrev q_nms : List String := ["java/lang/RuntimeException", "java/lang/Exception"]
theorem q_throw (cx : q_cx g p m c cc nL s args RX3 meth) {cls text : String} {ik is ic mc ms : Nat} {Qc : Array Value → State → Outcome → State → Prop} {pe : String → va_W → Prop} (hl : l.stackTraces = false) (htab : ∀ x ∈ c.exceptionTable.toList, False) (hcls : Bundle.fit cls = true) (hnames : ∀ n ∈ q_nms, Bundle.fit n = true) (m1 : Cond.classLink RX3 ik cls ∈ WS) (m2 : Cond.initialized cls ∈ WS) (hat1 : ∀ w ∈ (vx_atS RX3 ic cls q_nms).filter goodWord, w ∈ WS) (hat2 : ∀ w ∈ (vx_atS RX3 ic cls q_nms).filter (fun w => !goodWord w), w ∈ NGW)
    (hgood : ∀ w ∈ Cond.classLink RX3 ik cls :: Cond.initialized cls :: vx_atS RX3 ic cls q_nms, vx_ot w = true) (hstr : (is, text) ∈ STR)
    (d0 : decode cc pc = .ok (.new ik, 3)) (d3 : decode cc (pc + 3) = .ok (.dup, 1)) (d4 : decode cc (pc + 4) = .ok (.ldc is, 2)) (d6 : decode cc (pc + 6) = .ok (.invokespecial ic, 3)) (d9 : decode cc (pc + 9) = .ok (.athrow, 1))
    (hR : 5 < R.frames ∧ (st.map fun v => v.category).sum + 82 ≤ R.locals ∧ cl + 1 ≤ R.cells ∧ sl + 6 ≤ R.slots) (hm : cl + 1 ≤ mc ∧ sl + 6 ≤ ms) (hp : pe cls ws) : AT p l e R s m args below meth c g nL (vx_MQ below Qc (q_XC g pe) args s mc ms (q_A g)) cl sl pc lv st ws := fun H locs ls hP hD hS hlv => by
  obtain ⟨sa, hsa⟩ := cx.2.1.2.2.2.1 (is, text) hstr
  refine vx_throwS (names := q_nms) cx.1.1 cx.1.2.1 hl cx.1.2.2.2.1 hcls hnames (cx.ok m1) (cx.ok m2) hsa (vx_hat (B := NGW) (fun w hw => cx.ok (hat1 w hw)) hat2 (fun w hw => cx.nok hw)) hgood cx.2.1.2.2.2.2.2.1 cx.2.1.2.2.2.2.2.2.1 hS (by rw [cx.1.2.2.1]; exact hlv.1) d0 d3 d4 d6 d9 (fun x hx => (htab x hx).elim) hR.1 (by have := hR.2.1; simpa using this) hR.2.2.1 hR.2.2.2 cx.2.2 (fun t ha hz hk => ?_) hS.2.2 hm.1 hm.2
  refine ⟨ws, trivial, ⟨hp, va_P.kept hP (fun k q hq => hk q.1 (hP k q hq).lt), hD⟩, Nat.le_trans hS.1 hz, fun q h1 h2 => ?_⟩
  rw [hk q (Nat.lt_of_lt_of_le h1 hS.1)]
  exact hS.2.1 q h1 h2
set_option maxRecDepth 100000
theorem th_IO (cx : q_cx g p m c cc nL s args RX3 meth) (text : String) (is : Nat) {mc ms : Nat} {Qc : Array Value → State → Outcome → State → Prop} {pe : String → va_W → Prop} (hl : l.stackTraces = false) (htab : ∀ x ∈ c.exceptionTable.toList, False) (d0 : decode cc pc = .ok (.new 61, 3)) (d3 : decode cc (pc + 3) = .ok (.dup, 1)) (d4 : decode cc (pc + 4) = .ok (.ldc is, 2)) (d6 : decode cc (pc + 6) = .ok (.invokespecial 65, 3)) (d9 : decode cc (pc + 9) = .ok (.athrow, 1)) (hstr : (is, text) ∈ STR) (hR : 5 < R.frames ∧ (st.map fun v => v.category).sum + 82 ≤ R.locals ∧ cl + 1 ≤ R.cells ∧ sl + 6 ≤ R.slots) (hm : cl + 1 ≤ mc ∧ sl + 6 ≤ ms) (hp : pe "java/lang/IndexOutOfBoundsException" ws) : AT p l e R s m args below meth c g nL (vx_MQ below Qc (q_XC g pe) args s mc ms (q_A g)) cl sl pc lv st ws :=
  q_throw (ic := 65) (ik := 61) cx hl htab (by decide +kernel) (by decide +kernel) tb_114 tb_11 (by decide +kernel) (by decide +kernel) (by decide +kernel) hstr d0 d3 d4 d6 d9 hR hm hp
theorem th_IS (cx : q_cx g p m c cc nL s args RX3 meth) (text : String) (is : Nat) {mc ms : Nat} {Qc : Array Value → State → Outcome → State → Prop} {pe : String → va_W → Prop} (hl : l.stackTraces = false) (htab : ∀ x ∈ c.exceptionTable.toList, False) (d0 : decode cc pc = .ok (.new 68, 3)) (d3 : decode cc (pc + 3) = .ok (.dup, 1)) (d4 : decode cc (pc + 4) = .ok (.ldc is, 2)) (d6 : decode cc (pc + 6) = .ok (.invokespecial 72, 3)) (d9 : decode cc (pc + 9) = .ok (.athrow, 1)) (hstr : (is, text) ∈ STR) (hR : 5 < R.frames ∧ (st.map fun v => v.category).sum + 82 ≤ R.locals ∧ cl + 1 ≤ R.cells ∧ sl + 6 ≤ R.slots) (hm : cl + 1 ≤ mc ∧ sl + 6 ≤ ms) (hp : pe "java/lang/IllegalStateException" ws) : AT p l e R s m args below meth c g nL (vx_MQ below Qc (q_XC g pe) args s mc ms (q_A g)) cl sl pc lv st ws :=
  q_throw (ic := 72) (ik := 68) cx hl htab (by decide +kernel) (by decide +kernel) tb_182 tb_12 (by decide +kernel) (by decide +kernel) (by decide +kernel) hstr d0 d3 d4 d6 d9 hR hm hp
theorem th_IA (cx : q_cx g p m c cc nL s args RX3 meth) (text : String) (is : Nat) {mc ms : Nat} {Qc : Array Value → State → Outcome → State → Prop} {pe : String → va_W → Prop} (hl : l.stackTraces = false) (htab : ∀ x ∈ c.exceptionTable.toList, False) (d0 : decode cc pc = .ok (.new 75, 3)) (d3 : decode cc (pc + 3) = .ok (.dup, 1)) (d4 : decode cc (pc + 4) = .ok (.ldc is, 2)) (d6 : decode cc (pc + 6) = .ok (.invokespecial 79, 3)) (d9 : decode cc (pc + 9) = .ok (.athrow, 1)) (hstr : (is, text) ∈ STR) (hR : 5 < R.frames ∧ (st.map fun v => v.category).sum + 82 ≤ R.locals ∧ cl + 1 ≤ R.cells ∧ sl + 6 ≤ R.slots) (hm : cl + 1 ≤ mc ∧ sl + 6 ≤ ms) (hp : pe "java/lang/IllegalArgumentException" ws) : AT p l e R s m args below meth c g nL (vx_MQ below Qc (q_XC g pe) args s mc ms (q_A g)) cl sl pc lv st ws :=
  q_throw (ic := 79) (ik := 75) cx hl htab (by decide +kernel) (by decide +kernel) tb_207 tb_13 (by decide +kernel) (by decide +kernel) (by decide +kernel) hstr d0 d3 d4 d6 d9 hR hm hp
end THROWS
end
section
section SITES
variable {p : Program} {l : Launch} {e : Env} {R : Room} {s : State} {m : MethodId} {args : Array Value} {below : List Frame} {meth : Method} {c : Code} {g : q_G} {nL : Nat} {Q : State → Prop} {cl sl : Nat} {cc : ByteArray} {pc : Nat} {lv : List (Nat × Value)} {st st0 : List Value} {ws : va_W} {rm : Room} {As : List Value} {b : Nat}
theorem iw_Jx4a65c : ∀ w ∈ u_ws RJx4a65c TJx4a65c 3, w ∈ WS := by decide +kernel
theorem iw_X0 : ∀ w ∈ u_ws RX0 TX0 6, w ∈ WS := by decide +kernel
theorem iw_X1 : ∀ w ∈ u_ws RX1 TX1 8, w ∈ WS := by decide +kernel
theorem iw_X2 : ∀ w ∈ u_ws RX2 TX2 1, w ∈ WS := by decide +kernel
theorem iw_X3 : ∀ w ∈ u_ws RX3 TX3 10, w ∈ WS := by decide +kernel
theorem iw_X4 : ∀ w ∈ u_ws RX4 TX4 27, w ∈ WS := by decide +kernel
theorem pf_X0_7 (cx : q_cx g p m c cc nL s args RX0 meth) (hnm : meth.name = "<init>") (hd : decode cc pc = .ok (.putfield 7, 3)) (q0 : Nat) {a : Nat} {fs : List Value} {x : Int64} (he : ws[q0]? = some (a, .inr (1, fs))) (hl9 : 0 < fs.length) (kk : AT p l e R s m args below meth c g nL Q cl sl (pc + 3) lv st (ws.set q0 (a, .inr (1, fs.set 0 (.long x))))) : AT p l e R s m args below meth c g nL Q cl sl pc lv (.long x :: .ref a :: st) ws := fun H locs ls hP hD hS hl => va_putF (C := RX0) (T := TX0) (N := 6) cx.1.1 cx.1.2.1 cx.1.2.2.2.2 iw_X0 tyX0 tyX0_ok nmX0 cx.1.2.2.2.1 cx.2.1.2.1 hP hD hS q0 he rfl 0 (by decide) (cx.ok tb_238) (fun _ h9 => h9) rfl hnm rfl (tyX0_ok 0 (by decide)) rfl rfl hl9 hd (fun H1 locs1 hP hD hS => kk H1 locs1 ls hP hD hS hl)
theorem pf_X0_13 (cx : q_cx g p m c cc nL s args RX0 meth) (hnm : meth.name = "<init>") (hd : decode cc pc = .ok (.putfield 13, 3)) (q0 : Nat) {a : Nat} {fs : List Value} {x : Int32} (he : ws[q0]? = some (a, .inr (1, fs))) (hl9 : 1 < fs.length) (kk : AT p l e R s m args below meth c g nL Q cl sl (pc + 3) lv st (ws.set q0 (a, .inr (1, fs.set 1 (.int x))))) : AT p l e R s m args below meth c g nL Q cl sl pc lv (.int x :: .ref a :: st) ws := fun H locs ls hP hD hS hl => va_putF (C := RX0) (T := TX0) (N := 6) cx.1.1 cx.1.2.1 cx.1.2.2.2.2 iw_X0 tyX0 tyX0_ok nmX0 cx.1.2.2.2.1 cx.2.1.2.1 hP hD hS q0 he rfl 1 (by decide) (cx.ok tb_241) (fun _ h9 => h9) rfl hnm rfl (tyX0_ok 1 (by decide)) rfl rfl hl9 hd (fun H1 locs1 hP hD hS => kk H1 locs1 ls hP hD hS hl)
theorem pf_X0_17 (cx : q_cx g p m c cc nL s args RX0 meth) (hnm : meth.name = "<init>") (hd : decode cc pc = .ok (.putfield 17, 3)) (q0 : Nat) {a : Nat} {fs : List Value} {x : Int32} (he : ws[q0]? = some (a, .inr (1, fs))) (hl9 : 2 < fs.length) (kk : AT p l e R s m args below meth c g nL Q cl sl (pc + 3) lv st (ws.set q0 (a, .inr (1, fs.set 2 (.int x))))) : AT p l e R s m args below meth c g nL Q cl sl pc lv (.int x :: .ref a :: st) ws := fun H locs ls hP hD hS hl => va_putF (C := RX0) (T := TX0) (N := 6) cx.1.1 cx.1.2.1 cx.1.2.2.2.2 iw_X0 tyX0 tyX0_ok nmX0 cx.1.2.2.2.1 cx.2.1.2.1 hP hD hS q0 he rfl 2 (by decide) (cx.ok tb_243) (fun _ h9 => h9) rfl hnm rfl (tyX0_ok 2 (by decide)) rfl rfl hl9 hd (fun H1 locs1 hP hD hS => kk H1 locs1 ls hP hD hS hl)
theorem pf_X0_20 (cx : q_cx g p m c cc nL s args RX0 meth) (hnm : meth.name = "<init>") (hd : decode cc pc = .ok (.putfield 20, 3)) (q0 : Nat) {a : Nat} {fs : List Value} {x : Int32} (he : ws[q0]? = some (a, .inr (1, fs))) (hl9 : 3 < fs.length) (kk : AT p l e R s m args below meth c g nL Q cl sl (pc + 3) lv st (ws.set q0 (a, .inr (1, fs.set 3 (.int x))))) : AT p l e R s m args below meth c g nL Q cl sl pc lv (.int x :: .ref a :: st) ws := fun H locs ls hP hD hS hl => va_putF (C := RX0) (T := TX0) (N := 6) cx.1.1 cx.1.2.1 cx.1.2.2.2.2 iw_X0 tyX0 tyX0_ok nmX0 cx.1.2.2.2.1 cx.2.1.2.1 hP hD hS q0 he rfl 3 (by decide) (cx.ok tb_245) (fun _ h9 => h9) rfl hnm rfl (tyX0_ok 3 (by decide)) rfl rfl hl9 hd (fun H1 locs1 hP hD hS => kk H1 locs1 ls hP hD hS hl)
theorem pf_X0_23 (cx : q_cx g p m c cc nL s args RX0 meth) (hnm : meth.name = "<init>") (hd : decode cc pc = .ok (.putfield 23, 3)) (q0 : Nat) {a : Nat} {fs : List Value} {x : Int32} (he : ws[q0]? = some (a, .inr (1, fs))) (hl9 : 4 < fs.length) (kk : AT p l e R s m args below meth c g nL Q cl sl (pc + 3) lv st (ws.set q0 (a, .inr (1, fs.set 4 (.int x))))) : AT p l e R s m args below meth c g nL Q cl sl pc lv (.int x :: .ref a :: st) ws := fun H locs ls hP hD hS hl => va_putF (C := RX0) (T := TX0) (N := 6) cx.1.1 cx.1.2.1 cx.1.2.2.2.2 iw_X0 tyX0 tyX0_ok nmX0 cx.1.2.2.2.1 cx.2.1.2.1 hP hD hS q0 he rfl 4 (by decide) (cx.ok tb_247) (fun _ h9 => h9) rfl hnm rfl (tyX0_ok 4 (by decide)) rfl rfl hl9 hd (fun H1 locs1 hP hD hS => kk H1 locs1 ls hP hD hS hl)
theorem pf_X0_26 (cx : q_cx g p m c cc nL s args RX0 meth) (hnm : meth.name = "<init>") (hd : decode cc pc = .ok (.putfield 26, 3)) (q0 : Nat) {a : Nat} {fs : List Value} {x : Int32} (he : ws[q0]? = some (a, .inr (1, fs))) (hl9 : 5 < fs.length) (kk : AT p l e R s m args below meth c g nL Q cl sl (pc + 3) lv st (ws.set q0 (a, .inr (1, fs.set 5 (.int x))))) : AT p l e R s m args below meth c g nL Q cl sl pc lv (.int x :: .ref a :: st) ws := fun H locs ls hP hD hS hl => va_putF (C := RX0) (T := TX0) (N := 6) cx.1.1 cx.1.2.1 cx.1.2.2.2.2 iw_X0 tyX0 tyX0_ok nmX0 cx.1.2.2.2.1 cx.2.1.2.1 hP hD hS q0 he rfl 5 (by decide) (cx.ok tb_249) (fun _ h9 => h9) rfl hnm rfl (tyX0_ok 5 (by decide)) rfl rfl hl9 hd (fun H1 locs1 hP hD hS => kk H1 locs1 ls hP hD hS hl)
theorem gf_X0_23 (cx : q_cx g p m c cc nL s args RX0 meth) (hd : decode cc pc = .ok (.getfield 23, 3)) (q0 : Nat) {a : Nat} {fs : List Value} {v : Value} (he : ws[q0]? = some (a, .inr (1, fs))) (hv : fs[4]? = some v) (kk : AT p l e R s m args below meth c g nL Q cl sl (pc + 3) lv (v :: st) ws) : AT p l e R s m args below meth c g nL Q cl sl pc lv (.ref a :: st) ws := fun H locs ls hP hD hS hl => va_get (C := RX0) (T := TX0) (N := 6) cx.1.1 cx.1.2.1 cx.1.2.2.2.2 iw_X0 cx.1.2.2.2.1 cx.2.1.2.1 hP q0 he rfl 4 (by decide) (cx.ok tb_247) (fun _ h9 => h9) hv hd (kk H locs ls hP hD hS hl)
theorem gf_X0_17 (cx : q_cx g p m c cc nL s args RX0 meth) (hd : decode cc pc = .ok (.getfield 17, 3)) (q0 : Nat) {a : Nat} {fs : List Value} {v : Value} (he : ws[q0]? = some (a, .inr (1, fs))) (hv : fs[2]? = some v) (kk : AT p l e R s m args below meth c g nL Q cl sl (pc + 3) lv (v :: st) ws) : AT p l e R s m args below meth c g nL Q cl sl pc lv (.ref a :: st) ws := fun H locs ls hP hD hS hl => va_get (C := RX0) (T := TX0) (N := 6) cx.1.1 cx.1.2.1 cx.1.2.2.2.2 iw_X0 cx.1.2.2.2.1 cx.2.1.2.1 hP q0 he rfl 2 (by decide) (cx.ok tb_243) (fun _ h9 => h9) hv hd (kk H locs ls hP hD hS hl)
theorem pf_X1_9 (cx : q_cx g p m c cc nL s args RX1 meth)  (hd : decode cc pc = .ok (.putfield 9, 3)) (q0 : Nat) {a : Nat} {fs : List Value} {x : Int64} (he : ws[q0]? = some (a, .inr (2, fs))) (hl9 : 6 < fs.length) (kk : AT p l e R s m args below meth c g nL Q cl sl (pc + 3) lv st (ws.set q0 (a, .inr (2, fs.set 6 (.long x))))) : AT p l e R s m args below meth c g nL Q cl sl pc lv (.long x :: .ref a :: st) ws := fun H locs ls hP hD hS hl => va_put (C := RX1) (T := TX1) (N := 8) cx.1.1 cx.1.2.1 cx.1.2.2.2.2 iw_X1 tyX1 tyX1_ok nmX1 cx.1.2.2.2.1 cx.2.1.2.1 hP hD hS q0 he rfl 6 (by decide) (cx.ok tb_401) (fun _ h9 => h9) rfl (tyX1_ok 6 (by decide)) rfl rfl hl9 hd (fun H1 locs1 hP hD hS => kk H1 locs1 ls hP hD hS hl)
theorem pf_X1_15 (cx : q_cx g p m c cc nL s args RX1 meth)  (hd : decode cc pc = .ok (.putfield 15, 3)) (q0 : Nat) {a : Nat} {fs : List Value} {x : Bool} (he : ws[q0]? = some (a, .inr (2, fs))) (hl9 : 7 < fs.length) (kk : AT p l e R s m args below meth c g nL Q cl sl (pc + 3) lv st (ws.set q0 (a, .inr (2, fs.set 7 (.int (bI x)))))) : AT p l e R s m args below meth c g nL Q cl sl pc lv (.int (bI x) :: .ref a :: st) ws := fun H locs ls hP hD hS hl => va_put (C := RX1) (T := TX1) (N := 8) cx.1.1 cx.1.2.1 cx.1.2.2.2.2 iw_X1 tyX1 tyX1_ok nmX1 cx.1.2.2.2.1 cx.2.1.2.1 hP hD hS q0 he rfl 7 (by decide) (cx.ok tb_403) (fun _ h9 => h9) rfl (tyX1_ok 7 (by decide)) (bI_nar x) (by cases x <;> rfl) hl9 hd (fun H1 locs1 hP hD hS => kk H1 locs1 ls hP hD hS hl)
theorem pf_X1_19 (cx : q_cx g p m c cc nL s args RX1 meth) (hnm : meth.name = "<init>") (hd : decode cc pc = .ok (.putfield 19, 3)) (q0 : Nat) {a : Nat} {fs : List Value} {x : Int32} (he : ws[q0]? = some (a, .inr (2, fs))) (hl9 : 0 < fs.length) (kk : AT p l e R s m args below meth c g nL Q cl sl (pc + 3) lv st (ws.set q0 (a, .inr (2, fs.set 0 (.int x))))) : AT p l e R s m args below meth c g nL Q cl sl pc lv (.int x :: .ref a :: st) ws := fun H locs ls hP hD hS hl => va_putF (C := RX1) (T := TX1) (N := 8) cx.1.1 cx.1.2.1 cx.1.2.2.2.2 iw_X1 tyX1 tyX1_ok nmX1 cx.1.2.2.2.1 cx.2.1.2.1 hP hD hS q0 he rfl 0 (by decide) (cx.ok tb_395) (fun _ h9 => h9) rfl hnm rfl (tyX1_ok 0 (by decide)) rfl rfl hl9 hd (fun H1 locs1 hP hD hS => kk H1 locs1 ls hP hD hS hl)
theorem pf_X1_23 (cx : q_cx g p m c cc nL s args RX1 meth) (hnm : meth.name = "<init>") (hd : decode cc pc = .ok (.putfield 23, 3)) (q0 : Nat) {a : Nat} {fs : List Value} {x : Int32} (he : ws[q0]? = some (a, .inr (2, fs))) (hl9 : 1 < fs.length) (kk : AT p l e R s m args below meth c g nL Q cl sl (pc + 3) lv st (ws.set q0 (a, .inr (2, fs.set 1 (.int x))))) : AT p l e R s m args below meth c g nL Q cl sl pc lv (.int x :: .ref a :: st) ws := fun H locs ls hP hD hS hl => va_putF (C := RX1) (T := TX1) (N := 8) cx.1.1 cx.1.2.1 cx.1.2.2.2.2 iw_X1 tyX1 tyX1_ok nmX1 cx.1.2.2.2.1 cx.2.1.2.1 hP hD hS q0 he rfl 1 (by decide) (cx.ok tb_396) (fun _ h9 => h9) rfl hnm rfl (tyX1_ok 1 (by decide)) rfl rfl hl9 hd (fun H1 locs1 hP hD hS => kk H1 locs1 ls hP hD hS hl)
theorem pf_X1_26 (cx : q_cx g p m c cc nL s args RX1 meth) (hnm : meth.name = "<init>") (hd : decode cc pc = .ok (.putfield 26, 3)) (q0 : Nat) {a : Nat} {fs : List Value} {x : Int32} (he : ws[q0]? = some (a, .inr (2, fs))) (hl9 : 2 < fs.length) (kk : AT p l e R s m args below meth c g nL Q cl sl (pc + 3) lv st (ws.set q0 (a, .inr (2, fs.set 2 (.int x))))) : AT p l e R s m args below meth c g nL Q cl sl pc lv (.int x :: .ref a :: st) ws := fun H locs ls hP hD hS hl => va_putF (C := RX1) (T := TX1) (N := 8) cx.1.1 cx.1.2.1 cx.1.2.2.2.2 iw_X1 tyX1 tyX1_ok nmX1 cx.1.2.2.2.1 cx.2.1.2.1 hP hD hS q0 he rfl 2 (by decide) (cx.ok tb_397) (fun _ h9 => h9) rfl hnm rfl (tyX1_ok 2 (by decide)) rfl rfl hl9 hd (fun H1 locs1 hP hD hS => kk H1 locs1 ls hP hD hS hl)
theorem pf_X1_29 (cx : q_cx g p m c cc nL s args RX1 meth) (hnm : meth.name = "<init>") (hd : decode cc pc = .ok (.putfield 29, 3)) (q0 : Nat) {a : Nat} {fs : List Value} {x : Int32} (he : ws[q0]? = some (a, .inr (2, fs))) (hl9 : 3 < fs.length) (kk : AT p l e R s m args below meth c g nL Q cl sl (pc + 3) lv st (ws.set q0 (a, .inr (2, fs.set 3 (.int x))))) : AT p l e R s m args below meth c g nL Q cl sl pc lv (.int x :: .ref a :: st) ws := fun H locs ls hP hD hS hl => va_putF (C := RX1) (T := TX1) (N := 8) cx.1.1 cx.1.2.1 cx.1.2.2.2.2 iw_X1 tyX1 tyX1_ok nmX1 cx.1.2.2.2.1 cx.2.1.2.1 hP hD hS q0 he rfl 3 (by decide) (cx.ok tb_398) (fun _ h9 => h9) rfl hnm rfl (tyX1_ok 3 (by decide)) rfl rfl hl9 hd (fun H1 locs1 hP hD hS => kk H1 locs1 ls hP hD hS hl)
theorem pf_X1_32 (cx : q_cx g p m c cc nL s args RX1 meth) (hnm : meth.name = "<init>") (hd : decode cc pc = .ok (.putfield 32, 3)) (q0 : Nat) {a : Nat} {fs : List Value} {x : Int32} (he : ws[q0]? = some (a, .inr (2, fs))) (hl9 : 4 < fs.length) (kk : AT p l e R s m args below meth c g nL Q cl sl (pc + 3) lv st (ws.set q0 (a, .inr (2, fs.set 4 (.int x))))) : AT p l e R s m args below meth c g nL Q cl sl pc lv (.int x :: .ref a :: st) ws := fun H locs ls hP hD hS hl => va_putF (C := RX1) (T := TX1) (N := 8) cx.1.1 cx.1.2.1 cx.1.2.2.2.2 iw_X1 tyX1 tyX1_ok nmX1 cx.1.2.2.2.1 cx.2.1.2.1 hP hD hS q0 he rfl 4 (by decide) (cx.ok tb_399) (fun _ h9 => h9) rfl hnm rfl (tyX1_ok 4 (by decide)) rfl rfl hl9 hd (fun H1 locs1 hP hD hS => kk H1 locs1 ls hP hD hS hl)
theorem pf_X1_35 (cx : q_cx g p m c cc nL s args RX1 meth) (hnm : meth.name = "<init>") (hd : decode cc pc = .ok (.putfield 35, 3)) (q0 : Nat) {a : Nat} {fs : List Value} {x : Int32} (he : ws[q0]? = some (a, .inr (2, fs))) (hl9 : 5 < fs.length) (kk : AT p l e R s m args below meth c g nL Q cl sl (pc + 3) lv st (ws.set q0 (a, .inr (2, fs.set 5 (.int x))))) : AT p l e R s m args below meth c g nL Q cl sl pc lv (.int x :: .ref a :: st) ws := fun H locs ls hP hD hS hl => va_putF (C := RX1) (T := TX1) (N := 8) cx.1.1 cx.1.2.1 cx.1.2.2.2.2 iw_X1 tyX1 tyX1_ok nmX1 cx.1.2.2.2.1 cx.2.1.2.1 hP hD hS q0 he rfl 5 (by decide) (cx.ok tb_400) (fun _ h9 => h9) rfl hnm rfl (tyX1_ok 5 (by decide)) rfl rfl hl9 hd (fun H1 locs1 hP hD hS => kk H1 locs1 ls hP hD hS hl)
theorem gf_X1_9 (cx : q_cx g p m c cc nL s args RX1 meth) (hd : decode cc pc = .ok (.getfield 9, 3)) (q0 : Nat) {a : Nat} {fs : List Value} {v : Value} (he : ws[q0]? = some (a, .inr (2, fs))) (hv : fs[6]? = some v) (kk : AT p l e R s m args below meth c g nL Q cl sl (pc + 3) lv (v :: st) ws) : AT p l e R s m args below meth c g nL Q cl sl pc lv (.ref a :: st) ws := fun H locs ls hP hD hS hl => va_get (C := RX1) (T := TX1) (N := 8) cx.1.1 cx.1.2.1 cx.1.2.2.2.2 iw_X1 cx.1.2.2.2.1 cx.2.1.2.1 hP q0 he rfl 6 (by decide) (cx.ok tb_401) (fun _ h9 => h9) hv hd (kk H locs ls hP hD hS hl)
theorem gf_X1_38 (cx : q_cx g p m c cc nL s args RX1 meth) (hd : decode cc pc = .ok (.getfield 38, 3)) (q0 : Nat) {a : Nat} {fs : List Value} {v : Value} (he : ws[q0]? = some (a, .inr (1, fs))) (hv : fs[0]? = some v) (kk : AT p l e R s m args below meth c g nL Q cl sl (pc + 3) lv (v :: st) ws) : AT p l e R s m args below meth c g nL Q cl sl pc lv (.ref a :: st) ws := fun H locs ls hP hD hS hl => va_getN (C := RX0) (T := TX0) (N := 6) cx.1.1 cx.1.2.1 cx.1.2.2.2.2 iw_X0 cx.1.2.2.2.1 cx.2.1.2.1 hP q0 he rfl 0 (by decide) (cx.nok tn_239) (fun _ h9 => h9) hv hd (kk H locs ls hP hD hS hl)
theorem gf_X1_15 (cx : q_cx g p m c cc nL s args RX1 meth) (hd : decode cc pc = .ok (.getfield 15, 3)) (q0 : Nat) {a : Nat} {fs : List Value} {v : Value} (he : ws[q0]? = some (a, .inr (2, fs))) (hv : fs[7]? = some v) (kk : AT p l e R s m args below meth c g nL Q cl sl (pc + 3) lv (v :: st) ws) : AT p l e R s m args below meth c g nL Q cl sl pc lv (.ref a :: st) ws := fun H locs ls hP hD hS hl => va_get (C := RX1) (T := TX1) (N := 8) cx.1.1 cx.1.2.1 cx.1.2.2.2.2 iw_X1 cx.1.2.2.2.1 cx.2.1.2.1 hP q0 he rfl 7 (by decide) (cx.ok tb_403) (fun _ h9 => h9) hv hd (kk H locs ls hP hD hS hl)
theorem gf_X1_29 (cx : q_cx g p m c cc nL s args RX1 meth) (hd : decode cc pc = .ok (.getfield 29, 3)) (q0 : Nat) {a : Nat} {fs : List Value} {v : Value} (he : ws[q0]? = some (a, .inr (2, fs))) (hv : fs[3]? = some v) (kk : AT p l e R s m args below meth c g nL Q cl sl (pc + 3) lv (v :: st) ws) : AT p l e R s m args below meth c g nL Q cl sl pc lv (.ref a :: st) ws := fun H locs ls hP hD hS hl => va_get (C := RX1) (T := TX1) (N := 8) cx.1.1 cx.1.2.1 cx.1.2.2.2.2 iw_X1 cx.1.2.2.2.1 cx.2.1.2.1 hP q0 he rfl 3 (by decide) (cx.ok tb_398) (fun _ h9 => h9) hv hd (kk H locs ls hP hD hS hl)
theorem gf_X1_32 (cx : q_cx g p m c cc nL s args RX1 meth) (hd : decode cc pc = .ok (.getfield 32, 3)) (q0 : Nat) {a : Nat} {fs : List Value} {v : Value} (he : ws[q0]? = some (a, .inr (2, fs))) (hv : fs[4]? = some v) (kk : AT p l e R s m args below meth c g nL Q cl sl (pc + 3) lv (v :: st) ws) : AT p l e R s m args below meth c g nL Q cl sl pc lv (.ref a :: st) ws := fun H locs ls hP hD hS hl => va_get (C := RX1) (T := TX1) (N := 8) cx.1.1 cx.1.2.1 cx.1.2.2.2.2 iw_X1 cx.1.2.2.2.1 cx.2.1.2.1 hP q0 he rfl 4 (by decide) (cx.ok tb_399) (fun _ h9 => h9) hv hd (kk H locs ls hP hD hS hl)
theorem gf_X1_35 (cx : q_cx g p m c cc nL s args RX1 meth) (hd : decode cc pc = .ok (.getfield 35, 3)) (q0 : Nat) {a : Nat} {fs : List Value} {v : Value} (he : ws[q0]? = some (a, .inr (2, fs))) (hv : fs[5]? = some v) (kk : AT p l e R s m args below meth c g nL Q cl sl (pc + 3) lv (v :: st) ws) : AT p l e R s m args below meth c g nL Q cl sl pc lv (.ref a :: st) ws := fun H locs ls hP hD hS hl => va_get (C := RX1) (T := TX1) (N := 8) cx.1.1 cx.1.2.1 cx.1.2.2.2.2 iw_X1 cx.1.2.2.2.1 cx.2.1.2.1 hP q0 he rfl 5 (by decide) (cx.ok tb_400) (fun _ h9 => h9) hv hd (kk H locs ls hP hD hS hl)
theorem gf_X1_19 (cx : q_cx g p m c cc nL s args RX1 meth) (hd : decode cc pc = .ok (.getfield 19, 3)) (q0 : Nat) {a : Nat} {fs : List Value} {v : Value} (he : ws[q0]? = some (a, .inr (2, fs))) (hv : fs[0]? = some v) (kk : AT p l e R s m args below meth c g nL Q cl sl (pc + 3) lv (v :: st) ws) : AT p l e R s m args below meth c g nL Q cl sl pc lv (.ref a :: st) ws := fun H locs ls hP hD hS hl => va_get (C := RX1) (T := TX1) (N := 8) cx.1.1 cx.1.2.1 cx.1.2.2.2.2 iw_X1 cx.1.2.2.2.1 cx.2.1.2.1 hP q0 he rfl 0 (by decide) (cx.ok tb_395) (fun _ h9 => h9) hv hd (kk H locs ls hP hD hS hl)
theorem gf_X1_26 (cx : q_cx g p m c cc nL s args RX1 meth) (hd : decode cc pc = .ok (.getfield 26, 3)) (q0 : Nat) {a : Nat} {fs : List Value} {v : Value} (he : ws[q0]? = some (a, .inr (2, fs))) (hv : fs[2]? = some v) (kk : AT p l e R s m args below meth c g nL Q cl sl (pc + 3) lv (v :: st) ws) : AT p l e R s m args below meth c g nL Q cl sl pc lv (.ref a :: st) ws := fun H locs ls hP hD hS hl => va_get (C := RX1) (T := TX1) (N := 8) cx.1.1 cx.1.2.1 cx.1.2.2.2.2 iw_X1 cx.1.2.2.2.1 cx.2.1.2.1 hP q0 he rfl 2 (by decide) (cx.ok tb_397) (fun _ h9 => h9) hv hd (kk H locs ls hP hD hS hl)
theorem k_X1_45 (cx : q_cx g p m c cc nL s args RX1 meth) {post : Int32 → va_W → Prop} (hM : MetW l g yX1_changes cX1_changes 3 (some .boolean) rm (.ref b :: As) ws (q_Qi g post)) (hd : decode cc pc = .ok (.invokevirtual 45, 3)) (q0 : Nat) {fs : List Value} (he : ws[q0]? = some (b, .inr (2, fs))) (hR : rm.frames + 1 ≤ R.frames ∧ 8 + (3 + 11) + rm.locals ≤ R.locals) (hroom : cl + rm.cells ≤ R.cells ∧ sl + rm.slots ≤ R.slots) (hst : st0 = As.reverse ++ .ref b :: st) (hn : As.length = 2) (hW : (st.map fun v => v.category).sum ≤ 8) (kk : ∀ (r : Int32) (u : va_W), post r u → AT p l e R s m args below meth c g nL Q (cl + rm.cells) (sl + rm.slots) (pc + 3) lv (.int r :: st) u) : AT p l e R s m args below meth c g nL Q cl sl pc lv st0 ws := q_Vi (C := RX1) (ci := 2) cx (gi_V tb_469 tb_471 ts_15 tb_20 tb_472) ⟨rfl, by decide +kernel, by decide +kernel, by decide +kernel⟩ rfl rfl hM hd q0 he hR hroom hst hn hW kk
theorem gf_X1_23 (cx : q_cx g p m c cc nL s args RX1 meth) (hd : decode cc pc = .ok (.getfield 23, 3)) (q0 : Nat) {a : Nat} {fs : List Value} {v : Value} (he : ws[q0]? = some (a, .inr (2, fs))) (hv : fs[1]? = some v) (kk : AT p l e R s m args below meth c g nL Q cl sl (pc + 3) lv (v :: st) ws) : AT p l e R s m args below meth c g nL Q cl sl pc lv (.ref a :: st) ws := fun H locs ls hP hD hS hl => va_get (C := RX1) (T := TX1) (N := 8) cx.1.1 cx.1.2.1 cx.1.2.2.2.2 iw_X1 cx.1.2.2.2.1 cx.2.1.2.1 hP q0 he rfl 1 (by decide) (cx.ok tb_396) (fun _ h9 => h9) hv hd (kk H locs ls hP hD hS hl)
theorem pf_X2_9 (cx : q_cx g p m c cc nL s args RX2 meth) (hnm : meth.name = "<init>") (hd : decode cc pc = .ok (.putfield 9, 3)) (q0 : Nat) {a : Nat} {fs : List Value} {x : Nat} (he : ws[q0]? = some (a, .inr (3, fs))) (hl9 : 0 < fs.length) (kk : AT p l e R s m args below meth c g nL Q cl sl (pc + 3) lv st (ws.set q0 (a, .inr (3, fs.set 0 (.ref x))))) : AT p l e R s m args below meth c g nL Q cl sl pc lv (.ref x :: .ref a :: st) ws := fun H locs ls hP hD hS hl => va_putF (C := RX2) (T := TX2) (N := 1) cx.1.1 cx.1.2.1 cx.1.2.2.2.2 iw_X2 tyX2 tyX2_ok nmX2 cx.1.2.2.2.1 cx.2.1.2.1 hP hD hS q0 he rfl 0 (by decide) (cx.ok tb_62) (fun _ h9 => h9) rfl hnm rfl (tyX2_ok 0 (by decide)) rfl rfl hl9 hd (fun H1 locs1 hP hD hS => kk H1 locs1 ls hP hD hS hl)
theorem gf_X2_9 (cx : q_cx g p m c cc nL s args RX2 meth) (hd : decode cc pc = .ok (.getfield 9, 3)) (q0 : Nat) {a : Nat} {fs : List Value} {v : Value} (he : ws[q0]? = some (a, .inr (3, fs))) (hv : fs[0]? = some v) (kk : AT p l e R s m args below meth c g nL Q cl sl (pc + 3) lv (v :: st) ws) : AT p l e R s m args below meth c g nL Q cl sl pc lv (.ref a :: st) ws := fun H locs ls hP hD hS hl => va_get (C := RX2) (T := TX2) (N := 1) cx.1.1 cx.1.2.1 cx.1.2.2.2.2 iw_X2 cx.1.2.2.2.1 cx.2.1.2.1 hP q0 he rfl 0 (by decide) (cx.ok tb_62) (fun _ h9 => h9) hv hd (kk H locs ls hP hD hS hl)
theorem k_X2_15 (cx : q_cx g p m c cc nL s args RX2 meth) {post : Int32 → va_W → Prop} (hM : MetW l g yX2_goThrough cX2_goThrough 8 (some .int) rm (.ref b :: As) ws (q_Qi g post)) (hd : decode cc pc = .ok (.invokevirtual 15, 3)) (q0 : Nat) {fs : List Value} (he : ws[q0]? = some (b, .inr (3, fs))) (hR : rm.frames + 1 ≤ R.frames ∧ 8 + (8 + 11) + rm.locals ≤ R.locals) (hroom : cl + rm.cells ≤ R.cells ∧ sl + rm.slots ≤ R.slots) (hst : st0 = As.reverse ++ .ref b :: st) (hn : As.length = 2) (hW : (st.map fun v => v.category).sum ≤ 8) (kk : ∀ (r : Int32) (u : va_W), post r u → AT p l e R s m args below meth c g nL Q (cl + rm.cells) (sl + rm.slots) (pc + 3) lv (.int r :: st) u) : AT p l e R s m args below meth c g nL Q cl sl pc lv st0 ws := q_Vi (C := RX2) (ci := 3) cx (gi_V tb_484 tb_486 ts_17 tb_5 tb_487) ⟨rfl, by decide +kernel, by decide +kernel, by decide +kernel⟩ rfl rfl hM hd q0 he hR hroom hst hn hW kk
theorem k_X2_19 (cx : q_cx g p m c cc nL s args RX2 meth) {post : Int32 → va_W → Prop} (hM : MetW l g yJ9_min_7cf53 cJ9_min_7cf53 2 (some .int) rm As ws (q_Qi g post)) (hd : decode cc pc = .ok (.invokestatic 19, 3)) (hR : rm.frames + 1 ≤ R.frames ∧ 8 + (2 + 11) + rm.locals ≤ R.locals) (hroom : cl + rm.cells ≤ R.cells ∧ sl + rm.slots ≤ R.slots) (hst : st0 = As.reverse ++ st) (hn : As.length = 2) (hW : (st.map fun v => v.category).sum ≤ 8) (kk : ∀ (r : Int32) (u : va_W), post r u → AT p l e R s m args below meth c g nL Q (cl + rm.cells) (sl + rm.slots) (pc + 3) lv (.int r :: st) u) : AT p l e R s m args below meth c g nL Q cl sl pc lv st0 ws := q_Si cx (gi_S tb_488 tb_313 tb_16 tb_314) ⟨by decide +kernel, by decide +kernel, by decide +kernel⟩ hM hd hR hroom hst hn hW kk
theorem nw_X3_7 (cx : q_cx g p m c cc nL s args RX3 meth) (hd : decode cc pc = .ok (.new 7, 3)) (hcells : cl + 1 ≤ R.cells) (hslots : sl + 3 ≤ R.slots) (kk : ∀ (q : Nat), AT p l e R s m args below meth c g nL Q (cl + 1) (sl + 3) (pc + 3) lv (.ref q :: st) (ws ++ [(q, .inr (0, [.int 0, .null, .int 0]))])) : AT p l e R s m args below meth c g nL Q cl sl pc lv st ws := q_new (C := RJx4a65c) (T := TJx4a65c) (N := 3) cx iw_Jx4a65c tyJx4a65c tyJx4a65c_ok tb_30 tb_31 tb_4 rfl (fun j hj => by rcases (show j = 0 ∨ j = 1 ∨ j = 2 by omega) with rfl | rfl | rfl <;> rfl) hd hcells hslots kk
theorem k_X3_9 (cx : q_cx g p m c cc nL s args RX3 meth) {post : va_W → Prop} (hM : MetW l g yJx4a65c_init_da8c8 cJx4a65c_init_da8c8 1 none rm (.ref b :: As) ws (q_Qv g post)) (hd : decode cc pc = .ok (.invokespecial 9, 3)) (hR : rm.frames + 1 ≤ R.frames ∧ 8 + (1 + 11) + rm.locals ≤ R.locals) (hroom : cl + rm.cells ≤ R.cells ∧ sl + rm.slots ≤ R.slots) (hst : st0 = As.reverse ++ .ref b :: st) (hn : As.length = 0) (hW : (st.map fun v => v.category).sum ≤ 8) (kk : ∀ (u : va_W), post  u → AT p l e R s m args below meth c g nL Q (cl + rm.cells) (sl + rm.slots) (pc + 3) lv (st) u) : AT p l e R s m args below meth c g nL Q cl sl pc lv st0 ws := q_I cx tb_32 tb_33 tb_4 tb_34 rfl ⟨by decide +kernel, by decide +kernel, by decide +kernel⟩ hM hd hR hroom hst hn hW kk
theorem pf_X3_10 (cx : q_cx g p m c cc nL s args RX3 meth) (hnm : meth.name = "<init>") (hd : decode cc pc = .ok (.putfield 10, 3)) (q0 : Nat) {a : Nat} {fs : List Value} {x : Nat} (he : ws[q0]? = some (a, .inr (4, fs))) (hl9 : 0 < fs.length) (kk : AT p l e R s m args below meth c g nL Q cl sl (pc + 3) lv st (ws.set q0 (a, .inr (4, fs.set 0 (.ref x))))) : AT p l e R s m args below meth c g nL Q cl sl pc lv (.ref x :: .ref a :: st) ws := fun H locs ls hP hD hS hl => va_putF (C := RX3) (T := TX3) (N := 10) cx.1.1 cx.1.2.1 cx.1.2.2.2.2 iw_X3 tyX3 tyX3_ok nmX3 cx.1.2.2.2.1 cx.2.1.2.1 hP hD hS q0 he rfl 0 (by decide) (cx.ok tb_71) (fun _ h9 => h9) rfl hnm rfl (tyX3_ok 0 (by decide)) rfl rfl hl9 hd (fun H1 locs1 hP hD hS => kk H1 locs1 ls hP hD hS hl)
theorem pf_X3_16 (cx : q_cx g p m c cc nL s args RX3 meth) (hnm : meth.name = "<init>") (hd : decode cc pc = .ok (.putfield 16, 3)) (q0 : Nat) {a : Nat} {fs : List Value} {x : Nat} (he : ws[q0]? = some (a, .inr (4, fs))) (hl9 : 1 < fs.length) (kk : AT p l e R s m args below meth c g nL Q cl sl (pc + 3) lv st (ws.set q0 (a, .inr (4, fs.set 1 (.ref x))))) : AT p l e R s m args below meth c g nL Q cl sl pc lv (.ref x :: .ref a :: st) ws := fun H locs ls hP hD hS hl => va_putF (C := RX3) (T := TX3) (N := 10) cx.1.1 cx.1.2.1 cx.1.2.2.2.2 iw_X3 tyX3 tyX3_ok nmX3 cx.1.2.2.2.1 cx.2.1.2.1 hP hD hS q0 he rfl 1 (by decide) (cx.ok tb_72) (fun _ h9 => h9) rfl hnm rfl (tyX3_ok 1 (by decide)) rfl rfl hl9 hd (fun H1 locs1 hP hD hS => kk H1 locs1 ls hP hD hS hl)
theorem pf_X3_19 (cx : q_cx g p m c cc nL s args RX3 meth) (hnm : meth.name = "<init>") (hd : decode cc pc = .ok (.putfield 19, 3)) (q0 : Nat) {a : Nat} {fs : List Value} {x : Nat} (he : ws[q0]? = some (a, .inr (4, fs))) (hl9 : 2 < fs.length) (kk : AT p l e R s m args below meth c g nL Q cl sl (pc + 3) lv st (ws.set q0 (a, .inr (4, fs.set 2 (.ref x))))) : AT p l e R s m args below meth c g nL Q cl sl pc lv (.ref x :: .ref a :: st) ws := fun H locs ls hP hD hS hl => va_putF (C := RX3) (T := TX3) (N := 10) cx.1.1 cx.1.2.1 cx.1.2.2.2.2 iw_X3 tyX3 tyX3_ok nmX3 cx.1.2.2.2.1 cx.2.1.2.1 hP hD hS q0 he rfl 2 (by decide) (cx.ok tb_73) (fun _ h9 => h9) rfl hnm rfl (tyX3_ok 2 (by decide)) rfl rfl hl9 hd (fun H1 locs1 hP hD hS => kk H1 locs1 ls hP hD hS hl)
theorem pf_X3_22 (cx : q_cx g p m c cc nL s args RX3 meth) (hnm : meth.name = "<init>") (hd : decode cc pc = .ok (.putfield 22, 3)) (q0 : Nat) {a : Nat} {fs : List Value} {x : Nat} (he : ws[q0]? = some (a, .inr (4, fs))) (hl9 : 3 < fs.length) (kk : AT p l e R s m args below meth c g nL Q cl sl (pc + 3) lv st (ws.set q0 (a, .inr (4, fs.set 3 (.ref x))))) : AT p l e R s m args below meth c g nL Q cl sl pc lv (.ref x :: .ref a :: st) ws := fun H locs ls hP hD hS hl => va_putF (C := RX3) (T := TX3) (N := 10) cx.1.1 cx.1.2.1 cx.1.2.2.2.2 iw_X3 tyX3 tyX3_ok nmX3 cx.1.2.2.2.1 cx.2.1.2.1 hP hD hS q0 he rfl 3 (by decide) (cx.ok tb_74) (fun _ h9 => h9) rfl hnm rfl (tyX3_ok 3 (by decide)) rfl rfl hl9 hd (fun H1 locs1 hP hD hS => kk H1 locs1 ls hP hD hS hl)
theorem pf_X3_26 (cx : q_cx g p m c cc nL s args RX3 meth) (hnm : meth.name = "<init>") (hd : decode cc pc = .ok (.putfield 26, 3)) (q0 : Nat) {a : Nat} {fs : List Value} {x : Nat} (he : ws[q0]? = some (a, .inr (4, fs))) (hl9 : 4 < fs.length) (kk : AT p l e R s m args below meth c g nL Q cl sl (pc + 3) lv st (ws.set q0 (a, .inr (4, fs.set 4 (.ref x))))) : AT p l e R s m args below meth c g nL Q cl sl pc lv (.ref x :: .ref a :: st) ws := fun H locs ls hP hD hS hl => va_putF (C := RX3) (T := TX3) (N := 10) cx.1.1 cx.1.2.1 cx.1.2.2.2.2 iw_X3 tyX3 tyX3_ok nmX3 cx.1.2.2.2.1 cx.2.1.2.1 hP hD hS q0 he rfl 4 (by decide) (cx.ok tb_75) (fun _ h9 => h9) rfl hnm rfl (tyX3_ok 4 (by decide)) rfl rfl hl9 hd (fun H1 locs1 hP hD hS => kk H1 locs1 ls hP hD hS hl)
theorem pf_X3_29 (cx : q_cx g p m c cc nL s args RX3 meth) (hnm : meth.name = "<init>") (hd : decode cc pc = .ok (.putfield 29, 3)) (q0 : Nat) {a : Nat} {fs : List Value} {x : Nat} (he : ws[q0]? = some (a, .inr (4, fs))) (hl9 : 5 < fs.length) (kk : AT p l e R s m args below meth c g nL Q cl sl (pc + 3) lv st (ws.set q0 (a, .inr (4, fs.set 5 (.ref x))))) : AT p l e R s m args below meth c g nL Q cl sl pc lv (.ref x :: .ref a :: st) ws := fun H locs ls hP hD hS hl => va_putF (C := RX3) (T := TX3) (N := 10) cx.1.1 cx.1.2.1 cx.1.2.2.2.2 iw_X3 tyX3 tyX3_ok nmX3 cx.1.2.2.2.1 cx.2.1.2.1 hP hD hS q0 he rfl 5 (by decide) (cx.ok tb_76) (fun _ h9 => h9) rfl hnm rfl (tyX3_ok 5 (by decide)) rfl rfl hl9 hd (fun H1 locs1 hP hD hS => kk H1 locs1 ls hP hD hS hl)
theorem nw_X3_33 (cx : q_cx g p m c cc nL s args RX3 meth) (hd : decode cc pc = .ok (.new 33, 3)) (hcells : cl + 1 ≤ R.cells) (hslots : sl + 1 ≤ R.slots) (kk : ∀ (q : Nat), AT p l e R s m args below meth c g nL Q (cl + 1) (sl + 1) (pc + 3) lv (.ref q :: st) (ws ++ [(q, .inr (3, [.null]))])) : AT p l e R s m args below meth c g nL Q cl sl pc lv st ws := q_new (C := RX2) (T := TX2) (N := 1) cx iw_X2 tyX2 tyX2_ok tb_56 tb_57 tb_5 rfl (fun j hj => by rcases (show j = 0 by omega) with rfl <;> rfl) hd hcells hslots kk
theorem k_X3_35 (cx : q_cx g p m c cc nL s args RX3 meth) {post : va_W → Prop} (hM : MetW l g yX2_init cX2_init 1 none rm (.ref b :: As) ws (q_Qv g post)) (hd : decode cc pc = .ok (.invokespecial 35, 3)) (hR : rm.frames + 1 ≤ R.frames ∧ 8 + (1 + 11) + rm.locals ≤ R.locals) (hroom : cl + rm.cells ≤ R.cells ∧ sl + rm.slots ≤ R.slots) (hst : st0 = As.reverse ++ .ref b :: st) (hn : As.length = 0) (hW : (st.map fun v => v.category).sum ≤ 8) (kk : ∀ (u : va_W), post  u → AT p l e R s m args below meth c g nL Q (cl + rm.cells) (sl + rm.slots) (pc + 3) lv (st) u) : AT p l e R s m args below meth c g nL Q cl sl pc lv st0 ws := q_IN cx tn_58 tb_59 tb_5 tb_60 rfl ⟨by decide +kernel, by decide +kernel, by decide +kernel⟩ hM hd hR hroom hst hn hW kk
theorem pf_X3_36 (cx : q_cx g p m c cc nL s args RX3 meth) (hnm : meth.name = "<init>") (hd : decode cc pc = .ok (.putfield 36, 3)) (q0 : Nat) {a : Nat} {fs : List Value} {x : Nat} (he : ws[q0]? = some (a, .inr (4, fs))) (hl9 : 6 < fs.length) (kk : AT p l e R s m args below meth c g nL Q cl sl (pc + 3) lv st (ws.set q0 (a, .inr (4, fs.set 6 (.ref x))))) : AT p l e R s m args below meth c g nL Q cl sl pc lv (.ref x :: .ref a :: st) ws := fun H locs ls hP hD hS hl => va_putF (C := RX3) (T := TX3) (N := 10) cx.1.1 cx.1.2.1 cx.1.2.2.2.2 iw_X3 tyX3 tyX3_ok nmX3 cx.1.2.2.2.1 cx.2.1.2.1 hP hD hS q0 he rfl 6 (by decide) (cx.ok tb_77) (fun _ h9 => h9) rfl hnm rfl (tyX3_ok 6 (by decide)) rfl rfl hl9 hd (fun H1 locs1 hP hD hS => kk H1 locs1 ls hP hD hS hl)
theorem pf_X3_40 (cx : q_cx g p m c cc nL s args RX3 meth)  (hd : decode cc pc = .ok (.putfield 40, 3)) (q0 : Nat) {a : Nat} {fs : List Value} {x : Int64} (he : ws[q0]? = some (a, .inr (4, fs))) (hl9 : 7 < fs.length) (kk : AT p l e R s m args below meth c g nL Q cl sl (pc + 3) lv st (ws.set q0 (a, .inr (4, fs.set 7 (.long x))))) : AT p l e R s m args below meth c g nL Q cl sl pc lv (.long x :: .ref a :: st) ws := fun H locs ls hP hD hS hl => va_put (C := RX3) (T := TX3) (N := 10) cx.1.1 cx.1.2.1 cx.1.2.2.2.2 iw_X3 tyX3 tyX3_ok nmX3 cx.1.2.2.2.1 cx.2.1.2.1 hP hD hS q0 he rfl 7 (by decide) (cx.ok tb_78) (fun _ h9 => h9) rfl (tyX3_ok 7 (by decide)) rfl rfl hl9 hd (fun H1 locs1 hP hD hS => kk H1 locs1 ls hP hD hS hl)
theorem pf_X3_44 (cx : q_cx g p m c cc nL s args RX3 meth)  (hd : decode cc pc = .ok (.putfield 44, 3)) (q0 : Nat) {a : Nat} {fs : List Value} {x : Int32} (he : ws[q0]? = some (a, .inr (4, fs))) (hl9 : 8 < fs.length) (kk : AT p l e R s m args below meth c g nL Q cl sl (pc + 3) lv st (ws.set q0 (a, .inr (4, fs.set 8 (.int x))))) : AT p l e R s m args below meth c g nL Q cl sl pc lv (.int x :: .ref a :: st) ws := fun H locs ls hP hD hS hl => va_put (C := RX3) (T := TX3) (N := 10) cx.1.1 cx.1.2.1 cx.1.2.2.2.2 iw_X3 tyX3 tyX3_ok nmX3 cx.1.2.2.2.1 cx.2.1.2.1 hP hD hS q0 he rfl 8 (by decide) (cx.ok tb_79) (fun _ h9 => h9) rfl (tyX3_ok 8 (by decide)) rfl rfl hl9 hd (fun H1 locs1 hP hD hS => kk H1 locs1 ls hP hD hS hl)
theorem pf_X3_48 (cx : q_cx g p m c cc nL s args RX3 meth)  (hd : decode cc pc = .ok (.putfield 48, 3)) (q0 : Nat) {a : Nat} {fs : List Value} {x : Int32} (he : ws[q0]? = some (a, .inr (4, fs))) (hl9 : 9 < fs.length) (kk : AT p l e R s m args below meth c g nL Q cl sl (pc + 3) lv st (ws.set q0 (a, .inr (4, fs.set 9 (.int x))))) : AT p l e R s m args below meth c g nL Q cl sl pc lv (.int x :: .ref a :: st) ws := fun H locs ls hP hD hS hl => va_put (C := RX3) (T := TX3) (N := 10) cx.1.1 cx.1.2.1 cx.1.2.2.2.2 iw_X3 tyX3 tyX3_ok nmX3 cx.1.2.2.2.1 cx.2.1.2.1 hP hD hS q0 he rfl 9 (by decide) (cx.ok tb_80) (fun _ h9 => h9) rfl (tyX3_ok 9 (by decide)) rfl rfl hl9 hd (fun H1 locs1 hP hD hS => kk H1 locs1 ls hP hD hS hl)
theorem gf_X3_22 (cx : q_cx g p m c cc nL s args RX3 meth) (hd : decode cc pc = .ok (.getfield 22, 3)) (q0 : Nat) {a : Nat} {fs : List Value} {v : Value} (he : ws[q0]? = some (a, .inr (4, fs))) (hv : fs[3]? = some v) (kk : AT p l e R s m args below meth c g nL Q cl sl (pc + 3) lv (v :: st) ws) : AT p l e R s m args below meth c g nL Q cl sl pc lv (.ref a :: st) ws := fun H locs ls hP hD hS hl => va_get (C := RX3) (T := TX3) (N := 10) cx.1.1 cx.1.2.1 cx.1.2.2.2.2 iw_X3 cx.1.2.2.2.1 cx.2.1.2.1 hP q0 he rfl 3 (by decide) (cx.ok tb_74) (fun _ h9 => h9) hv hd (kk H locs ls hP hD hS hl)
theorem k_X3_51 (cx : q_cx g p m c cc nL s args RX3 meth) {post : va_W → Prop} (hM : MetW l g yJ7_fill_53178 cJ7_fill_53178 4 none rm As ws (q_Qv g post)) (hd : decode cc pc = .ok (.invokestatic 51, 3)) (hR : rm.frames + 1 ≤ R.frames ∧ 8 + (4 + 11) + rm.locals ≤ R.locals) (hroom : cl + rm.cells ≤ R.cells ∧ sl + rm.slots ≤ R.slots) (hst : st0 = As.reverse ++ st) (hn : As.length = 2) (hW : (st.map fun v => v.category).sum ≤ 8) (kk : ∀ (u : va_W), post  u → AT p l e R s m args below meth c g nL Q (cl + rm.cells) (sl + rm.slots) (pc + 3) lv (st) u) : AT p l e R s m args below meth c g nL Q cl sl pc lv st0 ws := q_Sv cx (gi_S tb_68 tb_69 tb_6 tb_70) ⟨by decide +kernel, by decide +kernel, by decide +kernel⟩ hM hd hR hroom hst hn hW kk
theorem k_X3_57 (cx : q_cx g p m c cc nL s args RX3 meth) {post : Int32 → va_W → Prop} (hM : MetW l g yX3_isOutside cX3_isOutside 2 (some .boolean) rm As ws (q_Qi g post)) (hd : decode cc pc = .ok (.invokestatic 57, 3)) (hR : rm.frames + 1 ≤ R.frames ∧ 8 + (2 + 11) + rm.locals ≤ R.locals) (hroom : cl + rm.cells ≤ R.cells ∧ sl + rm.slots ≤ R.slots) (hst : st0 = As.reverse ++ st) (hn : As.length = 2) (hW : (st.map fun v => v.category).sum ≤ 8) (kk : ∀ (r : Int32) (u : va_W), post r u → AT p l e R s m args below meth c g nL Q (cl + rm.cells) (sl + rm.slots) (pc + 3) lv (.int r :: st) u) : AT p l e R s m args below meth c g nL Q cl sl pc lv st0 ws := q_Si cx (gi_S tb_111 tb_112 tb_1 tb_113) ⟨by decide +kernel, by decide +kernel, by decide +kernel⟩ hM hd hR hroom hst hn hW kk
theorem gf_X3_48 (cx : q_cx g p m c cc nL s args RX3 meth) (hd : decode cc pc = .ok (.getfield 48, 3)) (q0 : Nat) {a : Nat} {fs : List Value} {v : Value} (he : ws[q0]? = some (a, .inr (4, fs))) (hv : fs[9]? = some v) (kk : AT p l e R s m args below meth c g nL Q cl sl (pc + 3) lv (v :: st) ws) : AT p l e R s m args below meth c g nL Q cl sl pc lv (.ref a :: st) ws := fun H locs ls hP hD hS hl => va_get (C := RX3) (T := TX3) (N := 10) cx.1.1 cx.1.2.1 cx.1.2.2.2.2 iw_X3 cx.1.2.2.2.1 cx.2.1.2.1 hP q0 he rfl 9 (by decide) (cx.ok tb_80) (fun _ h9 => h9) hv hd (kk H locs ls hP hD hS hl)
theorem gf_X3_44 (cx : q_cx g p m c cc nL s args RX3 meth) (hd : decode cc pc = .ok (.getfield 44, 3)) (q0 : Nat) {a : Nat} {fs : List Value} {v : Value} (he : ws[q0]? = some (a, .inr (4, fs))) (hv : fs[8]? = some v) (kk : AT p l e R s m args below meth c g nL Q cl sl (pc + 3) lv (v :: st) ws) : AT p l e R s m args below meth c g nL Q cl sl pc lv (.ref a :: st) ws := fun H locs ls hP hD hS hl => va_get (C := RX3) (T := TX3) (N := 10) cx.1.1 cx.1.2.1 cx.1.2.2.2.2 iw_X3 cx.1.2.2.2.1 cx.2.1.2.1 hP q0 he rfl 8 (by decide) (cx.ok tb_79) (fun _ h9 => h9) hv hd (kk H locs ls hP hD hS hl)
theorem gf_X3_10 (cx : q_cx g p m c cc nL s args RX3 meth) (hd : decode cc pc = .ok (.getfield 10, 3)) (q0 : Nat) {a : Nat} {fs : List Value} {v : Value} (he : ws[q0]? = some (a, .inr (4, fs))) (hv : fs[0]? = some v) (kk : AT p l e R s m args below meth c g nL Q cl sl (pc + 3) lv (v :: st) ws) : AT p l e R s m args below meth c g nL Q cl sl pc lv (.ref a :: st) ws := fun H locs ls hP hD hS hl => va_get (C := RX3) (T := TX3) (N := 10) cx.1.1 cx.1.2.1 cx.1.2.2.2.2 iw_X3 cx.1.2.2.2.1 cx.2.1.2.1 hP q0 he rfl 0 (by decide) (cx.ok tb_71) (fun _ h9 => h9) hv hd (kk H locs ls hP hD hS hl)
theorem k_X3_80 (cx : q_cx g p m c cc nL s args RX3 meth) {post : Int32 → va_W → Prop} (hM : MetW l g yJx4a65c_size_8abf5 cJx4a65c_size_8abf5 1 (some .int) rm (.ref b :: As) ws (q_Qi g post)) (hd : decode cc pc = .ok (.invokevirtual 80, 3)) (q0 : Nat) {fs : List Value} (he : ws[q0]? = some (b, .inr (0, fs))) (hR : rm.frames + 1 ≤ R.frames ∧ 8 + (1 + 11) + rm.locals ≤ R.locals) (hroom : cl + rm.cells ≤ R.cells ∧ sl + rm.slots ≤ R.slots) (hst : st0 = As.reverse ++ .ref b :: st) (hn : As.length = 0) (hW : (st.map fun v => v.category).sum ≤ 8) (kk : ∀ (r : Int32) (u : va_W), post r u → AT p l e R s m args below meth c g nL Q (cl + rm.cells) (sl + rm.slots) (pc + 3) lv (.int r :: st) u) : AT p l e R s m args below meth c g nL Q cl sl pc lv st0 ws := q_Vi (C := RJx4a65c) (ci := 0) cx (gi_V tb_223 tb_224 tb_225 tb_4 tb_226) ⟨rfl, by decide +kernel, by decide +kernel, by decide +kernel⟩ rfl rfl hM hd q0 he hR hroom hst hn hW kk
theorem nw_X3_86 (cx : q_cx g p m c cc nL s args RX3 meth) (hd : decode cc pc = .ok (.new 86, 3)) (hcells : cl + 1 ≤ R.cells) (hslots : sl + 6 ≤ R.slots) (kk : ∀ (q : Nat), AT p l e R s m args below meth c g nL Q (cl + 1) (sl + 6) (pc + 3) lv (.ref q :: st) (ws ++ [(q, .inr (1, [.long 0, .int 0, .int 0, .int 0, .int 0, .int 0]))])) : AT p l e R s m args below meth c g nL Q cl sl pc lv st ws := q_new (C := RX0) (T := TX0) (N := 6) cx iw_X0 tyX0 tyX0_ok tb_228 tb_229 tb_14 rfl (fun j hj => by rcases (show j = 0 ∨ j = 1 ∨ j = 2 ∨ j = 3 ∨ j = 4 ∨ j = 5 by omega) with rfl | rfl | rfl | rfl | rfl | rfl <;> rfl) hd hcells hslots kk
theorem k_X3_88 (cx : q_cx g p m c cc nL s args RX3 meth) {post : Int32 → va_W → Prop} (hM : MetW l g yX3_takeDraft cX3_takeDraft 2 (some .int) rm (.ref b :: As) ws (q_Qi g post)) (hd : decode cc pc = .ok (.invokevirtual 88, 3)) (q0 : Nat) {fs : List Value} (he : ws[q0]? = some (b, .inr (4, fs))) (hR : rm.frames + 1 ≤ R.frames ∧ 8 + (2 + 11) + rm.locals ≤ R.locals) (hroom : cl + rm.cells ≤ R.cells ∧ sl + rm.slots ≤ R.slots) (hst : st0 = As.reverse ++ .ref b :: st) (hn : As.length = 0) (hW : (st.map fun v => v.category).sum ≤ 8) (kk : ∀ (r : Int32) (u : va_W), post r u → AT p l e R s m args below meth c g nL Q (cl + rm.cells) (sl + rm.slots) (pc + 3) lv (.int r :: st) u) : AT p l e R s m args below meth c g nL Q cl sl pc lv st0 ws := q_Vi (C := RX3) (ci := 4) cx (gi_V tb_230 tb_232 ts_1 tb_1 tb_233) ⟨rfl, by decide +kernel, by decide +kernel, by decide +kernel⟩ rfl rfl hM hd q0 he hR hroom hst hn hW kk
theorem k_X3_91 (cx : q_cx g p m c cc nL s args RX3 meth) {post : va_W → Prop} (hM : MetW l g yX0_init cX0_init 8 none rm (.ref b :: As) ws (q_Qv g post)) (hd : decode cc pc = .ok (.invokespecial 91, 3)) (hR : rm.frames + 1 ≤ R.frames ∧ 8 + (8 + 11) + rm.locals ≤ R.locals) (hroom : cl + rm.cells ≤ R.cells ∧ sl + rm.slots ≤ R.slots) (hst : st0 = As.reverse ++ .ref b :: st) (hn : As.length = 6) (hW : (st.map fun v => v.category).sum ≤ 8) (kk : ∀ (u : va_W), post  u → AT p l e R s m args below meth c g nL Q (cl + rm.cells) (sl + rm.slots) (pc + 3) lv (st) u) : AT p l e R s m args below meth c g nL Q cl sl pc lv st0 ws := q_IN cx tn_234 tb_235 tb_14 tb_236 rfl ⟨by decide +kernel, by decide +kernel, by decide +kernel⟩ hM hd hR hroom hst hn hW kk
theorem k_X3_94 (cx : q_cx g p m c cc nL s args RX3 meth) {post : Int32 → va_W → Prop} (hM : MetW l g yJx4a65c_add_9ea2d cJx4a65c_add_9ea2d 2 (some .boolean) rm (.ref b :: As) ws (q_Qi g post)) (hd : decode cc pc = .ok (.invokevirtual 94, 3)) (q0 : Nat) {fs : List Value} (he : ws[q0]? = some (b, .inr (0, fs))) (hR : rm.frames + 1 ≤ R.frames ∧ 8 + (2 + 11) + rm.locals ≤ R.locals) (hroom : cl + rm.cells ≤ R.cells ∧ sl + rm.slots ≤ R.slots) (hst : st0 = As.reverse ++ .ref b :: st) (hn : As.length = 1) (hW : (st.map fun v => v.category).sum ≤ 8) (kk : ∀ (r : Int32) (u : va_W), post r u → AT p l e R s m args below meth c g nL Q (cl + rm.cells) (sl + rm.slots) (pc + 3) lv (.int r :: st) u) : AT p l e R s m args below meth c g nL Q cl sl pc lv st0 ws := q_Vi (C := RJx4a65c) (ci := 0) cx (gi_V tb_264 tb_265 tb_266 tb_4 tb_267) ⟨rfl, by decide +kernel, by decide +kernel, by decide +kernel⟩ rfl rfl hM hd q0 he hR hroom hst hn hW kk
theorem gf_X3_40 (cx : q_cx g p m c cc nL s args RX3 meth) (hd : decode cc pc = .ok (.getfield 40, 3)) (q0 : Nat) {a : Nat} {fs : List Value} {v : Value} (he : ws[q0]? = some (a, .inr (4, fs))) (hv : fs[7]? = some v) (kk : AT p l e R s m args below meth c g nL Q cl sl (pc + 3) lv (v :: st) ws) : AT p l e R s m args below meth c g nL Q cl sl pc lv (.ref a :: st) ws := fun H locs ls hP hD hS hl => va_get (C := RX3) (T := TX3) (N := 10) cx.1.1 cx.1.2.1 cx.1.2.2.2.2 iw_X3 cx.1.2.2.2.1 cx.2.1.2.1 hP q0 he rfl 7 (by decide) (cx.ok tb_78) (fun _ h9 => h9) hv hd (kk H locs ls hP hD hS hl)
theorem gf_X3_26 (cx : q_cx g p m c cc nL s args RX3 meth) (hd : decode cc pc = .ok (.getfield 26, 3)) (q0 : Nat) {a : Nat} {fs : List Value} {v : Value} (he : ws[q0]? = some (a, .inr (4, fs))) (hv : fs[4]? = some v) (kk : AT p l e R s m args below meth c g nL Q cl sl (pc + 3) lv (v :: st) ws) : AT p l e R s m args below meth c g nL Q cl sl pc lv (.ref a :: st) ws := fun H locs ls hP hD hS hl => va_get (C := RX3) (T := TX3) (N := 10) cx.1.1 cx.1.2.1 cx.1.2.2.2.2 iw_X3 cx.1.2.2.2.1 cx.2.1.2.1 hP q0 he rfl 4 (by decide) (cx.ok tb_75) (fun _ h9 => h9) hv hd (kk H locs ls hP hD hS hl)
theorem k_X3_98 (cx : q_cx g p m c cc nL s args RX3 meth) {post : Int32 → va_W → Prop} (hM : MetW l g yX3_drawLines cX3_drawLines 6 (some .int) rm (.ref b :: As) ws (q_Qi g post)) (hd : decode cc pc = .ok (.invokevirtual 98, 3)) (q0 : Nat) {fs : List Value} (he : ws[q0]? = some (b, .inr (4, fs))) (hR : rm.frames + 1 ≤ R.frames ∧ 8 + (6 + 11) + rm.locals ≤ R.locals) (hroom : cl + rm.cells ≤ R.cells ∧ sl + rm.slots ≤ R.slots) (hst : st0 = As.reverse ++ .ref b :: st) (hn : As.length = 1) (hW : (st.map fun v => v.category).sum ≤ 8) (kk : ∀ (r : Int32) (u : va_W), post r u → AT p l e R s m args below meth c g nL Q (cl + rm.cells) (sl + rm.slots) (pc + 3) lv (.int r :: st) u) : AT p l e R s m args below meth c g nL Q cl sl pc lv st0 ws := q_Vi (C := RX3) (ci := 4) cx (gi_V tb_320 tb_322 ts_5 tb_1 tb_323) ⟨rfl, by decide +kernel, by decide +kernel, by decide +kernel⟩ rfl rfl hM hd q0 he hR hroom hst hn hW kk
theorem k_X3_108 (cx : q_cx g p m c cc nL s args RX3 meth) {post : Option Nat → va_W → Prop} (hM : MetW l g yJx4a65c_get_915e3 cJx4a65c_get_915e3 2 (some (.object "java/lang/Object")) rm (.ref b :: As) ws (q_Qq g post)) (hd : decode cc pc = .ok (.invokevirtual 108, 3)) (q0 : Nat) {fs : List Value} (he : ws[q0]? = some (b, .inr (0, fs))) (hR : rm.frames + 1 ≤ R.frames ∧ 8 + (2 + 11) + rm.locals ≤ R.locals) (hroom : cl + rm.cells ≤ R.cells ∧ sl + rm.slots ≤ R.slots) (hst : st0 = As.reverse ++ .ref b :: st) (hn : As.length = 1) (hW : (st.map fun v => v.category).sum ≤ 8) (kk : ∀ (r : Option Nat) (u : va_W), post r u → AT p l e R s m args below meth c g nL Q (cl + rm.cells) (sl + rm.slots) (pc + 3) lv (va_rf r :: st) u) : AT p l e R s m args below meth c g nL Q cl sl pc lv st0 ws := q_Vq (C := RJx4a65c) (ci := 0) cx (gi_V tb_328 tb_329 tb_330 tb_4 tb_331) ⟨rfl, by decide +kernel, by decide +kernel, by decide +kernel⟩ rfl rfl hM hd q0 he hR hroom hst hn hW kk
theorem k_X3_112 (cx : q_cx g p m c cc nL s args RX3 meth) {post : Int32 → va_W → Prop} (hM : MetW l g yX3_formIfThere cX3_formIfThere 2 (some .int) rm (.ref b :: As) ws (q_Qi g post)) (hd : decode cc pc = .ok (.invokevirtual 112, 3)) (q0 : Nat) {fs : List Value} (he : ws[q0]? = some (b, .inr (4, fs))) (hR : rm.frames + 1 ≤ R.frames ∧ 8 + (2 + 11) + rm.locals ≤ R.locals) (hroom : cl + rm.cells ≤ R.cells ∧ sl + rm.slots ≤ R.slots) (hst : st0 = As.reverse ++ .ref b :: st) (hn : As.length = 1) (hW : (st.map fun v => v.category).sum ≤ 8) (kk : ∀ (r : Int32) (u : va_W), post r u → AT p l e R s m args below meth c g nL Q (cl + rm.cells) (sl + rm.slots) (pc + 3) lv (.int r :: st) u) : AT p l e R s m args below meth c g nL Q cl sl pc lv st0 ws := q_Vi (C := RX3) (ci := 4) cx (gi_V tb_371 tb_373 ts_10 tb_1 tb_374) ⟨rfl, by decide +kernel, by decide +kernel, by decide +kernel⟩ rfl rfl hM hd q0 he hR hroom hst hn hW kk
theorem k_X3_118 (cx : q_cx g p m c cc nL s args RX3 meth) {post : Int32 → va_W → Prop} (hM : MetW l g yX3_canStandBehind cX3_canStandBehind 1 (some .boolean) rm As ws (q_Qi g post)) (hd : decode cc pc = .ok (.invokestatic 118, 3)) (hR : rm.frames + 1 ≤ R.frames ∧ 8 + (1 + 11) + rm.locals ≤ R.locals) (hroom : cl + rm.cells ≤ R.cells ∧ sl + rm.slots ≤ R.slots) (hst : st0 = As.reverse ++ st) (hn : As.length = 1) (hW : (st.map fun v => v.category).sum ≤ 8) (kk : ∀ (r : Int32) (u : va_W), post r u → AT p l e R s m args below meth c g nL Q (cl + rm.cells) (sl + rm.slots) (pc + 3) lv (.int r :: st) u) : AT p l e R s m args below meth c g nL Q cl sl pc lv st0 ws := q_Si cx (gi_S tb_383 tb_384 tb_1 tb_385) ⟨by decide +kernel, by decide +kernel, by decide +kernel⟩ hM hd hR hroom hst hn hW kk
theorem gf_X3_16 (cx : q_cx g p m c cc nL s args RX3 meth) (hd : decode cc pc = .ok (.getfield 16, 3)) (q0 : Nat) {a : Nat} {fs : List Value} {v : Value} (he : ws[q0]? = some (a, .inr (4, fs))) (hv : fs[1]? = some v) (kk : AT p l e R s m args below meth c g nL Q cl sl (pc + 3) lv (v :: st) ws) : AT p l e R s m args below meth c g nL Q cl sl pc lv (.ref a :: st) ws := fun H locs ls hP hD hS hl => va_get (C := RX3) (T := TX3) (N := 10) cx.1.1 cx.1.2.1 cx.1.2.2.2.2 iw_X3 cx.1.2.2.2.1 cx.2.1.2.1 hP q0 he rfl 1 (by decide) (cx.ok tb_72) (fun _ h9 => h9) hv hd (kk H locs ls hP hD hS hl)
theorem nw_X3_128 (cx : q_cx g p m c cc nL s args RX3 meth) (hd : decode cc pc = .ok (.new 128, 3)) (hcells : cl + 1 ≤ R.cells) (hslots : sl + 8 ≤ R.slots) (kk : ∀ (q : Nat), AT p l e R s m args below meth c g nL Q (cl + 1) (sl + 8) (pc + 3) lv (.ref q :: st) (ws ++ [(q, .inr (2, [.int 0, .int 0, .int 0, .int 0, .int 0, .int 0, .long 0, .int 0]))])) : AT p l e R s m args below meth c g nL Q cl sl pc lv st ws := q_new (C := RX1) (T := TX1) (N := 8) cx iw_X1 tyX1 tyX1_ok tb_389 tb_390 tb_20 rfl (fun j hj => by rcases (show j = 0 ∨ j = 1 ∨ j = 2 ∨ j = 3 ∨ j = 4 ∨ j = 5 ∨ j = 6 ∨ j = 7 by omega) with rfl | rfl | rfl | rfl | rfl | rfl | rfl | rfl <;> rfl) hd hcells hslots kk
theorem k_X3_130 (cx : q_cx g p m c cc nL s args RX3 meth) {post : va_W → Prop} (hM : MetW l g yX1_init cX1_init 7 none rm (.ref b :: As) ws (q_Qv g post)) (hd : decode cc pc = .ok (.invokespecial 130, 3)) (hR : rm.frames + 1 ≤ R.frames ∧ 8 + (7 + 11) + rm.locals ≤ R.locals) (hroom : cl + rm.cells ≤ R.cells ∧ sl + rm.slots ≤ R.slots) (hst : st0 = As.reverse ++ .ref b :: st) (hn : As.length = 6) (hW : (st.map fun v => v.category).sum ≤ 8) (kk : ∀ (u : va_W), post  u → AT p l e R s m args below meth c g nL Q (cl + rm.cells) (sl + rm.slots) (pc + 3) lv (st) u) : AT p l e R s m args below meth c g nL Q cl sl pc lv st0 ws := q_IN cx tn_391 tb_392 tb_20 tb_393 rfl ⟨by decide +kernel, by decide +kernel, by decide +kernel⟩ hM hd hR hroom hst hn hW kk
theorem gf_X3_135 (cx : q_cx g p m c cc nL s args RX3 meth) (hd : decode cc pc = .ok (.getfield 135, 3)) (q0 : Nat) {a : Nat} {fs : List Value} {v : Value} (he : ws[q0]? = some (a, .inr (2, fs))) (hv : fs[7]? = some v) (kk : AT p l e R s m args below meth c g nL Q cl sl (pc + 3) lv (v :: st) ws) : AT p l e R s m args below meth c g nL Q cl sl pc lv (.ref a :: st) ws := fun H locs ls hP hD hS hl => va_getN (C := RX1) (T := TX1) (N := 8) cx.1.1 cx.1.2.1 cx.1.2.2.2.2 iw_X1 cx.1.2.2.2.1 cx.2.1.2.1 hP q0 he rfl 7 (by decide) (cx.nok tn_404) (fun _ h9 => h9) hv hd (kk H locs ls hP hD hS hl)
theorem k_X3_139 (cx : q_cx g p m c cc nL s args RX3 meth) {post : Int32 → va_W → Prop} (hM : MetW l g yX3_isThere cX3_isThere 2 (some .boolean) rm (.ref b :: As) ws (q_Qi g post)) (hd : decode cc pc = .ok (.invokevirtual 139, 3)) (q0 : Nat) {fs : List Value} (he : ws[q0]? = some (b, .inr (4, fs))) (hR : rm.frames + 1 ≤ R.frames ∧ 8 + (2 + 11) + rm.locals ≤ R.locals) (hroom : cl + rm.cells ≤ R.cells ∧ sl + rm.slots ≤ R.slots) (hst : st0 = As.reverse ++ .ref b :: st) (hn : As.length = 1) (hW : (st.map fun v => v.category).sum ≤ 8) (kk : ∀ (r : Int32) (u : va_W), post r u → AT p l e R s m args below meth c g nL Q (cl + rm.cells) (sl + rm.slots) (pc + 3) lv (.int r :: st) u) : AT p l e R s m args below meth c g nL Q cl sl pc lv st0 ws := q_Vi (C := RX3) (ci := 4) cx (gi_V tb_342 tb_344 ts_7 tb_1 tb_345) ⟨rfl, by decide +kernel, by decide +kernel, by decide +kernel⟩ rfl rfl hM hd q0 he hR hroom hst hn hW kk
theorem k_X3_143 (cx : q_cx g p m c cc nL s args RX3 meth) {post : Int32 → va_W → Prop} (hM : MetW l g yX1_restsOn cX1_restsOn 2 (some .boolean) rm (.ref b :: As) ws (q_Qi g post)) (hd : decode cc pc = .ok (.invokevirtual 143, 3)) (q0 : Nat) {fs : List Value} (he : ws[q0]? = some (b, .inr (2, fs))) (hR : rm.frames + 1 ≤ R.frames ∧ 8 + (2 + 11) + rm.locals ≤ R.locals) (hroom : cl + rm.cells ≤ R.cells ∧ sl + rm.slots ≤ R.slots) (hst : st0 = As.reverse ++ .ref b :: st) (hn : As.length = 1) (hW : (st.map fun v => v.category).sum ≤ 8) (kk : ∀ (r : Int32) (u : va_W), post r u → AT p l e R s m args below meth c g nL Q (cl + rm.cells) (sl + rm.slots) (pc + 3) lv (.int r :: st) u) : AT p l e R s m args below meth c g nL Q cl sl pc lv st0 ws := q_Ni (C := RX1) (ci := 2) cx tn_430 tb_432 ts_11 tb_20 tb_433 ⟨by decide +kernel, by decide +kernel, by decide +kernel⟩ rfl rfl hM hd q0 he hR hroom hst hn hW kk
theorem gf_X3_148 (cx : q_cx g p m c cc nL s args RX3 meth) (hd : decode cc pc = .ok (.getfield 148, 3)) (q0 : Nat) {a : Nat} {fs : List Value} {v : Value} (he : ws[q0]? = some (a, .inr (2, fs))) (hv : fs[6]? = some v) (kk : AT p l e R s m args below meth c g nL Q cl sl (pc + 3) lv (v :: st) ws) : AT p l e R s m args below meth c g nL Q cl sl pc lv (.ref a :: st) ws := fun H locs ls hP hD hS hl => va_getN (C := RX1) (T := TX1) (N := 8) cx.1.1 cx.1.2.1 cx.1.2.2.2.2 iw_X1 cx.1.2.2.2.1 cx.2.1.2.1 hP q0 he rfl 6 (by decide) (cx.nok tn_402) (fun _ h9 => h9) hv hd (kk H locs ls hP hD hS hl)
theorem gf_X3_151 (cx : q_cx g p m c cc nL s args RX3 meth) (hd : decode cc pc = .ok (.getfield 151, 3)) (q0 : Nat) {a : Nat} {fs : List Value} {v : Value} (he : ws[q0]? = some (a, .inr (1, fs))) (hv : fs[0]? = some v) (kk : AT p l e R s m args below meth c g nL Q cl sl (pc + 3) lv (v :: st) ws) : AT p l e R s m args below meth c g nL Q cl sl pc lv (.ref a :: st) ws := fun H locs ls hP hD hS hl => va_getN (C := RX0) (T := TX0) (N := 6) cx.1.1 cx.1.2.1 cx.1.2.2.2.2 iw_X0 cx.1.2.2.2.1 cx.2.1.2.1 hP q0 he rfl 0 (by decide) (cx.nok tn_240) (fun _ h9 => h9) hv hd (kk H locs ls hP hD hS hl)
theorem pf_X3_148 (cx : q_cx g p m c cc nL s args RX3 meth)  (hd : decode cc pc = .ok (.putfield 148, 3)) (q0 : Nat) {a : Nat} {fs : List Value} {x : Int64} (he : ws[q0]? = some (a, .inr (2, fs))) (hl9 : 6 < fs.length) (kk : AT p l e R s m args below meth c g nL Q cl sl (pc + 3) lv st (ws.set q0 (a, .inr (2, fs.set 6 (.long x))))) : AT p l e R s m args below meth c g nL Q cl sl pc lv (.long x :: .ref a :: st) ws := fun H locs ls hP hD hS hl => va_putN (C := RX1) (T := TX1) (N := 8) cx.1.1 cx.1.2.1 cx.1.2.2.2.2 iw_X1 tyX1 tyX1_ok nmX1 cx.1.2.2.2.1 cx.2.1.2.1 hP hD hS q0 he rfl 6 (by decide) (cx.nok tn_402) (fun _ h9 => h9) rfl (tyX1_ok 6 (by decide)) rfl rfl hl9 hd (fun H1 locs1 hP hD hS => kk H1 locs1 ls hP hD hS hl)
theorem k_X3_154 (cx : q_cx g p m c cc nL s args RX3 meth) {post : Int32 → va_W → Prop} (hM : MetW l g yJ13_bitCount_95d88 cJ13_bitCount_95d88 2 (some .int) rm As ws (q_Qi g post)) (hd : decode cc pc = .ok (.invokestatic 154, 3)) (hR : rm.frames + 1 ≤ R.frames ∧ 8 + (2 + 11) + rm.locals ≤ R.locals) (hroom : cl + rm.cells ≤ R.cells ∧ sl + rm.slots ≤ R.slots) (hst : st0 = As.reverse ++ st) (hn : As.length = 1) (hW : (st.map fun v => v.category).sum ≤ 8) (kk : ∀ (r : Int32) (u : va_W), post r u → AT p l e R s m args below meth c g nL Q (cl + rm.cells) (sl + rm.slots) (pc + 3) lv (.int r :: st) u) : AT p l e R s m args below meth c g nL Q cl sl pc lv st0 ws := q_Si cx (gi_S tb_435 tb_436 tb_21 tb_437) ⟨by decide +kernel, by decide +kernel, by decide +kernel⟩ hM hd hR hroom hst hn hW kk
theorem k_X3_164 (cx : q_cx g p m c cc nL s args RX3 meth) {post : Int32 → va_W → Prop} (hM : MetW l g yX3_applyRules cX3_applyRules 7 (some .int) rm (.ref b :: As) ws (q_Qi g post)) (hd : decode cc pc = .ok (.invokevirtual 164, 3)) (q0 : Nat) {fs : List Value} (he : ws[q0]? = some (b, .inr (4, fs))) (hR : rm.frames + 1 ≤ R.frames ∧ 8 + (7 + 11) + rm.locals ≤ R.locals) (hroom : cl + rm.cells ≤ R.cells ∧ sl + rm.slots ≤ R.slots) (hst : st0 = As.reverse ++ .ref b :: st) (hn : As.length = 3) (hW : (st.map fun v => v.category).sum ≤ 8) (kk : ∀ (r : Int32) (u : va_W), post r u → AT p l e R s m args below meth c g nL Q (cl + rm.cells) (sl + rm.slots) (pc + 3) lv (.int r :: st) u) : AT p l e R s m args below meth c g nL Q cl sl pc lv st0 ws := q_Vi (C := RX3) (ci := 4) cx (gi_V tb_457 tb_459 ts_12 tb_1 tb_460) ⟨rfl, by decide +kernel, by decide +kernel, by decide +kernel⟩ rfl rfl hM hd q0 he hR hroom hst hn hW kk
theorem gf_X3_168 (cx : q_cx g p m c cc nL s args RX3 meth) (hd : decode cc pc = .ok (.getfield 168, 3)) (q0 : Nat) {a : Nat} {fs : List Value} {v : Value} (he : ws[q0]? = some (a, .inr (1, fs))) (hv : fs[4]? = some v) (kk : AT p l e R s m args below meth c g nL Q cl sl (pc + 3) lv (v :: st) ws) : AT p l e R s m args below meth c g nL Q cl sl pc lv (.ref a :: st) ws := fun H locs ls hP hD hS hl => va_getN (C := RX0) (T := TX0) (N := 6) cx.1.1 cx.1.2.1 cx.1.2.2.2.2 iw_X0 cx.1.2.2.2.1 cx.2.1.2.1 hP q0 he rfl 4 (by decide) (cx.nok tn_248) (fun _ h9 => h9) hv hd (kk H locs ls hP hD hS hl)
theorem gf_X3_36 (cx : q_cx g p m c cc nL s args RX3 meth) (hd : decode cc pc = .ok (.getfield 36, 3)) (q0 : Nat) {a : Nat} {fs : List Value} {v : Value} (he : ws[q0]? = some (a, .inr (4, fs))) (hv : fs[6]? = some v) (kk : AT p l e R s m args below meth c g nL Q cl sl (pc + 3) lv (v :: st) ws) : AT p l e R s m args below meth c g nL Q cl sl pc lv (.ref a :: st) ws := fun H locs ls hP hD hS hl => va_get (C := RX3) (T := TX3) (N := 10) cx.1.1 cx.1.2.1 cx.1.2.2.2.2 iw_X3 cx.1.2.2.2.1 cx.2.1.2.1 hP q0 he rfl 6 (by decide) (cx.ok tb_77) (fun _ h9 => h9) hv hd (kk H locs ls hP hD hS hl)
theorem gf_X3_171 (cx : q_cx g p m c cc nL s args RX3 meth) (hd : decode cc pc = .ok (.getfield 171, 3)) (q0 : Nat) {a : Nat} {fs : List Value} {v : Value} (he : ws[q0]? = some (a, .inr (1, fs))) (hv : fs[5]? = some v) (kk : AT p l e R s m args below meth c g nL Q cl sl (pc + 3) lv (v :: st) ws) : AT p l e R s m args below meth c g nL Q cl sl pc lv (.ref a :: st) ws := fun H locs ls hP hD hS hl => va_getN (C := RX0) (T := TX0) (N := 6) cx.1.1 cx.1.2.1 cx.1.2.2.2.2 iw_X0 cx.1.2.2.2.1 cx.2.1.2.1 hP q0 he rfl 5 (by decide) (cx.nok tn_250) (fun _ h9 => h9) hv hd (kk H locs ls hP hD hS hl)
theorem gf_X3_174 (cx : q_cx g p m c cc nL s args RX3 meth) (hd : decode cc pc = .ok (.getfield 174, 3)) (q0 : Nat) {a : Nat} {fs : List Value} {v : Value} (he : ws[q0]? = some (a, .inr (1, fs))) (hv : fs[2]? = some v) (kk : AT p l e R s m args below meth c g nL Q cl sl (pc + 3) lv (v :: st) ws) : AT p l e R s m args below meth c g nL Q cl sl pc lv (.ref a :: st) ws := fun H locs ls hP hD hS hl => va_getN (C := RX0) (T := TX0) (N := 6) cx.1.1 cx.1.2.1 cx.1.2.2.2.2 iw_X0 cx.1.2.2.2.1 cx.2.1.2.1 hP q0 he rfl 2 (by decide) (cx.nok tn_244) (fun _ h9 => h9) hv hd (kk H locs ls hP hD hS hl)
theorem gf_X3_177 (cx : q_cx g p m c cc nL s args RX3 meth) (hd : decode cc pc = .ok (.getfield 177, 3)) (q0 : Nat) {a : Nat} {fs : List Value} {v : Value} (he : ws[q0]? = some (a, .inr (1, fs))) (hv : fs[3]? = some v) (kk : AT p l e R s m args below meth c g nL Q cl sl (pc + 3) lv (v :: st) ws) : AT p l e R s m args below meth c g nL Q cl sl pc lv (.ref a :: st) ws := fun H locs ls hP hD hS hl => va_getN (C := RX0) (T := TX0) (N := 6) cx.1.1 cx.1.2.1 cx.1.2.2.2.2 iw_X0 cx.1.2.2.2.1 cx.2.1.2.1 hP q0 he rfl 3 (by decide) (cx.nok tn_246) (fun _ h9 => h9) hv hd (kk H locs ls hP hD hS hl)
theorem k_X3_180 (cx : q_cx g p m c cc nL s args RX3 meth) {post : Int32 → va_W → Prop} (hM : MetW l g yX2_countSteps cX2_countSteps 6 (some .int) rm (.ref b :: As) ws (q_Qi g post)) (hd : decode cc pc = .ok (.invokevirtual 180, 3)) (q0 : Nat) {fs : List Value} (he : ws[q0]? = some (b, .inr (3, fs))) (hR : rm.frames + 1 ≤ R.frames ∧ 8 + (6 + 11) + rm.locals ≤ R.locals) (hroom : cl + rm.cells ≤ R.cells ∧ sl + rm.slots ≤ R.slots) (hst : st0 = As.reverse ++ .ref b :: st) (hn : As.length = 2) (hW : (st.map fun v => v.category).sum ≤ 8) (kk : ∀ (r : Int32) (u : va_W), post r u → AT p l e R s m args below meth c g nL Q (cl + rm.cells) (sl + rm.slots) (pc + 3) lv (.int r :: st) u) : AT p l e R s m args below meth c g nL Q cl sl pc lv st0 ws := q_Ni (C := RX2) (ci := 3) cx tn_480 tb_482 ts_16 tb_5 tb_483 ⟨by decide +kernel, by decide +kernel, by decide +kernel⟩ rfl rfl hM hd q0 he hR hroom hst hn hW kk
theorem k_X3_184 (cx : q_cx g p m c cc nL s args RX3 meth) {post : Int32 → va_W → Prop} (hM : MetW l g yX3_mostToldForm cX3_mostToldForm 8 (some .int) rm (.ref b :: As) ws (q_Qi g post)) (hd : decode cc pc = .ok (.invokevirtual 184, 3)) (q0 : Nat) {fs : List Value} (he : ws[q0]? = some (b, .inr (4, fs))) (hR : rm.frames + 1 ≤ R.frames ∧ 8 + (8 + 11) + rm.locals ≤ R.locals) (hroom : cl + rm.cells ≤ R.cells ∧ sl + rm.slots ≤ R.slots) (hst : st0 = As.reverse ++ .ref b :: st) (hn : As.length = 2) (hW : (st.map fun v => v.category).sum ≤ 8) (kk : ∀ (r : Int32) (u : va_W), post r u → AT p l e R s m args below meth c g nL Q (cl + rm.cells) (sl + rm.slots) (pc + 3) lv (.int r :: st) u) : AT p l e R s m args below meth c g nL Q cl sl pc lv st0 ws := q_Vi (C := RX3) (ci := 4) cx (gi_V tb_324 tb_326 ts_6 tb_1 tb_327) ⟨rfl, by decide +kernel, by decide +kernel, by decide +kernel⟩ rfl rfl hM hd q0 he hR hroom hst hn hW kk
theorem k_X3_189 (cx : q_cx g p m c cc nL s args RX3 meth) {post : Int64 → va_W → Prop} (hM : MetW l g yX3_interviewsOf cX3_interviewsOf 6 (some .long) rm (.ref b :: As) ws (q_Ql g post)) (hd : decode cc pc = .ok (.invokevirtual 189, 3)) (q0 : Nat) {fs : List Value} (he : ws[q0]? = some (b, .inr (4, fs))) (hR : rm.frames + 1 ≤ R.frames ∧ 8 + (6 + 11) + rm.locals ≤ R.locals) (hroom : cl + rm.cells ≤ R.cells ∧ sl + rm.slots ≤ R.slots) (hst : st0 = As.reverse ++ .ref b :: st) (hn : As.length = 1) (hW : (st.map fun v => v.category).sum ≤ 8) (kk : ∀ (r : Int64) (u : va_W), post r u → AT p l e R s m args below meth c g nL Q (cl + rm.cells) (sl + rm.slots) (pc + 3) lv (.long r :: st) u) : AT p l e R s m args below meth c g nL Q cl sl pc lv st0 ws := q_Vl (C := RX3) (ci := 4) cx (gi_V tb_518 tb_520 ts_18 tb_1 tb_521) ⟨rfl, by decide +kernel, by decide +kernel, by decide +kernel⟩ rfl rfl hM hd q0 he hR hroom hst hn hW kk
theorem k_X3_195 (cx : q_cx g p m c cc nL s args RX3 meth) {post : va_W → Prop} (hM : MetW l g yX1_restNoMoreOn cX1_restNoMoreOn 3 none rm (.ref b :: As) ws (q_Qv g post)) (hd : decode cc pc = .ok (.invokevirtual 195, 3)) (q0 : Nat) {fs : List Value} (he : ws[q0]? = some (b, .inr (2, fs))) (hR : rm.frames + 1 ≤ R.frames ∧ 8 + (3 + 11) + rm.locals ≤ R.locals) (hroom : cl + rm.cells ≤ R.cells ∧ sl + rm.slots ≤ R.slots) (hst : st0 = As.reverse ++ .ref b :: st) (hn : As.length = 1) (hW : (st.map fun v => v.category).sum ≤ 8) (kk : ∀ (u : va_W), post  u → AT p l e R s m args below meth c g nL Q (cl + rm.cells) (sl + rm.slots) (pc + 3) lv (st) u) : AT p l e R s m args below meth c g nL Q cl sl pc lv st0 ws := q_Nv (C := RX1) (ci := 2) cx tn_523 tb_525 ts_19 tb_20 tb_526 ⟨by decide +kernel, by decide +kernel, by decide +kernel⟩ rfl rfl hM hd q0 he hR hroom hst hn hW kk
theorem gf_X3_29 (cx : q_cx g p m c cc nL s args RX3 meth) (hd : decode cc pc = .ok (.getfield 29, 3)) (q0 : Nat) {a : Nat} {fs : List Value} {v : Value} (he : ws[q0]? = some (a, .inr (4, fs))) (hv : fs[5]? = some v) (kk : AT p l e R s m args below meth c g nL Q cl sl (pc + 3) lv (v :: st) ws) : AT p l e R s m args below meth c g nL Q cl sl pc lv (.ref a :: st) ws := fun H locs ls hP hD hS hl => va_get (C := RX3) (T := TX3) (N := 10) cx.1.1 cx.1.2.1 cx.1.2.2.2.2 iw_X3 cx.1.2.2.2.1 cx.2.1.2.1 hP q0 he rfl 5 (by decide) (cx.ok tb_76) (fun _ h9 => h9) hv hd (kk H locs ls hP hD hS hl)
theorem gf_X3_19 (cx : q_cx g p m c cc nL s args RX3 meth) (hd : decode cc pc = .ok (.getfield 19, 3)) (q0 : Nat) {a : Nat} {fs : List Value} {v : Value} (he : ws[q0]? = some (a, .inr (4, fs))) (hv : fs[2]? = some v) (kk : AT p l e R s m args below meth c g nL Q cl sl (pc + 3) lv (v :: st) ws) : AT p l e R s m args below meth c g nL Q cl sl pc lv (.ref a :: st) ws := fun H locs ls hP hD hS hl => va_get (C := RX3) (T := TX3) (N := 10) cx.1.1 cx.1.2.1 cx.1.2.2.2.2 iw_X3 cx.1.2.2.2.1 cx.2.1.2.1 hP q0 he rfl 2 (by decide) (cx.ok tb_73) (fun _ h9 => h9) hv hd (kk H locs ls hP hD hS hl)
theorem gf_X3_205 (cx : q_cx g p m c cc nL s args RX3 meth) (hd : decode cc pc = .ok (.getfield 205, 3)) (q0 : Nat) {a : Nat} {fs : List Value} {v : Value} (he : ws[q0]? = some (a, .inr (1, fs))) (hv : fs[1]? = some v) (kk : AT p l e R s m args below meth c g nL Q cl sl (pc + 3) lv (v :: st) ws) : AT p l e R s m args below meth c g nL Q cl sl pc lv (.ref a :: st) ws := fun H locs ls hP hD hS hl => va_getN (C := RX0) (T := TX0) (N := 6) cx.1.1 cx.1.2.1 cx.1.2.2.2.2 iw_X0 cx.1.2.2.2.1 cx.2.1.2.1 hP q0 he rfl 1 (by decide) (cx.nok tn_242) (fun _ h9 => h9) hv hd (kk H locs ls hP hD hS hl)
theorem k_X3_208 (cx : q_cx g p m c cc nL s args RX3 meth) {post : Int32 → va_W → Prop} (hM : MetW l g yX1_goesAt cX1_goesAt 3 (some .boolean) rm (.ref b :: As) ws (q_Qi g post)) (hd : decode cc pc = .ok (.invokevirtual 208, 3)) (q0 : Nat) {fs : List Value} (he : ws[q0]? = some (b, .inr (2, fs))) (hR : rm.frames + 1 ≤ R.frames ∧ 8 + (3 + 11) + rm.locals ≤ R.locals) (hroom : cl + rm.cells ≤ R.cells ∧ sl + rm.slots ≤ R.slots) (hst : st0 = As.reverse ++ .ref b :: st) (hn : As.length = 2) (hW : (st.map fun v => v.category).sum ≤ 8) (kk : ∀ (r : Int32) (u : va_W), post r u → AT p l e R s m args below meth c g nL Q (cl + rm.cells) (sl + rm.slots) (pc + 3) lv (.int r :: st) u) : AT p l e R s m args below meth c g nL Q cl sl pc lv st0 ws := q_Ni (C := RX1) (ci := 2) cx tn_461 tb_463 ts_13 tb_20 tb_464 ⟨by decide +kernel, by decide +kernel, by decide +kernel⟩ rfl rfl hM hd q0 he hR hroom hst hn hW kk
theorem k_X3_211 (cx : q_cx g p m c cc nL s args RX3 meth) {post : Int32 → va_W → Prop} (hM : MetW l g yX1_applyTo cX1_applyTo 9 (some .int) rm (.ref b :: As) ws (q_Qi g post)) (hd : decode cc pc = .ok (.invokevirtual 211, 3)) (q0 : Nat) {fs : List Value} (he : ws[q0]? = some (b, .inr (2, fs))) (hR : rm.frames + 1 ≤ R.frames ∧ 8 + (9 + 11) + rm.locals ≤ R.locals) (hroom : cl + rm.cells ≤ R.cells ∧ sl + rm.slots ≤ R.slots) (hst : st0 = As.reverse ++ .ref b :: st) (hn : As.length = 1) (hW : (st.map fun v => v.category).sum ≤ 8) (kk : ∀ (r : Int32) (u : va_W), post r u → AT p l e R s m args below meth c g nL Q (cl + rm.cells) (sl + rm.slots) (pc + 3) lv (.int r :: st) u) : AT p l e R s m args below meth c g nL Q cl sl pc lv st0 ws := q_Ni (C := RX1) (ci := 2) cx tn_465 tb_467 ts_14 tb_20 tb_468 ⟨by decide +kernel, by decide +kernel, by decide +kernel⟩ rfl rfl hM hd q0 he hR hroom hst hn hW kk
theorem k_X3_214 (cx : q_cx g p m c cc nL s args RX3 meth) {post : Int32 → va_W → Prop} (hM : MetW l g yX0_isFor cX0_isFor 3 (some .boolean) rm (.ref b :: As) ws (q_Qi g post)) (hd : decode cc pc = .ok (.invokevirtual 214, 3)) (q0 : Nat) {fs : List Value} (he : ws[q0]? = some (b, .inr (1, fs))) (hR : rm.frames + 1 ≤ R.frames ∧ 8 + (3 + 11) + rm.locals ≤ R.locals) (hroom : cl + rm.cells ≤ R.cells ∧ sl + rm.slots ≤ R.slots) (hst : st0 = As.reverse ++ .ref b :: st) (hn : As.length = 2) (hW : (st.map fun v => v.category).sum ≤ 8) (kk : ∀ (r : Int32) (u : va_W), post r u → AT p l e R s m args below meth c g nL Q (cl + rm.cells) (sl + rm.slots) (pc + 3) lv (.int r :: st) u) : AT p l e R s m args below meth c g nL Q cl sl pc lv st0 ws := q_Ni (C := RX0) (ci := 1) cx tn_346 tb_348 ts_8 tb_14 tb_349 ⟨by decide +kernel, by decide +kernel, by decide +kernel⟩ rfl rfl hM hd q0 he hR hroom hst hn hW kk
theorem k_X3_217 (cx : q_cx g p m c cc nL s args RX3 meth) {post : Int32 → va_W → Prop} (hM : MetW l g yX3_countLike cX3_countLike 5 (some .int) rm (.ref b :: As) ws (q_Qi g post)) (hd : decode cc pc = .ok (.invokevirtual 217, 3)) (q0 : Nat) {fs : List Value} (he : ws[q0]? = some (b, .inr (4, fs))) (hR : rm.frames + 1 ≤ R.frames ∧ 8 + (5 + 11) + rm.locals ≤ R.locals) (hroom : cl + rm.cells ≤ R.cells ∧ sl + rm.slots ≤ R.slots) (hst : st0 = As.reverse ++ .ref b :: st) (hn : As.length = 1) (hW : (st.map fun v => v.category).sum ≤ 8) (kk : ∀ (r : Int32) (u : va_W), post r u → AT p l e R s m args below meth c g nL Q (cl + rm.cells) (sl + rm.slots) (pc + 3) lv (.int r :: st) u) : AT p l e R s m args below meth c g nL Q cl sl pc lv st0 ws := q_Vi (C := RX3) (ci := 4) cx (gi_V tb_350 tb_352 ts_9 tb_1 tb_353) ⟨rfl, by decide +kernel, by decide +kernel, by decide +kernel⟩ rfl rfl hM hd q0 he hR hroom hst hn hW kk
theorem pf_X4_7 (cx : q_cx g p m c cc nL s args RX4 meth) (hnm : meth.name = "<init>") (hd : decode cc pc = .ok (.putfield 7, 3)) (q0 : Nat) {a : Nat} {fs : List Value} {x : Nat} (he : ws[q0]? = some (a, .inr (5, fs))) (hl9 : 2 < fs.length) (kk : AT p l e R s m args below meth c g nL Q cl sl (pc + 3) lv st (ws.set q0 (a, .inr (5, fs.set 2 (.ref x))))) : AT p l e R s m args below meth c g nL Q cl sl pc lv (.ref x :: .ref a :: st) ws := fun H locs ls hP hD hS hl => va_putF (C := RX4) (T := TX4) (N := 27) cx.1.1 cx.1.2.1 cx.1.2.2.2.2 iw_X4 tyX4 tyX4_ok nmX4 cx.1.2.2.2.1 cx.2.1.2.1 hP hD hS q0 he rfl 2 (by decide) (cx.ok tb_574) (fun _ h9 => h9) rfl hnm rfl (tyX4_ok 2 (by decide)) rfl rfl hl9 hd (fun H1 locs1 hP hD hS => kk H1 locs1 ls hP hD hS hl)
theorem pf_X4_13 (cx : q_cx g p m c cc nL s args RX4 meth) (hnm : meth.name = "<init>") (hd : decode cc pc = .ok (.putfield 13, 3)) (q0 : Nat) {a : Nat} {fs : List Value} {x : Nat} (he : ws[q0]? = some (a, .inr (5, fs))) (hl9 : 4 < fs.length) (kk : AT p l e R s m args below meth c g nL Q cl sl (pc + 3) lv st (ws.set q0 (a, .inr (5, fs.set 4 (.ref x))))) : AT p l e R s m args below meth c g nL Q cl sl pc lv (.ref x :: .ref a :: st) ws := fun H locs ls hP hD hS hl => va_putF (C := RX4) (T := TX4) (N := 27) cx.1.1 cx.1.2.1 cx.1.2.2.2.2 iw_X4 tyX4 tyX4_ok nmX4 cx.1.2.2.2.1 cx.2.1.2.1 hP hD hS q0 he rfl 4 (by decide) (cx.ok tb_576) (fun _ h9 => h9) rfl hnm rfl (tyX4_ok 4 (by decide)) rfl rfl hl9 hd (fun H1 locs1 hP hD hS => kk H1 locs1 ls hP hD hS hl)
theorem pf_X4_16 (cx : q_cx g p m c cc nL s args RX4 meth) (hnm : meth.name = "<init>") (hd : decode cc pc = .ok (.putfield 16, 3)) (q0 : Nat) {a : Nat} {fs : List Value} {x : Nat} (he : ws[q0]? = some (a, .inr (5, fs))) (hl9 : 5 < fs.length) (kk : AT p l e R s m args below meth c g nL Q cl sl (pc + 3) lv st (ws.set q0 (a, .inr (5, fs.set 5 (.ref x))))) : AT p l e R s m args below meth c g nL Q cl sl pc lv (.ref x :: .ref a :: st) ws := fun H locs ls hP hD hS hl => va_putF (C := RX4) (T := TX4) (N := 27) cx.1.1 cx.1.2.1 cx.1.2.2.2.2 iw_X4 tyX4 tyX4_ok nmX4 cx.1.2.2.2.1 cx.2.1.2.1 hP hD hS q0 he rfl 5 (by decide) (cx.ok tb_577) (fun _ h9 => h9) rfl hnm rfl (tyX4_ok 5 (by decide)) rfl rfl hl9 hd (fun H1 locs1 hP hD hS => kk H1 locs1 ls hP hD hS hl)
theorem pf_X4_19 (cx : q_cx g p m c cc nL s args RX4 meth) (hnm : meth.name = "<init>") (hd : decode cc pc = .ok (.putfield 19, 3)) (q0 : Nat) {a : Nat} {fs : List Value} {x : Nat} (he : ws[q0]? = some (a, .inr (5, fs))) (hl9 : 6 < fs.length) (kk : AT p l e R s m args below meth c g nL Q cl sl (pc + 3) lv st (ws.set q0 (a, .inr (5, fs.set 6 (.ref x))))) : AT p l e R s m args below meth c g nL Q cl sl pc lv (.ref x :: .ref a :: st) ws := fun H locs ls hP hD hS hl => va_putF (C := RX4) (T := TX4) (N := 27) cx.1.1 cx.1.2.1 cx.1.2.2.2.2 iw_X4 tyX4 tyX4_ok nmX4 cx.1.2.2.2.1 cx.2.1.2.1 hP hD hS q0 he rfl 6 (by decide) (cx.ok tb_578) (fun _ h9 => h9) rfl hnm rfl (tyX4_ok 6 (by decide)) rfl rfl hl9 hd (fun H1 locs1 hP hD hS => kk H1 locs1 ls hP hD hS hl)
theorem pf_X4_22 (cx : q_cx g p m c cc nL s args RX4 meth) (hnm : meth.name = "<init>") (hd : decode cc pc = .ok (.putfield 22, 3)) (q0 : Nat) {a : Nat} {fs : List Value} {x : Nat} (he : ws[q0]? = some (a, .inr (5, fs))) (hl9 : 7 < fs.length) (kk : AT p l e R s m args below meth c g nL Q cl sl (pc + 3) lv st (ws.set q0 (a, .inr (5, fs.set 7 (.ref x))))) : AT p l e R s m args below meth c g nL Q cl sl pc lv (.ref x :: .ref a :: st) ws := fun H locs ls hP hD hS hl => va_putF (C := RX4) (T := TX4) (N := 27) cx.1.1 cx.1.2.1 cx.1.2.2.2.2 iw_X4 tyX4 tyX4_ok nmX4 cx.1.2.2.2.1 cx.2.1.2.1 hP hD hS q0 he rfl 7 (by decide) (cx.ok tb_579) (fun _ h9 => h9) rfl hnm rfl (tyX4_ok 7 (by decide)) rfl rfl hl9 hd (fun H1 locs1 hP hD hS => kk H1 locs1 ls hP hD hS hl)
theorem pf_X4_25 (cx : q_cx g p m c cc nL s args RX4 meth) (hnm : meth.name = "<init>") (hd : decode cc pc = .ok (.putfield 25, 3)) (q0 : Nat) {a : Nat} {fs : List Value} {x : Nat} (he : ws[q0]? = some (a, .inr (5, fs))) (hl9 : 8 < fs.length) (kk : AT p l e R s m args below meth c g nL Q cl sl (pc + 3) lv st (ws.set q0 (a, .inr (5, fs.set 8 (.ref x))))) : AT p l e R s m args below meth c g nL Q cl sl pc lv (.ref x :: .ref a :: st) ws := fun H locs ls hP hD hS hl => va_putF (C := RX4) (T := TX4) (N := 27) cx.1.1 cx.1.2.1 cx.1.2.2.2.2 iw_X4 tyX4 tyX4_ok nmX4 cx.1.2.2.2.1 cx.2.1.2.1 hP hD hS q0 he rfl 8 (by decide) (cx.ok tb_580) (fun _ h9 => h9) rfl hnm rfl (tyX4_ok 8 (by decide)) rfl rfl hl9 hd (fun H1 locs1 hP hD hS => kk H1 locs1 ls hP hD hS hl)
theorem pf_X4_28 (cx : q_cx g p m c cc nL s args RX4 meth) (hnm : meth.name = "<init>") (hd : decode cc pc = .ok (.putfield 28, 3)) (q0 : Nat) {a : Nat} {fs : List Value} {x : Nat} (he : ws[q0]? = some (a, .inr (5, fs))) (hl9 : 9 < fs.length) (kk : AT p l e R s m args below meth c g nL Q cl sl (pc + 3) lv st (ws.set q0 (a, .inr (5, fs.set 9 (.ref x))))) : AT p l e R s m args below meth c g nL Q cl sl pc lv (.ref x :: .ref a :: st) ws := fun H locs ls hP hD hS hl => va_putF (C := RX4) (T := TX4) (N := 27) cx.1.1 cx.1.2.1 cx.1.2.2.2.2 iw_X4 tyX4 tyX4_ok nmX4 cx.1.2.2.2.1 cx.2.1.2.1 hP hD hS q0 he rfl 9 (by decide) (cx.ok tb_581) (fun _ h9 => h9) rfl hnm rfl (tyX4_ok 9 (by decide)) rfl rfl hl9 hd (fun H1 locs1 hP hD hS => kk H1 locs1 ls hP hD hS hl)
theorem pf_X4_32 (cx : q_cx g p m c cc nL s args RX4 meth) (hnm : meth.name = "<init>") (hd : decode cc pc = .ok (.putfield 32, 3)) (q0 : Nat) {a : Nat} {fs : List Value} {x : Nat} (he : ws[q0]? = some (a, .inr (5, fs))) (hl9 : 10 < fs.length) (kk : AT p l e R s m args below meth c g nL Q cl sl (pc + 3) lv st (ws.set q0 (a, .inr (5, fs.set 10 (.ref x))))) : AT p l e R s m args below meth c g nL Q cl sl pc lv (.ref x :: .ref a :: st) ws := fun H locs ls hP hD hS hl => va_putF (C := RX4) (T := TX4) (N := 27) cx.1.1 cx.1.2.1 cx.1.2.2.2.2 iw_X4 tyX4 tyX4_ok nmX4 cx.1.2.2.2.1 cx.2.1.2.1 hP hD hS q0 he rfl 10 (by decide) (cx.ok tb_582) (fun _ h9 => h9) rfl hnm rfl (tyX4_ok 10 (by decide)) rfl rfl hl9 hd (fun H1 locs1 hP hD hS => kk H1 locs1 ls hP hD hS hl)
theorem pf_X4_35 (cx : q_cx g p m c cc nL s args RX4 meth) (hnm : meth.name = "<init>") (hd : decode cc pc = .ok (.putfield 35, 3)) (q0 : Nat) {a : Nat} {fs : List Value} {x : Nat} (he : ws[q0]? = some (a, .inr (5, fs))) (hl9 : 12 < fs.length) (kk : AT p l e R s m args below meth c g nL Q cl sl (pc + 3) lv st (ws.set q0 (a, .inr (5, fs.set 12 (.ref x))))) : AT p l e R s m args below meth c g nL Q cl sl pc lv (.ref x :: .ref a :: st) ws := fun H locs ls hP hD hS hl => va_putF (C := RX4) (T := TX4) (N := 27) cx.1.1 cx.1.2.1 cx.1.2.2.2.2 iw_X4 tyX4 tyX4_ok nmX4 cx.1.2.2.2.1 cx.2.1.2.1 hP hD hS q0 he rfl 12 (by decide) (cx.ok tb_584) (fun _ h9 => h9) rfl hnm rfl (tyX4_ok 12 (by decide)) rfl rfl hl9 hd (fun H1 locs1 hP hD hS => kk H1 locs1 ls hP hD hS hl)
theorem pf_X4_38 (cx : q_cx g p m c cc nL s args RX4 meth) (hnm : meth.name = "<init>") (hd : decode cc pc = .ok (.putfield 38, 3)) (q0 : Nat) {a : Nat} {fs : List Value} {x : Nat} (he : ws[q0]? = some (a, .inr (5, fs))) (hl9 : 13 < fs.length) (kk : AT p l e R s m args below meth c g nL Q cl sl (pc + 3) lv st (ws.set q0 (a, .inr (5, fs.set 13 (.ref x))))) : AT p l e R s m args below meth c g nL Q cl sl pc lv (.ref x :: .ref a :: st) ws := fun H locs ls hP hD hS hl => va_putF (C := RX4) (T := TX4) (N := 27) cx.1.1 cx.1.2.1 cx.1.2.2.2.2 iw_X4 tyX4 tyX4_ok nmX4 cx.1.2.2.2.1 cx.2.1.2.1 hP hD hS q0 he rfl 13 (by decide) (cx.ok tb_585) (fun _ h9 => h9) rfl hnm rfl (tyX4_ok 13 (by decide)) rfl rfl hl9 hd (fun H1 locs1 hP hD hS => kk H1 locs1 ls hP hD hS hl)
theorem pf_X4_41 (cx : q_cx g p m c cc nL s args RX4 meth) (hnm : meth.name = "<init>") (hd : decode cc pc = .ok (.putfield 41, 3)) (q0 : Nat) {a : Nat} {fs : List Value} {x : Nat} (he : ws[q0]? = some (a, .inr (5, fs))) (hl9 : 14 < fs.length) (kk : AT p l e R s m args below meth c g nL Q cl sl (pc + 3) lv st (ws.set q0 (a, .inr (5, fs.set 14 (.ref x))))) : AT p l e R s m args below meth c g nL Q cl sl pc lv (.ref x :: .ref a :: st) ws := fun H locs ls hP hD hS hl => va_putF (C := RX4) (T := TX4) (N := 27) cx.1.1 cx.1.2.1 cx.1.2.2.2.2 iw_X4 tyX4 tyX4_ok nmX4 cx.1.2.2.2.1 cx.2.1.2.1 hP hD hS q0 he rfl 14 (by decide) (cx.ok tb_586) (fun _ h9 => h9) rfl hnm rfl (tyX4_ok 14 (by decide)) rfl rfl hl9 hd (fun H1 locs1 hP hD hS => kk H1 locs1 ls hP hD hS hl)
theorem pf_X4_44 (cx : q_cx g p m c cc nL s args RX4 meth) (hnm : meth.name = "<init>") (hd : decode cc pc = .ok (.putfield 44, 3)) (q0 : Nat) {a : Nat} {fs : List Value} {x : Nat} (he : ws[q0]? = some (a, .inr (5, fs))) (hl9 : 15 < fs.length) (kk : AT p l e R s m args below meth c g nL Q cl sl (pc + 3) lv st (ws.set q0 (a, .inr (5, fs.set 15 (.ref x))))) : AT p l e R s m args below meth c g nL Q cl sl pc lv (.ref x :: .ref a :: st) ws := fun H locs ls hP hD hS hl => va_putF (C := RX4) (T := TX4) (N := 27) cx.1.1 cx.1.2.1 cx.1.2.2.2.2 iw_X4 tyX4 tyX4_ok nmX4 cx.1.2.2.2.1 cx.2.1.2.1 hP hD hS q0 he rfl 15 (by decide) (cx.ok tb_587) (fun _ h9 => h9) rfl hnm rfl (tyX4_ok 15 (by decide)) rfl rfl hl9 hd (fun H1 locs1 hP hD hS => kk H1 locs1 ls hP hD hS hl)
theorem pf_X4_47 (cx : q_cx g p m c cc nL s args RX4 meth) (hnm : meth.name = "<init>") (hd : decode cc pc = .ok (.putfield 47, 3)) (q0 : Nat) {a : Nat} {fs : List Value} {x : Nat} (he : ws[q0]? = some (a, .inr (5, fs))) (hl9 : 16 < fs.length) (kk : AT p l e R s m args below meth c g nL Q cl sl (pc + 3) lv st (ws.set q0 (a, .inr (5, fs.set 16 (.ref x))))) : AT p l e R s m args below meth c g nL Q cl sl pc lv (.ref x :: .ref a :: st) ws := fun H locs ls hP hD hS hl => va_putF (C := RX4) (T := TX4) (N := 27) cx.1.1 cx.1.2.1 cx.1.2.2.2.2 iw_X4 tyX4 tyX4_ok nmX4 cx.1.2.2.2.1 cx.2.1.2.1 hP hD hS q0 he rfl 16 (by decide) (cx.ok tb_588) (fun _ h9 => h9) rfl hnm rfl (tyX4_ok 16 (by decide)) rfl rfl hl9 hd (fun H1 locs1 hP hD hS => kk H1 locs1 ls hP hD hS hl)
theorem pf_X4_50 (cx : q_cx g p m c cc nL s args RX4 meth) (hnm : meth.name = "<init>") (hd : decode cc pc = .ok (.putfield 50, 3)) (q0 : Nat) {a : Nat} {fs : List Value} {x : Nat} (he : ws[q0]? = some (a, .inr (5, fs))) (hl9 : 17 < fs.length) (kk : AT p l e R s m args below meth c g nL Q cl sl (pc + 3) lv st (ws.set q0 (a, .inr (5, fs.set 17 (.ref x))))) : AT p l e R s m args below meth c g nL Q cl sl pc lv (.ref x :: .ref a :: st) ws := fun H locs ls hP hD hS hl => va_putF (C := RX4) (T := TX4) (N := 27) cx.1.1 cx.1.2.1 cx.1.2.2.2.2 iw_X4 tyX4 tyX4_ok nmX4 cx.1.2.2.2.1 cx.2.1.2.1 hP hD hS q0 he rfl 17 (by decide) (cx.ok tb_589) (fun _ h9 => h9) rfl hnm rfl (tyX4_ok 17 (by decide)) rfl rfl hl9 hd (fun H1 locs1 hP hD hS => kk H1 locs1 ls hP hD hS hl)
theorem pf_X4_53 (cx : q_cx g p m c cc nL s args RX4 meth) (hnm : meth.name = "<init>") (hd : decode cc pc = .ok (.putfield 53, 3)) (q0 : Nat) {a : Nat} {fs : List Value} {x : Nat} (he : ws[q0]? = some (a, .inr (5, fs))) (hl9 : 18 < fs.length) (kk : AT p l e R s m args below meth c g nL Q cl sl (pc + 3) lv st (ws.set q0 (a, .inr (5, fs.set 18 (.ref x))))) : AT p l e R s m args below meth c g nL Q cl sl pc lv (.ref x :: .ref a :: st) ws := fun H locs ls hP hD hS hl => va_putF (C := RX4) (T := TX4) (N := 27) cx.1.1 cx.1.2.1 cx.1.2.2.2.2 iw_X4 tyX4 tyX4_ok nmX4 cx.1.2.2.2.1 cx.2.1.2.1 hP hD hS q0 he rfl 18 (by decide) (cx.ok tb_590) (fun _ h9 => h9) rfl hnm rfl (tyX4_ok 18 (by decide)) rfl rfl hl9 hd (fun H1 locs1 hP hD hS => kk H1 locs1 ls hP hD hS hl)
theorem pf_X4_56 (cx : q_cx g p m c cc nL s args RX4 meth) (hnm : meth.name = "<init>") (hd : decode cc pc = .ok (.putfield 56, 3)) (q0 : Nat) {a : Nat} {fs : List Value} {x : Nat} (he : ws[q0]? = some (a, .inr (5, fs))) (hl9 : 19 < fs.length) (kk : AT p l e R s m args below meth c g nL Q cl sl (pc + 3) lv st (ws.set q0 (a, .inr (5, fs.set 19 (.ref x))))) : AT p l e R s m args below meth c g nL Q cl sl pc lv (.ref x :: .ref a :: st) ws := fun H locs ls hP hD hS hl => va_putF (C := RX4) (T := TX4) (N := 27) cx.1.1 cx.1.2.1 cx.1.2.2.2.2 iw_X4 tyX4 tyX4_ok nmX4 cx.1.2.2.2.1 cx.2.1.2.1 hP hD hS q0 he rfl 19 (by decide) (cx.ok tb_591) (fun _ h9 => h9) rfl hnm rfl (tyX4_ok 19 (by decide)) rfl rfl hl9 hd (fun H1 locs1 hP hD hS => kk H1 locs1 ls hP hD hS hl)
theorem pf_X4_60 (cx : q_cx g p m c cc nL s args RX4 meth) (hnm : meth.name = "<init>") (hd : decode cc pc = .ok (.putfield 60, 3)) (q0 : Nat) {a : Nat} {fs : List Value} {x : Nat} (he : ws[q0]? = some (a, .inr (5, fs))) (hl9 : 20 < fs.length) (kk : AT p l e R s m args below meth c g nL Q cl sl (pc + 3) lv st (ws.set q0 (a, .inr (5, fs.set 20 (.ref x))))) : AT p l e R s m args below meth c g nL Q cl sl pc lv (.ref x :: .ref a :: st) ws := fun H locs ls hP hD hS hl => va_putF (C := RX4) (T := TX4) (N := 27) cx.1.1 cx.1.2.1 cx.1.2.2.2.2 iw_X4 tyX4 tyX4_ok nmX4 cx.1.2.2.2.1 cx.2.1.2.1 hP hD hS q0 he rfl 20 (by decide) (cx.ok tb_592) (fun _ h9 => h9) rfl hnm rfl (tyX4_ok 20 (by decide)) rfl rfl hl9 hd (fun H1 locs1 hP hD hS => kk H1 locs1 ls hP hD hS hl)
theorem pf_X4_63 (cx : q_cx g p m c cc nL s args RX4 meth) (hnm : meth.name = "<init>") (hd : decode cc pc = .ok (.putfield 63, 3)) (q0 : Nat) {a : Nat} {fs : List Value} {x : Nat} (he : ws[q0]? = some (a, .inr (5, fs))) (hl9 : 22 < fs.length) (kk : AT p l e R s m args below meth c g nL Q cl sl (pc + 3) lv st (ws.set q0 (a, .inr (5, fs.set 22 (.ref x))))) : AT p l e R s m args below meth c g nL Q cl sl pc lv (.ref x :: .ref a :: st) ws := fun H locs ls hP hD hS hl => va_putF (C := RX4) (T := TX4) (N := 27) cx.1.1 cx.1.2.1 cx.1.2.2.2.2 iw_X4 tyX4 tyX4_ok nmX4 cx.1.2.2.2.1 cx.2.1.2.1 hP hD hS q0 he rfl 22 (by decide) (cx.ok tb_594) (fun _ h9 => h9) rfl hnm rfl (tyX4_ok 22 (by decide)) rfl rfl hl9 hd (fun H1 locs1 hP hD hS => kk H1 locs1 ls hP hD hS hl)
theorem pf_X4_66 (cx : q_cx g p m c cc nL s args RX4 meth) (hnm : meth.name = "<init>") (hd : decode cc pc = .ok (.putfield 66, 3)) (q0 : Nat) {a : Nat} {fs : List Value} {x : Nat} (he : ws[q0]? = some (a, .inr (5, fs))) (hl9 : 23 < fs.length) (kk : AT p l e R s m args below meth c g nL Q cl sl (pc + 3) lv st (ws.set q0 (a, .inr (5, fs.set 23 (.ref x))))) : AT p l e R s m args below meth c g nL Q cl sl pc lv (.ref x :: .ref a :: st) ws := fun H locs ls hP hD hS hl => va_putF (C := RX4) (T := TX4) (N := 27) cx.1.1 cx.1.2.1 cx.1.2.2.2.2 iw_X4 tyX4 tyX4_ok nmX4 cx.1.2.2.2.1 cx.2.1.2.1 hP hD hS q0 he rfl 23 (by decide) (cx.ok tb_595) (fun _ h9 => h9) rfl hnm rfl (tyX4_ok 23 (by decide)) rfl rfl hl9 hd (fun H1 locs1 hP hD hS => kk H1 locs1 ls hP hD hS hl)
theorem pf_X4_69 (cx : q_cx g p m c cc nL s args RX4 meth) (hnm : meth.name = "<init>") (hd : decode cc pc = .ok (.putfield 69, 3)) (q0 : Nat) {a : Nat} {fs : List Value} {x : Nat} (he : ws[q0]? = some (a, .inr (5, fs))) (hl9 : 24 < fs.length) (kk : AT p l e R s m args below meth c g nL Q cl sl (pc + 3) lv st (ws.set q0 (a, .inr (5, fs.set 24 (.ref x))))) : AT p l e R s m args below meth c g nL Q cl sl pc lv (.ref x :: .ref a :: st) ws := fun H locs ls hP hD hS hl => va_putF (C := RX4) (T := TX4) (N := 27) cx.1.1 cx.1.2.1 cx.1.2.2.2.2 iw_X4 tyX4 tyX4_ok nmX4 cx.1.2.2.2.1 cx.2.1.2.1 hP hD hS q0 he rfl 24 (by decide) (cx.ok tb_596) (fun _ h9 => h9) rfl hnm rfl (tyX4_ok 24 (by decide)) rfl rfl hl9 hd (fun H1 locs1 hP hD hS => kk H1 locs1 ls hP hD hS hl)
theorem pf_X4_72 (cx : q_cx g p m c cc nL s args RX4 meth) (hnm : meth.name = "<init>") (hd : decode cc pc = .ok (.putfield 72, 3)) (q0 : Nat) {a : Nat} {fs : List Value} {x : Nat} (he : ws[q0]? = some (a, .inr (5, fs))) (hl9 : 25 < fs.length) (kk : AT p l e R s m args below meth c g nL Q cl sl (pc + 3) lv st (ws.set q0 (a, .inr (5, fs.set 25 (.ref x))))) : AT p l e R s m args below meth c g nL Q cl sl pc lv (.ref x :: .ref a :: st) ws := fun H locs ls hP hD hS hl => va_putF (C := RX4) (T := TX4) (N := 27) cx.1.1 cx.1.2.1 cx.1.2.2.2.2 iw_X4 tyX4 tyX4_ok nmX4 cx.1.2.2.2.1 cx.2.1.2.1 hP hD hS q0 he rfl 25 (by decide) (cx.ok tb_597) (fun _ h9 => h9) rfl hnm rfl (tyX4_ok 25 (by decide)) rfl rfl hl9 hd (fun H1 locs1 hP hD hS => kk H1 locs1 ls hP hD hS hl)
theorem pf_X4_75 (cx : q_cx g p m c cc nL s args RX4 meth) (hnm : meth.name = "<init>") (hd : decode cc pc = .ok (.putfield 75, 3)) (q0 : Nat) {a : Nat} {fs : List Value} {x : Nat} (he : ws[q0]? = some (a, .inr (5, fs))) (hl9 : 26 < fs.length) (kk : AT p l e R s m args below meth c g nL Q cl sl (pc + 3) lv st (ws.set q0 (a, .inr (5, fs.set 26 (.ref x))))) : AT p l e R s m args below meth c g nL Q cl sl pc lv (.ref x :: .ref a :: st) ws := fun H locs ls hP hD hS hl => va_putF (C := RX4) (T := TX4) (N := 27) cx.1.1 cx.1.2.1 cx.1.2.2.2.2 iw_X4 tyX4 tyX4_ok nmX4 cx.1.2.2.2.1 cx.2.1.2.1 hP hD hS q0 he rfl 26 (by decide) (cx.ok tb_598) (fun _ h9 => h9) rfl hnm rfl (tyX4_ok 26 (by decide)) rfl rfl hl9 hd (fun H1 locs1 hP hD hS => kk H1 locs1 ls hP hD hS hl)
theorem gf_X4_32 (cx : q_cx g p m c cc nL s args RX4 meth) (hd : decode cc pc = .ok (.getfield 32, 3)) (q0 : Nat) {a : Nat} {fs : List Value} {v : Value} (he : ws[q0]? = some (a, .inr (5, fs))) (hv : fs[10]? = some v) (kk : AT p l e R s m args below meth c g nL Q cl sl (pc + 3) lv (v :: st) ws) : AT p l e R s m args below meth c g nL Q cl sl pc lv (.ref a :: st) ws := fun H locs ls hP hD hS hl => va_get (C := RX4) (T := TX4) (N := 27) cx.1.1 cx.1.2.1 cx.1.2.2.2.2 iw_X4 cx.1.2.2.2.1 cx.2.1.2.1 hP q0 he rfl 10 (by decide) (cx.ok tb_582) (fun _ h9 => h9) hv hd (kk H locs ls hP hD hS hl)
theorem gf_X4_78 (cx : q_cx g p m c cc nL s args RX4 meth) (hd : decode cc pc = .ok (.getfield 78, 3)) (q0 : Nat) {a : Nat} {fs : List Value} {v : Value} (he : ws[q0]? = some (a, .inr (5, fs))) (hv : fs[0]? = some v) (kk : AT p l e R s m args below meth c g nL Q cl sl (pc + 3) lv (v :: st) ws) : AT p l e R s m args below meth c g nL Q cl sl pc lv (.ref a :: st) ws := fun H locs ls hP hD hS hl => va_get (C := RX4) (T := TX4) (N := 27) cx.1.1 cx.1.2.1 cx.1.2.2.2.2 iw_X4 cx.1.2.2.2.1 cx.2.1.2.1 hP q0 he rfl 0 (by decide) (cx.ok tb_572) (fun _ h9 => h9) hv hd (kk H locs ls hP hD hS hl)
theorem pf_X4_78 (cx : q_cx g p m c cc nL s args RX4 meth)  (hd : decode cc pc = .ok (.putfield 78, 3)) (q0 : Nat) {a : Nat} {fs : List Value} {x : Int32} (he : ws[q0]? = some (a, .inr (5, fs))) (hl9 : 0 < fs.length) (kk : AT p l e R s m args below meth c g nL Q cl sl (pc + 3) lv st (ws.set q0 (a, .inr (5, fs.set 0 (.int x))))) : AT p l e R s m args below meth c g nL Q cl sl pc lv (.int x :: .ref a :: st) ws := fun H locs ls hP hD hS hl => va_put (C := RX4) (T := TX4) (N := 27) cx.1.1 cx.1.2.1 cx.1.2.2.2.2 iw_X4 tyX4 tyX4_ok nmX4 cx.1.2.2.2.1 cx.2.1.2.1 hP hD hS q0 he rfl 0 (by decide) (cx.ok tb_572) (fun _ h9 => h9) rfl (tyX4_ok 0 (by decide)) rfl rfl hl9 hd (fun H1 locs1 hP hD hS => kk H1 locs1 ls hP hD hS hl)
theorem k_X4_82 (cx : q_cx g p m c cc nL s args RX4 meth) {post : Int32 → va_W → Prop} (hM : MetW l g yX4_in cX4_in 3 (some .boolean) rm As ws (q_Qi g post)) (hd : decode cc pc = .ok (.invokestatic 82, 3)) (hR : rm.frames + 1 ≤ R.frames ∧ 8 + (3 + 11) + rm.locals ≤ R.locals) (hroom : cl + rm.cells ≤ R.cells ∧ sl + rm.slots ≤ R.slots) (hst : st0 = As.reverse ++ st) (hn : As.length = 3) (hW : (st.map fun v => v.category).sum ≤ 8) (kk : ∀ (r : Int32) (u : va_W), post r u → AT p l e R s m args below meth c g nL Q (cl + rm.cells) (sl + rm.slots) (pc + 3) lv (.int r :: st) u) : AT p l e R s m args below meth c g nL Q cl sl pc lv st0 ws := q_Si cx (gi_S tb_666 tb_667 tb_7 tb_668) ⟨by decide +kernel, by decide +kernel, by decide +kernel⟩ hM hd hR hroom hst hn hW kk
theorem gf_X4_86 (cx : q_cx g p m c cc nL s args RX4 meth) (hd : decode cc pc = .ok (.getfield 86, 3)) (q0 : Nat) {a : Nat} {fs : List Value} {v : Value} (he : ws[q0]? = some (a, .inr (5, fs))) (hv : fs[3]? = some v) (kk : AT p l e R s m args below meth c g nL Q cl sl (pc + 3) lv (v :: st) ws) : AT p l e R s m args below meth c g nL Q cl sl pc lv (.ref a :: st) ws := fun H locs ls hP hD hS hl => va_get (C := RX4) (T := TX4) (N := 27) cx.1.1 cx.1.2.1 cx.1.2.2.2.2 iw_X4 cx.1.2.2.2.1 cx.2.1.2.1 hP q0 he rfl 3 (by decide) (cx.ok tb_575) (fun _ h9 => h9) hv hd (kk H locs ls hP hD hS hl)
theorem gf_X4_89 (cx : q_cx g p m c cc nL s args RX4 meth) (hd : decode cc pc = .ok (.getfield 89, 3)) (q0 : Nat) {a : Nat} {fs : List Value} {v : Value} (he : ws[q0]? = some (a, .inr (5, fs))) (hv : fs[11]? = some v) (kk : AT p l e R s m args below meth c g nL Q cl sl (pc + 3) lv (v :: st) ws) : AT p l e R s m args below meth c g nL Q cl sl pc lv (.ref a :: st) ws := fun H locs ls hP hD hS hl => va_get (C := RX4) (T := TX4) (N := 27) cx.1.1 cx.1.2.1 cx.1.2.2.2.2 iw_X4 cx.1.2.2.2.1 cx.2.1.2.1 hP q0 he rfl 11 (by decide) (cx.ok tb_583) (fun _ h9 => h9) hv hd (kk H locs ls hP hD hS hl)
theorem gf_X4_7 (cx : q_cx g p m c cc nL s args RX4 meth) (hd : decode cc pc = .ok (.getfield 7, 3)) (q0 : Nat) {a : Nat} {fs : List Value} {v : Value} (he : ws[q0]? = some (a, .inr (5, fs))) (hv : fs[2]? = some v) (kk : AT p l e R s m args below meth c g nL Q cl sl (pc + 3) lv (v :: st) ws) : AT p l e R s m args below meth c g nL Q cl sl pc lv (.ref a :: st) ws := fun H locs ls hP hD hS hl => va_get (C := RX4) (T := TX4) (N := 27) cx.1.1 cx.1.2.1 cx.1.2.2.2.2 iw_X4 cx.1.2.2.2.1 cx.2.1.2.1 hP q0 he rfl 2 (by decide) (cx.ok tb_574) (fun _ h9 => h9) hv hd (kk H locs ls hP hD hS hl)
theorem gf_X4_92 (cx : q_cx g p m c cc nL s args RX4 meth) (hd : decode cc pc = .ok (.getfield 92, 3)) (q0 : Nat) {a : Nat} {fs : List Value} {v : Value} (he : ws[q0]? = some (a, .inr (5, fs))) (hv : fs[1]? = some v) (kk : AT p l e R s m args below meth c g nL Q cl sl (pc + 3) lv (v :: st) ws) : AT p l e R s m args below meth c g nL Q cl sl pc lv (.ref a :: st) ws := fun H locs ls hP hD hS hl => va_get (C := RX4) (T := TX4) (N := 27) cx.1.1 cx.1.2.1 cx.1.2.2.2.2 iw_X4 cx.1.2.2.2.1 cx.2.1.2.1 hP q0 he rfl 1 (by decide) (cx.ok tb_573) (fun _ h9 => h9) hv hd (kk H locs ls hP hD hS hl)
theorem k_X4_95 (cx : q_cx g p m c cc nL s args RX4 meth) {post : Int32 → va_W → Prop} (hM : MetW l g yX4_number cX4_number 4 (some .int) rm As ws (q_Qi g post)) (hd : decode cc pc = .ok (.invokestatic 95, 3)) (hR : rm.frames + 1 ≤ R.frames ∧ 8 + (4 + 11) + rm.locals ≤ R.locals) (hroom : cl + rm.cells ≤ R.cells ∧ sl + rm.slots ≤ R.slots) (hst : st0 = As.reverse ++ st) (hn : As.length = 2) (hW : (st.map fun v => v.category).sum ≤ 8) (kk : ∀ (r : Int32) (u : va_W), post r u → AT p l e R s m args below meth c g nL Q (cl + rm.cells) (sl + rm.slots) (pc + 3) lv (.int r :: st) u) : AT p l e R s m args below meth c g nL Q cl sl pc lv st0 ws := q_Si cx (gi_S tb_687 tb_688 tb_7 tb_689) ⟨by decide +kernel, by decide +kernel, by decide +kernel⟩ hM hd hR hroom hst hn hW kk
theorem pf_X4_92 (cx : q_cx g p m c cc nL s args RX4 meth)  (hd : decode cc pc = .ok (.putfield 92, 3)) (q0 : Nat) {a : Nat} {fs : List Value} {x : Int32} (he : ws[q0]? = some (a, .inr (5, fs))) (hl9 : 1 < fs.length) (kk : AT p l e R s m args below meth c g nL Q cl sl (pc + 3) lv st (ws.set q0 (a, .inr (5, fs.set 1 (.int x))))) : AT p l e R s m args below meth c g nL Q cl sl pc lv (.int x :: .ref a :: st) ws := fun H locs ls hP hD hS hl => va_put (C := RX4) (T := TX4) (N := 27) cx.1.1 cx.1.2.1 cx.1.2.2.2.2 iw_X4 tyX4 tyX4_ok nmX4 cx.1.2.2.2.1 cx.2.1.2.1 hP hD hS q0 he rfl 1 (by decide) (cx.ok tb_573) (fun _ h9 => h9) rfl (tyX4_ok 1 (by decide)) rfl rfl hl9 hd (fun H1 locs1 hP hD hS => kk H1 locs1 ls hP hD hS hl)
theorem k_X4_99 (cx : q_cx g p m c cc nL s args RX4 meth) {post : Int32 → va_W → Prop} (hM : MetW l g yX4_isSound cX4_isSound 1 (some .boolean) rm As ws (q_Qi g post)) (hd : decode cc pc = .ok (.invokestatic 99, 3)) (hR : rm.frames + 1 ≤ R.frames ∧ 8 + (1 + 11) + rm.locals ≤ R.locals) (hroom : cl + rm.cells ≤ R.cells ∧ sl + rm.slots ≤ R.slots) (hst : st0 = As.reverse ++ st) (hn : As.length = 1) (hW : (st.map fun v => v.category).sum ≤ 8) (kk : ∀ (r : Int32) (u : va_W), post r u → AT p l e R s m args below meth c g nL Q (cl + rm.cells) (sl + rm.slots) (pc + 3) lv (.int r :: st) u) : AT p l e R s m args below meth c g nL Q cl sl pc lv st0 ws := q_Si cx (gi_S tb_663 tb_664 tb_7 tb_665) ⟨by decide +kernel, by decide +kernel, by decide +kernel⟩ hM hd hR hroom hst hn hW kk
theorem k_X4_103 (cx : q_cx g p m c cc nL s args RX4 meth) {post : Int32 → va_W → Prop} (hM : MetW l g yX4_fails cX4_fails 2 (some .int) rm (.ref b :: As) ws (q_Qi g post)) (hd : decode cc pc = .ok (.invokevirtual 103, 3)) (q0 : Nat) {fs : List Value} (he : ws[q0]? = some (b, .inr (5, fs))) (hR : rm.frames + 1 ≤ R.frames ∧ 8 + (2 + 11) + rm.locals ≤ R.locals) (hroom : cl + rm.cells ≤ R.cells ∧ sl + rm.slots ≤ R.slots) (hst : st0 = As.reverse ++ .ref b :: st) (hn : As.length = 1) (hW : (st.map fun v => v.category).sum ≤ 8) (kk : ∀ (r : Int32) (u : va_W), post r u → AT p l e R s m args below meth c g nL Q (cl + rm.cells) (sl + rm.slots) (pc + 3) lv (.int r :: st) u) : AT p l e R s m args below meth c g nL Q cl sl pc lv st0 ws := q_Vi (C := RX4) (ci := 5) cx (gi_V tb_669 tb_671 ts_20 tb_7 tb_672) ⟨rfl, by decide +kernel, by decide +kernel, by decide +kernel⟩ rfl rfl hM hd q0 he hR hroom hst hn hW kk
theorem k_X4_107 (cx : q_cx g p m c cc nL s args RX4 meth) {post : Int32 → va_W → Prop} (hM : MetW l g yX4_isPlace cX4_isPlace 1 (some .boolean) rm As ws (q_Qi g post)) (hd : decode cc pc = .ok (.invokestatic 107, 3)) (hR : rm.frames + 1 ≤ R.frames ∧ 8 + (1 + 11) + rm.locals ≤ R.locals) (hroom : cl + rm.cells ≤ R.cells ∧ sl + rm.slots ≤ R.slots) (hst : st0 = As.reverse ++ st) (hn : As.length = 1) (hW : (st.map fun v => v.category).sum ≤ 8) (kk : ∀ (r : Int32) (u : va_W), post r u → AT p l e R s m args below meth c g nL Q (cl + rm.cells) (sl + rm.slots) (pc + 3) lv (.int r :: st) u) : AT p l e R s m args below meth c g nL Q cl sl pc lv st0 ws := q_Si cx (gi_S tb_677 tb_678 tb_7 tb_679) ⟨by decide +kernel, by decide +kernel, by decide +kernel⟩ hM hd hR hroom hst hn hW kk
theorem k_X4_110 (cx : q_cx g p m c cc nL s args RX4 meth) {post : Int32 → va_W → Prop} (hM : MetW l g yX4_isWord cX4_isWord 1 (some .boolean) rm As ws (q_Qi g post)) (hd : decode cc pc = .ok (.invokestatic 110, 3)) (hR : rm.frames + 1 ≤ R.frames ∧ 8 + (1 + 11) + rm.locals ≤ R.locals) (hroom : cl + rm.cells ≤ R.cells ∧ sl + rm.slots ≤ R.slots) (hst : st0 = As.reverse ++ st) (hn : As.length = 1) (hW : (st.map fun v => v.category).sum ≤ 8) (kk : ∀ (r : Int32) (u : va_W), post r u → AT p l e R s m args below meth c g nL Q (cl + rm.cells) (sl + rm.slots) (pc + 3) lv (.int r :: st) u) : AT p l e R s m args below meth c g nL Q cl sl pc lv st0 ws := q_Si cx (gi_S tb_680 tb_681 tb_7 tb_682) ⟨by decide +kernel, by decide +kernel, by decide +kernel⟩ hM hd hR hroom hst hn hW kk
theorem gf_X4_13 (cx : q_cx g p m c cc nL s args RX4 meth) (hd : decode cc pc = .ok (.getfield 13, 3)) (q0 : Nat) {a : Nat} {fs : List Value} {v : Value} (he : ws[q0]? = some (a, .inr (5, fs))) (hv : fs[4]? = some v) (kk : AT p l e R s m args below meth c g nL Q cl sl (pc + 3) lv (v :: st) ws) : AT p l e R s m args below meth c g nL Q cl sl pc lv (.ref a :: st) ws := fun H locs ls hP hD hS hl => va_get (C := RX4) (T := TX4) (N := 27) cx.1.1 cx.1.2.1 cx.1.2.2.2.2 iw_X4 cx.1.2.2.2.1 cx.2.1.2.1 hP q0 he rfl 4 (by decide) (cx.ok tb_576) (fun _ h9 => h9) hv hd (kk H locs ls hP hD hS hl)
theorem gf_X4_16 (cx : q_cx g p m c cc nL s args RX4 meth) (hd : decode cc pc = .ok (.getfield 16, 3)) (q0 : Nat) {a : Nat} {fs : List Value} {v : Value} (he : ws[q0]? = some (a, .inr (5, fs))) (hv : fs[5]? = some v) (kk : AT p l e R s m args below meth c g nL Q cl sl (pc + 3) lv (v :: st) ws) : AT p l e R s m args below meth c g nL Q cl sl pc lv (.ref a :: st) ws := fun H locs ls hP hD hS hl => va_get (C := RX4) (T := TX4) (N := 27) cx.1.1 cx.1.2.1 cx.1.2.2.2.2 iw_X4 cx.1.2.2.2.1 cx.2.1.2.1 hP q0 he rfl 5 (by decide) (cx.ok tb_577) (fun _ h9 => h9) hv hd (kk H locs ls hP hD hS hl)
theorem gf_X4_19 (cx : q_cx g p m c cc nL s args RX4 meth) (hd : decode cc pc = .ok (.getfield 19, 3)) (q0 : Nat) {a : Nat} {fs : List Value} {v : Value} (he : ws[q0]? = some (a, .inr (5, fs))) (hv : fs[6]? = some v) (kk : AT p l e R s m args below meth c g nL Q cl sl (pc + 3) lv (v :: st) ws) : AT p l e R s m args below meth c g nL Q cl sl pc lv (.ref a :: st) ws := fun H locs ls hP hD hS hl => va_get (C := RX4) (T := TX4) (N := 27) cx.1.1 cx.1.2.1 cx.1.2.2.2.2 iw_X4 cx.1.2.2.2.1 cx.2.1.2.1 hP q0 he rfl 6 (by decide) (cx.ok tb_578) (fun _ h9 => h9) hv hd (kk H locs ls hP hD hS hl)
theorem gf_X4_22 (cx : q_cx g p m c cc nL s args RX4 meth) (hd : decode cc pc = .ok (.getfield 22, 3)) (q0 : Nat) {a : Nat} {fs : List Value} {v : Value} (he : ws[q0]? = some (a, .inr (5, fs))) (hv : fs[7]? = some v) (kk : AT p l e R s m args below meth c g nL Q cl sl (pc + 3) lv (v :: st) ws) : AT p l e R s m args below meth c g nL Q cl sl pc lv (.ref a :: st) ws := fun H locs ls hP hD hS hl => va_get (C := RX4) (T := TX4) (N := 27) cx.1.1 cx.1.2.1 cx.1.2.2.2.2 iw_X4 cx.1.2.2.2.1 cx.2.1.2.1 hP q0 he rfl 7 (by decide) (cx.ok tb_579) (fun _ h9 => h9) hv hd (kk H locs ls hP hD hS hl)
theorem gf_X4_25 (cx : q_cx g p m c cc nL s args RX4 meth) (hd : decode cc pc = .ok (.getfield 25, 3)) (q0 : Nat) {a : Nat} {fs : List Value} {v : Value} (he : ws[q0]? = some (a, .inr (5, fs))) (hv : fs[8]? = some v) (kk : AT p l e R s m args below meth c g nL Q cl sl (pc + 3) lv (v :: st) ws) : AT p l e R s m args below meth c g nL Q cl sl pc lv (.ref a :: st) ws := fun H locs ls hP hD hS hl => va_get (C := RX4) (T := TX4) (N := 27) cx.1.1 cx.1.2.1 cx.1.2.2.2.2 iw_X4 cx.1.2.2.2.1 cx.2.1.2.1 hP q0 he rfl 8 (by decide) (cx.ok tb_580) (fun _ h9 => h9) hv hd (kk H locs ls hP hD hS hl)
theorem k_X4_113 (cx : q_cx g p m c cc nL s args RX4 meth) {post : Int32 → va_W → Prop} (hM : MetW l g yX4_drafted cX4_drafted 2 (some .int) rm (.ref b :: As) ws (q_Qi g post)) (hd : decode cc pc = .ok (.invokevirtual 113, 3)) (q0 : Nat) {fs : List Value} (he : ws[q0]? = some (b, .inr (5, fs))) (hR : rm.frames + 1 ≤ R.frames ∧ 8 + (2 + 11) + rm.locals ≤ R.locals) (hroom : cl + rm.cells ≤ R.cells ∧ sl + rm.slots ≤ R.slots) (hst : st0 = As.reverse ++ .ref b :: st) (hn : As.length = 0) (hW : (st.map fun v => v.category).sum ≤ 8) (kk : ∀ (r : Int32) (u : va_W), post r u → AT p l e R s m args below meth c g nL Q (cl + rm.cells) (sl + rm.slots) (pc + 3) lv (.int r :: st) u) : AT p l e R s m args below meth c g nL Q cl sl pc lv st0 ws := q_Vi (C := RX4) (ci := 5) cx (gi_V tb_683 tb_685 ts_21 tb_7 tb_686) ⟨rfl, by decide +kernel, by decide +kernel, by decide +kernel⟩ rfl rfl hM hd q0 he hR hroom hst hn hW kk
theorem pf_X4_86 (cx : q_cx g p m c cc nL s args RX4 meth)  (hd : decode cc pc = .ok (.putfield 86, 3)) (q0 : Nat) {a : Nat} {fs : List Value} {x : Int32} (he : ws[q0]? = some (a, .inr (5, fs))) (hl9 : 3 < fs.length) (kk : AT p l e R s m args below meth c g nL Q cl sl (pc + 3) lv st (ws.set q0 (a, .inr (5, fs.set 3 (.int x))))) : AT p l e R s m args below meth c g nL Q cl sl pc lv (.int x :: .ref a :: st) ws := fun H locs ls hP hD hS hl => va_put (C := RX4) (T := TX4) (N := 27) cx.1.1 cx.1.2.1 cx.1.2.2.2.2 iw_X4 tyX4 tyX4_ok nmX4 cx.1.2.2.2.1 cx.2.1.2.1 hP hD hS q0 he rfl 3 (by decide) (cx.ok tb_575) (fun _ h9 => h9) rfl (tyX4_ok 3 (by decide)) rfl rfl hl9 hd (fun H1 locs1 hP hD hS => kk H1 locs1 ls hP hD hS hl)
theorem k_X4_117 (cx : q_cx g p m c cc nL s args RX4 meth) {post : Int32 → va_W → Prop} (hM : MetW l g yX4_isInterview cX4_isInterview 2 (some .boolean) rm (.ref b :: As) ws (q_Qi g post)) (hd : decode cc pc = .ok (.invokevirtual 117, 3)) (q0 : Nat) {fs : List Value} (he : ws[q0]? = some (b, .inr (5, fs))) (hR : rm.frames + 1 ≤ R.frames ∧ 8 + (2 + 11) + rm.locals ≤ R.locals) (hroom : cl + rm.cells ≤ R.cells ∧ sl + rm.slots ≤ R.slots) (hst : st0 = As.reverse ++ .ref b :: st) (hn : As.length = 1) (hW : (st.map fun v => v.category).sum ≤ 8) (kk : ∀ (r : Int32) (u : va_W), post r u → AT p l e R s m args below meth c g nL Q (cl + rm.cells) (sl + rm.slots) (pc + 3) lv (.int r :: st) u) : AT p l e R s m args below meth c g nL Q cl sl pc lv st0 ws := q_Vi (C := RX4) (ci := 5) cx (gi_V tb_698 tb_700 ts_22 tb_7 tb_701) ⟨rfl, by decide +kernel, by decide +kernel, by decide +kernel⟩ rfl rfl hM hd q0 he hR hroom hst hn hW kk
theorem gf_X4_28 (cx : q_cx g p m c cc nL s args RX4 meth) (hd : decode cc pc = .ok (.getfield 28, 3)) (q0 : Nat) {a : Nat} {fs : List Value} {v : Value} (he : ws[q0]? = some (a, .inr (5, fs))) (hv : fs[9]? = some v) (kk : AT p l e R s m args below meth c g nL Q cl sl (pc + 3) lv (v :: st) ws) : AT p l e R s m args below meth c g nL Q cl sl pc lv (.ref a :: st) ws := fun H locs ls hP hD hS hl => va_get (C := RX4) (T := TX4) (N := 27) cx.1.1 cx.1.2.1 cx.1.2.2.2.2 iw_X4 cx.1.2.2.2.1 cx.2.1.2.1 hP q0 he rfl 9 (by decide) (cx.ok tb_581) (fun _ h9 => h9) hv hd (kk H locs ls hP hD hS hl)
theorem gf_X4_35 (cx : q_cx g p m c cc nL s args RX4 meth) (hd : decode cc pc = .ok (.getfield 35, 3)) (q0 : Nat) {a : Nat} {fs : List Value} {v : Value} (he : ws[q0]? = some (a, .inr (5, fs))) (hv : fs[12]? = some v) (kk : AT p l e R s m args below meth c g nL Q cl sl (pc + 3) lv (v :: st) ws) : AT p l e R s m args below meth c g nL Q cl sl pc lv (.ref a :: st) ws := fun H locs ls hP hD hS hl => va_get (C := RX4) (T := TX4) (N := 27) cx.1.1 cx.1.2.1 cx.1.2.2.2.2 iw_X4 cx.1.2.2.2.1 cx.2.1.2.1 hP q0 he rfl 12 (by decide) (cx.ok tb_584) (fun _ h9 => h9) hv hd (kk H locs ls hP hD hS hl)
theorem gf_X4_38 (cx : q_cx g p m c cc nL s args RX4 meth) (hd : decode cc pc = .ok (.getfield 38, 3)) (q0 : Nat) {a : Nat} {fs : List Value} {v : Value} (he : ws[q0]? = some (a, .inr (5, fs))) (hv : fs[13]? = some v) (kk : AT p l e R s m args below meth c g nL Q cl sl (pc + 3) lv (v :: st) ws) : AT p l e R s m args below meth c g nL Q cl sl pc lv (.ref a :: st) ws := fun H locs ls hP hD hS hl => va_get (C := RX4) (T := TX4) (N := 27) cx.1.1 cx.1.2.1 cx.1.2.2.2.2 iw_X4 cx.1.2.2.2.1 cx.2.1.2.1 hP q0 he rfl 13 (by decide) (cx.ok tb_585) (fun _ h9 => h9) hv hd (kk H locs ls hP hD hS hl)
theorem gf_X4_41 (cx : q_cx g p m c cc nL s args RX4 meth) (hd : decode cc pc = .ok (.getfield 41, 3)) (q0 : Nat) {a : Nat} {fs : List Value} {v : Value} (he : ws[q0]? = some (a, .inr (5, fs))) (hv : fs[14]? = some v) (kk : AT p l e R s m args below meth c g nL Q cl sl (pc + 3) lv (v :: st) ws) : AT p l e R s m args below meth c g nL Q cl sl pc lv (.ref a :: st) ws := fun H locs ls hP hD hS hl => va_get (C := RX4) (T := TX4) (N := 27) cx.1.1 cx.1.2.1 cx.1.2.2.2.2 iw_X4 cx.1.2.2.2.1 cx.2.1.2.1 hP q0 he rfl 14 (by decide) (cx.ok tb_586) (fun _ h9 => h9) hv hd (kk H locs ls hP hD hS hl)
theorem gf_X4_44 (cx : q_cx g p m c cc nL s args RX4 meth) (hd : decode cc pc = .ok (.getfield 44, 3)) (q0 : Nat) {a : Nat} {fs : List Value} {v : Value} (he : ws[q0]? = some (a, .inr (5, fs))) (hv : fs[15]? = some v) (kk : AT p l e R s m args below meth c g nL Q cl sl (pc + 3) lv (v :: st) ws) : AT p l e R s m args below meth c g nL Q cl sl pc lv (.ref a :: st) ws := fun H locs ls hP hD hS hl => va_get (C := RX4) (T := TX4) (N := 27) cx.1.1 cx.1.2.1 cx.1.2.2.2.2 iw_X4 cx.1.2.2.2.1 cx.2.1.2.1 hP q0 he rfl 15 (by decide) (cx.ok tb_587) (fun _ h9 => h9) hv hd (kk H locs ls hP hD hS hl)
theorem gf_X4_47 (cx : q_cx g p m c cc nL s args RX4 meth) (hd : decode cc pc = .ok (.getfield 47, 3)) (q0 : Nat) {a : Nat} {fs : List Value} {v : Value} (he : ws[q0]? = some (a, .inr (5, fs))) (hv : fs[16]? = some v) (kk : AT p l e R s m args below meth c g nL Q cl sl (pc + 3) lv (v :: st) ws) : AT p l e R s m args below meth c g nL Q cl sl pc lv (.ref a :: st) ws := fun H locs ls hP hD hS hl => va_get (C := RX4) (T := TX4) (N := 27) cx.1.1 cx.1.2.1 cx.1.2.2.2.2 iw_X4 cx.1.2.2.2.1 cx.2.1.2.1 hP q0 he rfl 16 (by decide) (cx.ok tb_588) (fun _ h9 => h9) hv hd (kk H locs ls hP hD hS hl)
theorem gf_X4_50 (cx : q_cx g p m c cc nL s args RX4 meth) (hd : decode cc pc = .ok (.getfield 50, 3)) (q0 : Nat) {a : Nat} {fs : List Value} {v : Value} (he : ws[q0]? = some (a, .inr (5, fs))) (hv : fs[17]? = some v) (kk : AT p l e R s m args below meth c g nL Q cl sl (pc + 3) lv (v :: st) ws) : AT p l e R s m args below meth c g nL Q cl sl pc lv (.ref a :: st) ws := fun H locs ls hP hD hS hl => va_get (C := RX4) (T := TX4) (N := 27) cx.1.1 cx.1.2.1 cx.1.2.2.2.2 iw_X4 cx.1.2.2.2.1 cx.2.1.2.1 hP q0 he rfl 17 (by decide) (cx.ok tb_589) (fun _ h9 => h9) hv hd (kk H locs ls hP hD hS hl)
theorem pf_X4_89 (cx : q_cx g p m c cc nL s args RX4 meth)  (hd : decode cc pc = .ok (.putfield 89, 3)) (q0 : Nat) {a : Nat} {fs : List Value} {x : Int32} (he : ws[q0]? = some (a, .inr (5, fs))) (hl9 : 11 < fs.length) (kk : AT p l e R s m args below meth c g nL Q cl sl (pc + 3) lv st (ws.set q0 (a, .inr (5, fs.set 11 (.int x))))) : AT p l e R s m args below meth c g nL Q cl sl pc lv (.int x :: .ref a :: st) ws := fun H locs ls hP hD hS hl => va_put (C := RX4) (T := TX4) (N := 27) cx.1.1 cx.1.2.1 cx.1.2.2.2.2 iw_X4 tyX4 tyX4_ok nmX4 cx.1.2.2.2.1 cx.2.1.2.1 hP hD hS q0 he rfl 11 (by decide) (cx.ok tb_583) (fun _ h9 => h9) rfl (tyX4_ok 11 (by decide)) rfl rfl hl9 hd (fun H1 locs1 hP hD hS => kk H1 locs1 ls hP hD hS hl)
theorem k_X4_120 (cx : q_cx g p m c cc nL s args RX4 meth) {post : Int32 → va_W → Prop} (hM : MetW l g yX4_isRule cX4_isRule 2 (some .boolean) rm (.ref b :: As) ws (q_Qi g post)) (hd : decode cc pc = .ok (.invokevirtual 120, 3)) (q0 : Nat) {fs : List Value} (he : ws[q0]? = some (b, .inr (5, fs))) (hR : rm.frames + 1 ≤ R.frames ∧ 8 + (2 + 11) + rm.locals ≤ R.locals) (hroom : cl + rm.cells ≤ R.cells ∧ sl + rm.slots ≤ R.slots) (hst : st0 = As.reverse ++ .ref b :: st) (hn : As.length = 1) (hW : (st.map fun v => v.category).sum ≤ 8) (kk : ∀ (r : Int32) (u : va_W), post r u → AT p l e R s m args below meth c g nL Q (cl + rm.cells) (sl + rm.slots) (pc + 3) lv (.int r :: st) u) : AT p l e R s m args below meth c g nL Q cl sl pc lv st0 ws := q_Vi (C := RX4) (ci := 5) cx (gi_V tb_710 tb_712 ts_23 tb_7 tb_713) ⟨rfl, by decide +kernel, by decide +kernel, by decide +kernel⟩ rfl rfl hM hd q0 he hR hroom hst hn hW kk
theorem gf_X4_53 (cx : q_cx g p m c cc nL s args RX4 meth) (hd : decode cc pc = .ok (.getfield 53, 3)) (q0 : Nat) {a : Nat} {fs : List Value} {v : Value} (he : ws[q0]? = some (a, .inr (5, fs))) (hv : fs[18]? = some v) (kk : AT p l e R s m args below meth c g nL Q cl sl (pc + 3) lv (v :: st) ws) : AT p l e R s m args below meth c g nL Q cl sl pc lv (.ref a :: st) ws := fun H locs ls hP hD hS hl => va_get (C := RX4) (T := TX4) (N := 27) cx.1.1 cx.1.2.1 cx.1.2.2.2.2 iw_X4 cx.1.2.2.2.1 cx.2.1.2.1 hP q0 he rfl 18 (by decide) (cx.ok tb_590) (fun _ h9 => h9) hv hd (kk H locs ls hP hD hS hl)
theorem gf_X4_56 (cx : q_cx g p m c cc nL s args RX4 meth) (hd : decode cc pc = .ok (.getfield 56, 3)) (q0 : Nat) {a : Nat} {fs : List Value} {v : Value} (he : ws[q0]? = some (a, .inr (5, fs))) (hv : fs[19]? = some v) (kk : AT p l e R s m args below meth c g nL Q cl sl (pc + 3) lv (v :: st) ws) : AT p l e R s m args below meth c g nL Q cl sl pc lv (.ref a :: st) ws := fun H locs ls hP hD hS hl => va_get (C := RX4) (T := TX4) (N := 27) cx.1.1 cx.1.2.1 cx.1.2.2.2.2 iw_X4 cx.1.2.2.2.1 cx.2.1.2.1 hP q0 he rfl 19 (by decide) (cx.ok tb_591) (fun _ h9 => h9) hv hd (kk H locs ls hP hD hS hl)
theorem k_X4_123 (cx : q_cx g p m c cc nL s args RX4 meth) {post : Int32 → va_W → Prop} (hM : MetW l g yX4_count cX4_count 4 (some .int) rm As ws (q_Qi g post)) (hd : decode cc pc = .ok (.invokestatic 123, 3)) (hR : rm.frames + 1 ≤ R.frames ∧ 8 + (4 + 11) + rm.locals ≤ R.locals) (hroom : cl + rm.cells ≤ R.cells ∧ sl + rm.slots ≤ R.slots) (hst : st0 = As.reverse ++ st) (hn : As.length = 1) (hW : (st.map fun v => v.category).sum ≤ 8) (kk : ∀ (r : Int32) (u : va_W), post r u → AT p l e R s m args below meth c g nL Q (cl + rm.cells) (sl + rm.slots) (pc + 3) lv (.int r :: st) u) : AT p l e R s m args below meth c g nL Q cl sl pc lv st0 ws := q_Si cx (gi_S tb_714 tb_715 tb_7 tb_716) ⟨by decide +kernel, by decide +kernel, by decide +kernel⟩ hM hd hR hroom hst hn hW kk
theorem gf_X4_66 (cx : q_cx g p m c cc nL s args RX4 meth) (hd : decode cc pc = .ok (.getfield 66, 3)) (q0 : Nat) {a : Nat} {fs : List Value} {v : Value} (he : ws[q0]? = some (a, .inr (5, fs))) (hv : fs[23]? = some v) (kk : AT p l e R s m args below meth c g nL Q cl sl (pc + 3) lv (v :: st) ws) : AT p l e R s m args below meth c g nL Q cl sl pc lv (.ref a :: st) ws := fun H locs ls hP hD hS hl => va_get (C := RX4) (T := TX4) (N := 27) cx.1.1 cx.1.2.1 cx.1.2.2.2.2 iw_X4 cx.1.2.2.2.1 cx.2.1.2.1 hP q0 he rfl 23 (by decide) (cx.ok tb_595) (fun _ h9 => h9) hv hd (kk H locs ls hP hD hS hl)
theorem gf_X4_69 (cx : q_cx g p m c cc nL s args RX4 meth) (hd : decode cc pc = .ok (.getfield 69, 3)) (q0 : Nat) {a : Nat} {fs : List Value} {v : Value} (he : ws[q0]? = some (a, .inr (5, fs))) (hv : fs[24]? = some v) (kk : AT p l e R s m args below meth c g nL Q cl sl (pc + 3) lv (v :: st) ws) : AT p l e R s m args below meth c g nL Q cl sl pc lv (.ref a :: st) ws := fun H locs ls hP hD hS hl => va_get (C := RX4) (T := TX4) (N := 27) cx.1.1 cx.1.2.1 cx.1.2.2.2.2 iw_X4 cx.1.2.2.2.1 cx.2.1.2.1 hP q0 he rfl 24 (by decide) (cx.ok tb_596) (fun _ h9 => h9) hv hd (kk H locs ls hP hD hS hl)
theorem k_X4_127 (cx : q_cx g p m c cc nL s args RX4 meth) {post : Int32 → va_W → Prop} (hM : MetW l g yX4_lays cX4_lays 5 (some .int) rm As ws (q_Qi g post)) (hd : decode cc pc = .ok (.invokestatic 127, 3)) (hR : rm.frames + 1 ≤ R.frames ∧ 8 + (5 + 11) + rm.locals ≤ R.locals) (hroom : cl + rm.cells ≤ R.cells ∧ sl + rm.slots ≤ R.slots) (hst : st0 = As.reverse ++ st) (hn : As.length = 2) (hW : (st.map fun v => v.category).sum ≤ 8) (kk : ∀ (r : Int32) (u : va_W), post r u → AT p l e R s m args below meth c g nL Q (cl + rm.cells) (sl + rm.slots) (pc + 3) lv (.int r :: st) u) : AT p l e R s m args below meth c g nL Q cl sl pc lv st0 ws := q_Si cx (gi_S tb_729 tb_730 tb_7 tb_731) ⟨by decide +kernel, by decide +kernel, by decide +kernel⟩ hM hd hR hroom hst hn hW kk
theorem k_X4_131 (cx : q_cx g p m c cc nL s args RX4 meth) {post : Int32 → va_W → Prop} (hM : MetW l g yX4_applies cX4_applies 8 (some .int) rm (.ref b :: As) ws (q_Qi g post)) (hd : decode cc pc = .ok (.invokevirtual 131, 3)) (q0 : Nat) {fs : List Value} (he : ws[q0]? = some (b, .inr (5, fs))) (hR : rm.frames + 1 ≤ R.frames ∧ 8 + (8 + 11) + rm.locals ≤ R.locals) (hroom : cl + rm.cells ≤ R.cells ∧ sl + rm.slots ≤ R.slots) (hst : st0 = As.reverse ++ .ref b :: st) (hn : As.length = 2) (hW : (st.map fun v => v.category).sum ≤ 8) (kk : ∀ (r : Int32) (u : va_W), post r u → AT p l e R s m args below meth c g nL Q (cl + rm.cells) (sl + rm.slots) (pc + 3) lv (.int r :: st) u) : AT p l e R s m args below meth c g nL Q cl sl pc lv st0 ws := q_Vi (C := RX4) (ci := 5) cx (gi_V tb_732 tb_734 ts_25 tb_7 tb_735) ⟨rfl, by decide +kernel, by decide +kernel, by decide +kernel⟩ rfl rfl hM hd q0 he hR hroom hst hn hW kk
theorem k_X4_135 (cx : q_cx g p m c cc nL s args RX4 meth) {post : Int32 → va_W → Prop} (hM : MetW l g yX4_expects cX4_expects 6 (some .int) rm (.ref b :: As) ws (q_Qi g post)) (hd : decode cc pc = .ok (.invokevirtual 135, 3)) (q0 : Nat) {fs : List Value} (he : ws[q0]? = some (b, .inr (5, fs))) (hR : rm.frames + 1 ≤ R.frames ∧ 8 + (6 + 11) + rm.locals ≤ R.locals) (hroom : cl + rm.cells ≤ R.cells ∧ sl + rm.slots ≤ R.slots) (hst : st0 = As.reverse ++ .ref b :: st) (hn : As.length = 3) (hW : (st.map fun v => v.category).sum ≤ 8) (kk : ∀ (r : Int32) (u : va_W), post r u → AT p l e R s m args below meth c g nL Q (cl + rm.cells) (sl + rm.slots) (pc + 3) lv (.int r :: st) u) : AT p l e R s m args below meth c g nL Q cl sl pc lv st0 ws := q_Vi (C := RX4) (ci := 5) cx (gi_V tb_725 tb_727 ts_24 tb_7 tb_728) ⟨rfl, by decide +kernel, by decide +kernel, by decide +kernel⟩ rfl rfl hM hd q0 he hR hroom hst hn hW kk
theorem gf_X4_72 (cx : q_cx g p m c cc nL s args RX4 meth) (hd : decode cc pc = .ok (.getfield 72, 3)) (q0 : Nat) {a : Nat} {fs : List Value} {v : Value} (he : ws[q0]? = some (a, .inr (5, fs))) (hv : fs[25]? = some v) (kk : AT p l e R s m args below meth c g nL Q cl sl (pc + 3) lv (v :: st) ws) : AT p l e R s m args below meth c g nL Q cl sl pc lv (.ref a :: st) ws := fun H locs ls hP hD hS hl => va_get (C := RX4) (T := TX4) (N := 27) cx.1.1 cx.1.2.1 cx.1.2.2.2.2 iw_X4 cx.1.2.2.2.1 cx.2.1.2.1 hP q0 he rfl 25 (by decide) (cx.ok tb_597) (fun _ h9 => h9) hv hd (kk H locs ls hP hD hS hl)
theorem gf_X4_75 (cx : q_cx g p m c cc nL s args RX4 meth) (hd : decode cc pc = .ok (.getfield 75, 3)) (q0 : Nat) {a : Nat} {fs : List Value} {v : Value} (he : ws[q0]? = some (a, .inr (5, fs))) (hv : fs[26]? = some v) (kk : AT p l e R s m args below meth c g nL Q cl sl (pc + 3) lv (v :: st) ws) : AT p l e R s m args below meth c g nL Q cl sl pc lv (.ref a :: st) ws := fun H locs ls hP hD hS hl => va_get (C := RX4) (T := TX4) (N := 27) cx.1.1 cx.1.2.1 cx.1.2.2.2.2 iw_X4 cx.1.2.2.2.1 cx.2.1.2.1 hP q0 he rfl 26 (by decide) (cx.ok tb_598) (fun _ h9 => h9) hv hd (kk H locs ls hP hD hS hl)
theorem k_X4_139 (cx : q_cx g p m c cc nL s args RX4 meth) {post : Int32 → va_W → Prop} (hM : MetW l g yX4_distance cX4_distance 10 (some .int) rm (.ref b :: As) ws (q_Qi g post)) (hd : decode cc pc = .ok (.invokevirtual 139, 3)) (q0 : Nat) {fs : List Value} (he : ws[q0]? = some (b, .inr (5, fs))) (hR : rm.frames + 1 ≤ R.frames ∧ 8 + (10 + 11) + rm.locals ≤ R.locals) (hroom : cl + rm.cells ≤ R.cells ∧ sl + rm.slots ≤ R.slots) (hst : st0 = As.reverse ++ .ref b :: st) (hn : As.length = 2) (hW : (st.map fun v => v.category).sum ≤ 8) (kk : ∀ (r : Int32) (u : va_W), post r u → AT p l e R s m args below meth c g nL Q (cl + rm.cells) (sl + rm.slots) (pc + 3) lv (.int r :: st) u) : AT p l e R s m args below meth c g nL Q cl sl pc lv st0 ws := q_Vi (C := RX4) (ci := 5) cx (gi_V tb_740 tb_742 ts_26 tb_7 tb_743) ⟨rfl, by decide +kernel, by decide +kernel, by decide +kernel⟩ rfl rfl hM hd q0 he hR hroom hst hn hW kk
theorem k_X4_142 (cx : q_cx g p m c cc nL s args RX4 meth) {post : Int32 → va_W → Prop} (hM : MetW l g yX4_most cX4_most 8 (some .int) rm (.ref b :: As) ws (q_Qi g post)) (hd : decode cc pc = .ok (.invokevirtual 142, 3)) (q0 : Nat) {fs : List Value} (he : ws[q0]? = some (b, .inr (5, fs))) (hR : rm.frames + 1 ≤ R.frames ∧ 8 + (8 + 11) + rm.locals ≤ R.locals) (hroom : cl + rm.cells ≤ R.cells ∧ sl + rm.slots ≤ R.slots) (hst : st0 = As.reverse ++ .ref b :: st) (hn : As.length = 2) (hW : (st.map fun v => v.category).sum ≤ 8) (kk : ∀ (r : Int32) (u : va_W), post r u → AT p l e R s m args below meth c g nL Q (cl + rm.cells) (sl + rm.slots) (pc + 3) lv (.int r :: st) u) : AT p l e R s m args below meth c g nL Q cl sl pc lv st0 ws := q_Vi (C := RX4) (ci := 5) cx (gi_V tb_748 tb_750 ts_27 tb_7 tb_751) ⟨rfl, by decide +kernel, by decide +kernel, by decide +kernel⟩ rfl rfl hM hd q0 he hR hroom hst hn hW kk
theorem k_X4_145 (cx : q_cx g p m c cc nL s args RX4 meth) {post : Int32 → va_W → Prop} (hM : MetW l g yX4_drawn cX4_drawn 6 (some .int) rm (.ref b :: As) ws (q_Qi g post)) (hd : decode cc pc = .ok (.invokevirtual 145, 3)) (q0 : Nat) {fs : List Value} (he : ws[q0]? = some (b, .inr (5, fs))) (hR : rm.frames + 1 ≤ R.frames ∧ 8 + (6 + 11) + rm.locals ≤ R.locals) (hroom : cl + rm.cells ≤ R.cells ∧ sl + rm.slots ≤ R.slots) (hst : st0 = As.reverse ++ .ref b :: st) (hn : As.length = 1) (hW : (st.map fun v => v.category).sum ≤ 8) (kk : ∀ (r : Int32) (u : va_W), post r u → AT p l e R s m args below meth c g nL Q (cl + rm.cells) (sl + rm.slots) (pc + 3) lv (.int r :: st) u) : AT p l e R s m args below meth c g nL Q cl sl pc lv st0 ws := q_Vi (C := RX4) (ci := 5) cx (gi_V tb_756 tb_758 ts_28 tb_7 tb_759) ⟨rfl, by decide +kernel, by decide +kernel, by decide +kernel⟩ rfl rfl hM hd q0 he hR hroom hst hn hW kk
theorem k_X4_150 (cx : q_cx g p m c cc nL s args RX4 meth) {post : Int32 → va_W → Prop} (hM : MetW l g yX4_isSchool cX4_isSchool 1 (some .boolean) rm As ws (q_Qi g post)) (hd : decode cc pc = .ok (.invokestatic 150, 3)) (hR : rm.frames + 1 ≤ R.frames ∧ 8 + (1 + 11) + rm.locals ≤ R.locals) (hroom : cl + rm.cells ≤ R.cells ∧ sl + rm.slots ≤ R.slots) (hst : st0 = As.reverse ++ st) (hn : As.length = 1) (hW : (st.map fun v => v.category).sum ≤ 8) (kk : ∀ (r : Int32) (u : va_W), post r u → AT p l e R s m args below meth c g nL Q (cl + rm.cells) (sl + rm.slots) (pc + 3) lv (.int r :: st) u) : AT p l e R s m args below meth c g nL Q cl sl pc lv st0 ws := q_Si cx (gi_S tb_773 tb_774 tb_7 tb_775) ⟨by decide +kernel, by decide +kernel, by decide +kernel⟩ hM hd hR hroom hst hn hW kk
theorem gf_X4_60 (cx : q_cx g p m c cc nL s args RX4 meth) (hd : decode cc pc = .ok (.getfield 60, 3)) (q0 : Nat) {a : Nat} {fs : List Value} {v : Value} (he : ws[q0]? = some (a, .inr (5, fs))) (hv : fs[20]? = some v) (kk : AT p l e R s m args below meth c g nL Q cl sl (pc + 3) lv (v :: st) ws) : AT p l e R s m args below meth c g nL Q cl sl pc lv (.ref a :: st) ws := fun H locs ls hP hD hS hl => va_get (C := RX4) (T := TX4) (N := 27) cx.1.1 cx.1.2.1 cx.1.2.2.2.2 iw_X4 cx.1.2.2.2.1 cx.2.1.2.1 hP q0 he rfl 20 (by decide) (cx.ok tb_592) (fun _ h9 => h9) hv hd (kk H locs ls hP hD hS hl)
theorem k_X4_153 (cx : q_cx g p m c cc nL s args RX4 meth) {post : Int64 → va_W → Prop} (hM : MetW l g yX4_there cX4_there 4 (some .long) rm (.ref b :: As) ws (q_Ql g post)) (hd : decode cc pc = .ok (.invokevirtual 153, 3)) (q0 : Nat) {fs : List Value} (he : ws[q0]? = some (b, .inr (5, fs))) (hR : rm.frames + 1 ≤ R.frames ∧ 8 + (4 + 11) + rm.locals ≤ R.locals) (hroom : cl + rm.cells ≤ R.cells ∧ sl + rm.slots ≤ R.slots) (hst : st0 = As.reverse ++ .ref b :: st) (hn : As.length = 0) (hW : (st.map fun v => v.category).sum ≤ 8) (kk : ∀ (r : Int64) (u : va_W), post r u → AT p l e R s m args below meth c g nL Q (cl + rm.cells) (sl + rm.slots) (pc + 3) lv (.long r :: st) u) : AT p l e R s m args below meth c g nL Q cl sl pc lv st0 ws := q_Vl (C := RX4) (ci := 5) cx (gi_V tb_776 tb_778 ts_29 tb_7 tb_779) ⟨rfl, by decide +kernel, by decide +kernel, by decide +kernel⟩ rfl rfl hM hd q0 he hR hroom hst hn hW kk
theorem gf_X4_157 (cx : q_cx g p m c cc nL s args RX4 meth) (hd : decode cc pc = .ok (.getfield 157, 3)) (q0 : Nat) {a : Nat} {fs : List Value} {v : Value} (he : ws[q0]? = some (a, .inr (5, fs))) (hv : fs[21]? = some v) (kk : AT p l e R s m args below meth c g nL Q cl sl (pc + 3) lv (v :: st) ws) : AT p l e R s m args below meth c g nL Q cl sl pc lv (.ref a :: st) ws := fun H locs ls hP hD hS hl => va_get (C := RX4) (T := TX4) (N := 27) cx.1.1 cx.1.2.1 cx.1.2.2.2.2 iw_X4 cx.1.2.2.2.1 cx.2.1.2.1 hP q0 he rfl 21 (by decide) (cx.ok tb_593) (fun _ h9 => h9) hv hd (kk H locs ls hP hD hS hl)
theorem gf_X4_63 (cx : q_cx g p m c cc nL s args RX4 meth) (hd : decode cc pc = .ok (.getfield 63, 3)) (q0 : Nat) {a : Nat} {fs : List Value} {v : Value} (he : ws[q0]? = some (a, .inr (5, fs))) (hv : fs[22]? = some v) (kk : AT p l e R s m args below meth c g nL Q cl sl (pc + 3) lv (v :: st) ws) : AT p l e R s m args below meth c g nL Q cl sl pc lv (.ref a :: st) ws := fun H locs ls hP hD hS hl => va_get (C := RX4) (T := TX4) (N := 27) cx.1.1 cx.1.2.1 cx.1.2.2.2.2 iw_X4 cx.1.2.2.2.1 cx.2.1.2.1 hP q0 he rfl 22 (by decide) (cx.ok tb_594) (fun _ h9 => h9) hv hd (kk H locs ls hP hD hS hl)
theorem pf_X4_157 (cx : q_cx g p m c cc nL s args RX4 meth)  (hd : decode cc pc = .ok (.putfield 157, 3)) (q0 : Nat) {a : Nat} {fs : List Value} {x : Int32} (he : ws[q0]? = some (a, .inr (5, fs))) (hl9 : 21 < fs.length) (kk : AT p l e R s m args below meth c g nL Q cl sl (pc + 3) lv st (ws.set q0 (a, .inr (5, fs.set 21 (.int x))))) : AT p l e R s m args below meth c g nL Q cl sl pc lv (.int x :: .ref a :: st) ws := fun H locs ls hP hD hS hl => va_put (C := RX4) (T := TX4) (N := 27) cx.1.1 cx.1.2.1 cx.1.2.2.2.2 iw_X4 tyX4 tyX4_ok nmX4 cx.1.2.2.2.1 cx.2.1.2.1 hP hD hS q0 he rfl 21 (by decide) (cx.ok tb_593) (fun _ h9 => h9) rfl (tyX4_ok 21 (by decide)) rfl rfl hl9 hd (fun H1 locs1 hP hD hS => kk H1 locs1 ls hP hD hS hl)
theorem k_Jxc12de_1 (cx : q_cx g p m c cc nL s args RJxc12de meth) {post : va_W → Prop} (hM : MetW l g yJxa1e45_init_da8c8 cJxa1e45_init_da8c8 1 none rm (.ref b :: As) ws (q_Qv g post)) (hd : decode cc pc = .ok (.invokespecial 1, 3)) (hR : rm.frames + 1 ≤ R.frames ∧ 8 + (1 + 11) + rm.locals ≤ R.locals) (hroom : cl + rm.cells ≤ R.cells ∧ sl + rm.slots ≤ R.slots) (hst : st0 = As.reverse ++ .ref b :: st) (hn : As.length = 0) (hW : (st.map fun v => v.category).sum ≤ 8) (kk : ∀ (u : va_W), post  u → AT p l e R s m args below meth c g nL Q (cl + rm.cells) (sl + rm.slots) (pc + 3) lv (st) u) : AT p l e R s m args below meth c g nL Q cl sl pc lv st0 ws := q_I cx tb_38 tb_39 tb_2 tb_40 rfl ⟨by decide +kernel, by decide +kernel, by decide +kernel⟩ hM hd hR hroom hst hn hW kk
theorem k_Jx4a65c_1 (cx : q_cx g p m c cc nL s args RJx4a65c meth) {post : va_W → Prop} (hM : MetW l g yJxc12de_init_da8c8 cJxc12de_init_da8c8 1 none rm (.ref b :: As) ws (q_Qv g post)) (hd : decode cc pc = .ok (.invokespecial 1, 3)) (hR : rm.frames + 1 ≤ R.frames ∧ 8 + (1 + 11) + rm.locals ≤ R.locals) (hroom : cl + rm.cells ≤ R.cells ∧ sl + rm.slots ≤ R.slots) (hst : st0 = As.reverse ++ .ref b :: st) (hn : As.length = 0) (hW : (st.map fun v => v.category).sum ≤ 8) (kk : ∀ (u : va_W), post  u → AT p l e R s m args below meth c g nL Q (cl + rm.cells) (sl + rm.slots) (pc + 3) lv (st) u) : AT p l e R s m args below meth c g nL Q cl sl pc lv st0 ws := q_I cx tb_35 tb_36 tb_3 tb_37 rfl ⟨by decide +kernel, by decide +kernel, by decide +kernel⟩ hM hd hR hroom hst hn hW kk
theorem pf_Jx4a65c_9 (cx : q_cx g p m c cc nL s args RJx4a65c meth)  (hd : decode cc pc = .ok (.putfield 9, 3)) (q0 : Nat) {a : Nat} {fs : List Value} {x : Nat} (he : ws[q0]? = some (a, .inr (0, fs))) (hl9 : 1 < fs.length) (kk : AT p l e R s m args below meth c g nL Q cl sl (pc + 3) lv st (ws.set q0 (a, .inr (0, fs.set 1 (.ref x))))) : AT p l e R s m args below meth c g nL Q cl sl pc lv (.ref x :: .ref a :: st) ws := fun H locs ls hP hD hS hl => va_put (C := RJx4a65c) (T := TJx4a65c) (N := 3) cx.1.1 cx.1.2.1 cx.1.2.2.2.2 iw_Jx4a65c tyJx4a65c tyJx4a65c_ok nmJx4a65c cx.1.2.2.2.1 cx.2.1.2.1 hP hD hS q0 he rfl 1 (by decide) (cx.ok tb_44) (fun _ h9 => h9) rfl (tyJx4a65c_ok 1 (by decide)) rfl rfl hl9 hd (fun H1 locs1 hP hD hS => kk H1 locs1 ls hP hD hS hl)
theorem gf_Jx4a65c_9 (cx : q_cx g p m c cc nL s args RJx4a65c meth) (hd : decode cc pc = .ok (.getfield 9, 3)) (q0 : Nat) {a : Nat} {fs : List Value} {v : Value} (he : ws[q0]? = some (a, .inr (0, fs))) (hv : fs[1]? = some v) (kk : AT p l e R s m args below meth c g nL Q cl sl (pc + 3) lv (v :: st) ws) : AT p l e R s m args below meth c g nL Q cl sl pc lv (.ref a :: st) ws := fun H locs ls hP hD hS hl => va_get (C := RJx4a65c) (T := TJx4a65c) (N := 3) cx.1.1 cx.1.2.1 cx.1.2.2.2.2 iw_Jx4a65c cx.1.2.2.2.1 cx.2.1.2.1 hP q0 he rfl 1 (by decide) (cx.ok tb_44) (fun _ h9 => h9) hv hd (kk H locs ls hP hD hS hl)
theorem k_Jx4a65c_73 (cx : q_cx g p m c cc nL s args RJx4a65c meth) {post : Int32 → va_W → Prop} (hM : MetW l g yJ8_newLength_cabcc cJ8_newLength_cabcc 4 (some .int) rm As ws (q_Qi g post)) (hd : decode cc pc = .ok (.invokestatic 73, 3)) (hR : rm.frames + 1 ≤ R.frames ∧ 8 + (4 + 11) + rm.locals ≤ R.locals) (hroom : cl + rm.cells ≤ R.cells ∧ sl + rm.slots ≤ R.slots) (hst : st0 = As.reverse ++ st) (hn : As.length = 3) (hW : (st.map fun v => v.category).sum ≤ 8) (kk : ∀ (r : Int32) (u : va_W), post r u → AT p l e R s m args below meth c g nL Q (cl + rm.cells) (sl + rm.slots) (pc + 3) lv (.int r :: st) u) : AT p l e R s m args below meth c g nL Q cl sl pc lv st0 ws := q_Si cx (gi_S tb_280 tb_281 tb_15 tb_282) ⟨by decide +kernel, by decide +kernel, by decide +kernel⟩ hM hd hR hroom hst hn hW kk
theorem k_Jx4a65c_66 (cx : q_cx g p m c cc nL s args RJx4a65c meth) {post : Option Nat → va_W → Prop} (hM : MetW l g yJ7_copyOf_1904c cJ7_copyOf_1904c 2 (some (.array (.object "java/lang/Object"))) rm As ws (q_Qq g post)) (hd : decode cc pc = .ok (.invokestatic 66, 3)) (hR : rm.frames + 1 ≤ R.frames ∧ 8 + (2 + 11) + rm.locals ≤ R.locals) (hroom : cl + rm.cells ≤ R.cells ∧ sl + rm.slots ≤ R.slots) (hst : st0 = As.reverse ++ st) (hn : As.length = 2) (hW : (st.map fun v => v.category).sum ≤ 8) (kk : ∀ (r : Option Nat) (u : va_W), post r u → AT p l e R s m args below meth c g nL Q (cl + rm.cells) (sl + rm.slots) (pc + 3) lv (va_rf r :: st) u) : AT p l e R s m args below meth c g nL Q cl sl pc lv st0 ws := q_Sq cx (gi_S tb_290 tb_291 tb_6 tb_292) ⟨by decide +kernel, by decide +kernel, by decide +kernel⟩ hM hd hR hroom hst hn hW kk
theorem k_Jx4a65c_79 (cx : q_cx g p m c cc nL s args RJx4a65c meth) {post : Int32 → va_W → Prop} (hM : MetW l g yJ9_max_7cf53 cJ9_max_7cf53 2 (some .int) rm As ws (q_Qi g post)) (hd : decode cc pc = .ok (.invokestatic 79, 3)) (hR : rm.frames + 1 ≤ R.frames ∧ 8 + (2 + 11) + rm.locals ≤ R.locals) (hroom : cl + rm.cells ≤ R.cells ∧ sl + rm.slots ≤ R.slots) (hst : st0 = As.reverse ++ st) (hn : As.length = 2) (hW : (st.map fun v => v.category).sum ≤ 8) (kk : ∀ (r : Int32) (u : va_W), post r u → AT p l e R s m args below meth c g nL Q (cl + rm.cells) (sl + rm.slots) (pc + 3) lv (.int r :: st) u) : AT p l e R s m args below meth c g nL Q cl sl pc lv st0 ws := q_Si cx (gi_S tb_318 tb_284 tb_16 tb_285) ⟨by decide +kernel, by decide +kernel, by decide +kernel⟩ hM hd hR hroom hst hn hW kk
theorem gf_Jx4a65c_48 (cx : q_cx g p m c cc nL s args RJx4a65c meth) (hd : decode cc pc = .ok (.getfield 48, 3)) (q0 : Nat) {a : Nat} {fs : List Value} {v : Value} (he : ws[q0]? = some (a, .inr (0, fs))) (hv : fs[2]? = some v) (kk : AT p l e R s m args below meth c g nL Q cl sl (pc + 3) lv (v :: st) ws) : AT p l e R s m args below meth c g nL Q cl sl pc lv (.ref a :: st) ws := fun H locs ls hP hD hS hl => va_get (C := RJx4a65c) (T := TJx4a65c) (N := 3) cx.1.1 cx.1.2.1 cx.1.2.2.2.2 iw_Jx4a65c cx.1.2.2.2.1 cx.2.1.2.1 hP q0 he rfl 2 (by decide) (cx.ok tb_45) (fun _ h9 => h9) hv hd (kk H locs ls hP hD hS hl)
theorem k_Jx4a65c_69 (cx : q_cx g p m c cc nL s args RJx4a65c meth) {post : Option Nat → va_W → Prop} (hM : MetW l g yJx4a65c_grow_92f84 cJx4a65c_grow_92f84 4 (some (.array (.object "java/lang/Object"))) rm (.ref b :: As) ws (q_Qq g post)) (hd : decode cc pc = .ok (.invokevirtual 69, 3)) (q0 : Nat) {fs : List Value} (he : ws[q0]? = some (b, .inr (0, fs))) (hR : rm.frames + 1 ≤ R.frames ∧ 8 + (4 + 11) + rm.locals ≤ R.locals) (hroom : cl + rm.cells ≤ R.cells ∧ sl + rm.slots ≤ R.slots) (hst : st0 = As.reverse ++ .ref b :: st) (hn : As.length = 1) (hW : (st.map fun v => v.category).sum ≤ 8) (kk : ∀ (r : Option Nat) (u : va_W), post r u → AT p l e R s m args below meth c g nL Q (cl + rm.cells) (sl + rm.slots) (pc + 3) lv (va_rf r :: st) u) : AT p l e R s m args below meth c g nL Q cl sl pc lv st0 ws := q_Vq (C := RJx4a65c) (ci := 0) cx (gi_V tb_276 tb_278 ts_4 tb_4 tb_279) ⟨rfl, by decide +kernel, by decide +kernel, by decide +kernel⟩ rfl rfl hM hd q0 he hR hroom hst hn hW kk
theorem k_Jx4a65c_118 (cx : q_cx g p m c cc nL s args RJx4a65c meth) {post : Int32 → va_W → Prop} (hM : MetW l g yJ15_checkIndex_7cf53 cJ15_checkIndex_7cf53 2 (some .int) rm As ws (q_Qi g post)) (hd : decode cc pc = .ok (.invokestatic 118, 3)) (hR : rm.frames + 1 ≤ R.frames ∧ 8 + (2 + 11) + rm.locals ≤ R.locals) (hroom : cl + rm.cells ≤ R.cells ∧ sl + rm.slots ≤ R.slots) (hst : st0 = As.reverse ++ st) (hn : As.length = 2) (hW : (st.map fun v => v.category).sum ≤ 8) (kk : ∀ (r : Int32) (u : va_W), post r u → AT p l e R s m args below meth c g nL Q (cl + rm.cells) (sl + rm.slots) (pc + 3) lv (.int r :: st) u) : AT p l e R s m args below meth c g nL Q cl sl pc lv st0 ws := q_Si cx (gi_S tb_332 tb_333 tb_18 tb_334) ⟨by decide +kernel, by decide +kernel, by decide +kernel⟩ hM hd hR hroom hst hn hW kk
theorem k_Jx4a65c_123 (cx : q_cx g p m c cc nL s args RJx4a65c meth) {post : Option Nat → va_W → Prop} (hM : MetW l g yJx4a65c_elementData_915e3 cJx4a65c_elementData_915e3 2 (some (.object "java/lang/Object")) rm (.ref b :: As) ws (q_Qq g post)) (hd : decode cc pc = .ok (.invokevirtual 123, 3)) (q0 : Nat) {fs : List Value} (he : ws[q0]? = some (b, .inr (0, fs))) (hR : rm.frames + 1 ≤ R.frames ∧ 8 + (2 + 11) + rm.locals ≤ R.locals) (hroom : cl + rm.cells ≤ R.cells ∧ sl + rm.slots ≤ R.slots) (hst : st0 = As.reverse ++ .ref b :: st) (hn : As.length = 1) (hW : (st.map fun v => v.category).sum ≤ 8) (kk : ∀ (r : Option Nat) (u : va_W), post r u → AT p l e R s m args below meth c g nL Q (cl + rm.cells) (sl + rm.slots) (pc + 3) lv (va_rf r :: st) u) : AT p l e R s m args below meth c g nL Q cl sl pc lv st0 ws := q_Vq (C := RJx4a65c) (ci := 0) cx (gi_V tb_338 tb_339 tb_340 tb_4 tb_341) ⟨rfl, by decide +kernel, by decide +kernel, by decide +kernel⟩ rfl rfl hM hd q0 he hR hroom hst hn hW kk
theorem k_Jx4a65c_129 (cx : q_cx g p m c cc nL s args RJx4a65c meth) {post : Option Nat → va_W → Prop} (hM : MetW l g yJx4a65c_grow_d5877 cJx4a65c_grow_d5877 1 (some (.array (.object "java/lang/Object"))) rm (.ref b :: As) ws (q_Qq g post)) (hd : decode cc pc = .ok (.invokevirtual 129, 3)) (q0 : Nat) {fs : List Value} (he : ws[q0]? = some (b, .inr (0, fs))) (hR : rm.frames + 1 ≤ R.frames ∧ 8 + (1 + 11) + rm.locals ≤ R.locals) (hroom : cl + rm.cells ≤ R.cells ∧ sl + rm.slots ≤ R.slots) (hst : st0 = As.reverse ++ .ref b :: st) (hn : As.length = 0) (hW : (st.map fun v => v.category).sum ≤ 8) (kk : ∀ (r : Option Nat) (u : va_W), post r u → AT p l e R s m args below meth c g nL Q (cl + rm.cells) (sl + rm.slots) (pc + 3) lv (va_rf r :: st) u) : AT p l e R s m args below meth c g nL Q cl sl pc lv st0 ws := q_Vq (C := RJx4a65c) (ci := 0) cx (gi_V tb_272 tb_274 ts_3 tb_4 tb_275) ⟨rfl, by decide +kernel, by decide +kernel, by decide +kernel⟩ rfl rfl hM hd q0 he hR hroom hst hn hW kk
theorem pf_Jx4a65c_48 (cx : q_cx g p m c cc nL s args RJx4a65c meth)  (hd : decode cc pc = .ok (.putfield 48, 3)) (q0 : Nat) {a : Nat} {fs : List Value} {x : Int32} (he : ws[q0]? = some (a, .inr (0, fs))) (hl9 : 2 < fs.length) (kk : AT p l e R s m args below meth c g nL Q cl sl (pc + 3) lv st (ws.set q0 (a, .inr (0, fs.set 2 (.int x))))) : AT p l e R s m args below meth c g nL Q cl sl pc lv (.int x :: .ref a :: st) ws := fun H locs ls hP hD hS hl => va_put (C := RJx4a65c) (T := TJx4a65c) (N := 3) cx.1.1 cx.1.2.1 cx.1.2.2.2.2 iw_Jx4a65c tyJx4a65c tyJx4a65c_ok nmJx4a65c cx.1.2.2.2.1 cx.2.1.2.1 hP hD hS q0 he rfl 2 (by decide) (cx.ok tb_45) (fun _ h9 => h9) rfl (tyJx4a65c_ok 2 (by decide)) rfl rfl hl9 hd (fun H1 locs1 hP hD hS => kk H1 locs1 ls hP hD hS hl)
theorem gf_Jx4a65c_63 (cx : q_cx g p m c cc nL s args RJx4a65c meth) (hd : decode cc pc = .ok (.getfield 63, 3)) (q0 : Nat) {a : Nat} {fs : List Value} {v : Value} (he : ws[q0]? = some (a, .inr (0, fs))) (hv : fs[0]? = some v) (kk : AT p l e R s m args below meth c g nL Q cl sl (pc + 3) lv (v :: st) ws) : AT p l e R s m args below meth c g nL Q cl sl pc lv (.ref a :: st) ws := fun H locs ls hP hD hS hl => va_get (C := RJx4a65c) (T := TJx4a65c) (N := 3) cx.1.1 cx.1.2.1 cx.1.2.2.2.2 iw_Jx4a65c cx.1.2.2.2.1 cx.2.1.2.1 hP q0 he rfl 0 (by decide) (cx.ok tb_47) (fun x h9 => u_same (cx.ok tb_48) x h9) hv hd (kk H locs ls hP hD hS hl)
theorem pf_Jx4a65c_63 (cx : q_cx g p m c cc nL s args RJx4a65c meth)  (hd : decode cc pc = .ok (.putfield 63, 3)) (q0 : Nat) {a : Nat} {fs : List Value} {x : Int32} (he : ws[q0]? = some (a, .inr (0, fs))) (hl9 : 0 < fs.length) (kk : AT p l e R s m args below meth c g nL Q cl sl (pc + 3) lv st (ws.set q0 (a, .inr (0, fs.set 0 (.int x))))) : AT p l e R s m args below meth c g nL Q cl sl pc lv (.int x :: .ref a :: st) ws := fun H locs ls hP hD hS hl => va_put (C := RJx4a65c) (T := TJx4a65c) (N := 3) cx.1.1 cx.1.2.1 cx.1.2.2.2.2 iw_Jx4a65c tyJx4a65c tyJx4a65c_ok nmJx4a65c cx.1.2.2.2.1 cx.2.1.2.1 hP hD hS q0 he rfl 0 (by decide) (cx.ok tb_47) (fun x h9 => u_same (cx.ok tb_48) x h9) rfl (tyJx4a65c_ok 0 (by decide)) rfl rfl hl9 hd (fun H1 locs1 hP hD hS => kk H1 locs1 ls hP hD hS hl)
theorem k_Jx4a65c_131 (cx : q_cx g p m c cc nL s args RJx4a65c meth) {post : va_W → Prop} (hM : MetW l g yJx4a65c_add_72be8 cJx4a65c_add_72be8 4 none rm (.ref b :: As) ws (q_Qv g post)) (hd : decode cc pc = .ok (.invokevirtual 131, 3)) (q0 : Nat) {fs : List Value} (he : ws[q0]? = some (b, .inr (0, fs))) (hR : rm.frames + 1 ≤ R.frames ∧ 8 + (4 + 11) + rm.locals ≤ R.locals) (hroom : cl + rm.cells ≤ R.cells ∧ sl + rm.slots ≤ R.slots) (hst : st0 = As.reverse ++ .ref b :: st) (hn : As.length = 3) (hW : (st.map fun v => v.category).sum ≤ 8) (kk : ∀ (u : va_W), post  u → AT p l e R s m args below meth c g nL Q (cl + rm.cells) (sl + rm.slots) (pc + 3) lv (st) u) : AT p l e R s m args below meth c g nL Q cl sl pc lv st0 ws := q_Vv (C := RJx4a65c) (ci := 0) cx (gi_V tb_268 tb_270 ts_2 tb_4 tb_271) ⟨rfl, by decide +kernel, by decide +kernel, by decide +kernel⟩ rfl rfl hM hd q0 he hR hroom hst hn hW kk
theorem k_J7_300 (cx : q_cx g p m c cc nL s args RJ7 meth) {post : Option Nat → va_W → Prop} (hM : MetW l g yJ7_copyOf_6403c cJ7_copyOf_6403c 4 (some (.array (.object "java/lang/Object"))) rm As ws (q_Qq g post)) (hd : decode cc pc = .ok (.invokestatic 300, 3)) (hR : rm.frames + 1 ≤ R.frames ∧ 8 + (4 + 11) + rm.locals ≤ R.locals) (hroom : cl + rm.cells ≤ R.cells ∧ sl + rm.slots ≤ R.slots) (hst : st0 = As.reverse ++ st) (hn : As.length = 3) (hW : (st.map fun v => v.category).sum ≤ 8) (kk : ∀ (r : Option Nat) (u : va_W), post r u → AT p l e R s m args below meth c g nL Q (cl + rm.cells) (sl + rm.slots) (pc + 3) lv (va_rf r :: st) u) : AT p l e R s m args below meth c g nL Q cl sl pc lv st0 ws := q_Sq cx (gi_S tb_306 tb_307 tb_6 tb_308) ⟨by decide +kernel, by decide +kernel, by decide +kernel⟩ hM hd hR hroom hst hn hW kk
theorem k_J7_304 (cx : q_cx g p m c cc nL s args RJ7 meth) {post : Int32 → va_W → Prop} (hM : MetW l g yJ9_min_7cf53 cJ9_min_7cf53 2 (some .int) rm As ws (q_Qi g post)) (hd : decode cc pc = .ok (.invokestatic 304, 3)) (hR : rm.frames + 1 ≤ R.frames ∧ 8 + (2 + 11) + rm.locals ≤ R.locals) (hroom : cl + rm.cells ≤ R.cells ∧ sl + rm.slots ≤ R.slots) (hst : st0 = As.reverse ++ st) (hn : As.length = 2) (hW : (st.map fun v => v.category).sum ≤ 8) (kk : ∀ (r : Int32) (u : va_W), post r u → AT p l e R s m args below meth c g nL Q (cl + rm.cells) (sl + rm.slots) (pc + 3) lv (.int r :: st) u) : AT p l e R s m args below meth c g nL Q cl sl pc lv st0 ws := q_Si cx (gi_S tb_312 tb_313 tb_16 tb_314) ⟨by decide +kernel, by decide +kernel, by decide +kernel⟩ hM hd hR hroom hst hn hW kk
theorem k_J15_105 (cx : q_cx g p m c cc nL s args RJ15 meth) {post : Int32 → va_W → Prop} (hM : MetW l g yJ3_checkIndex_8e157 cJ3_checkIndex_8e157 3 (some .int) rm As ws (q_Qi g post)) (hd : decode cc pc = .ok (.invokestatic 105, 3)) (hR : rm.frames + 1 ≤ R.frames ∧ 8 + (3 + 11) + rm.locals ≤ R.locals) (hroom : cl + rm.cells ≤ R.cells ∧ sl + rm.slots ≤ R.slots) (hst : st0 = As.reverse ++ st) (hn : As.length = 3) (hW : (st.map fun v => v.category).sum ≤ 8) (kk : ∀ (r : Int32) (u : va_W), post r u → AT p l e R s m args below meth c g nL Q (cl + rm.cells) (sl + rm.slots) (pc + 3) lv (.int r :: st) u) : AT p l e R s m args below meth c g nL Q cl sl pc lv st0 ws := q_Si cx (gi_S tb_335 tb_336 tb_19 tb_337) ⟨by decide +kernel, by decide +kernel, by decide +kernel⟩ hM hd hR hroom hst hn hW kk
theorem k_J8_194 (cx : q_cx g p m c cc nL s args RJ8 meth) {post : Int32 → va_W → Prop} (hM : MetW l g yJ9_max_7cf53 cJ9_max_7cf53 2 (some .int) rm As ws (q_Qi g post)) (hd : decode cc pc = .ok (.invokestatic 194, 3)) (hR : rm.frames + 1 ≤ R.frames ∧ 8 + (2 + 11) + rm.locals ≤ R.locals) (hroom : cl + rm.cells ≤ R.cells ∧ sl + rm.slots ≤ R.slots) (hst : st0 = As.reverse ++ st) (hn : As.length = 2) (hW : (st.map fun v => v.category).sum ≤ 8) (kk : ∀ (r : Int32) (u : va_W), post r u → AT p l e R s m args below meth c g nL Q (cl + rm.cells) (sl + rm.slots) (pc + 3) lv (.int r :: st) u) : AT p l e R s m args below meth c g nL Q cl sl pc lv st0 ws := q_Si cx (gi_S tb_283 tb_284 tb_16 tb_285) ⟨by decide +kernel, by decide +kernel, by decide +kernel⟩ hM hd hR hroom hst hn hW kk
theorem k_J8_201 (cx : q_cx g p m c cc nL s args RJ8 meth) {post : Int32 → va_W → Prop} (hM : MetW l g yJ8_hugeLength_7cf53 cJ8_hugeLength_7cf53 3 (some .int) rm As ws (q_Qi g post)) (hd : decode cc pc = .ok (.invokestatic 201, 3)) (hR : rm.frames + 1 ≤ R.frames ∧ 8 + (3 + 11) + rm.locals ≤ R.locals) (hroom : cl + rm.cells ≤ R.cells ∧ sl + rm.slots ≤ R.slots) (hst : st0 = As.reverse ++ st) (hn : As.length = 2) (hW : (st.map fun v => v.category).sum ≤ 8) (kk : ∀ (r : Int32) (u : va_W), post r u → AT p l e R s m args below meth c g nL Q (cl + rm.cells) (sl + rm.slots) (pc + 3) lv (.int r :: st) u) : AT p l e R s m args below meth c g nL Q cl sl pc lv st0 ws := q_Si cx (gi_S tb_287 tb_288 tb_15 tb_289) ⟨by decide +kernel, by decide +kernel, by decide +kernel⟩ hM hd hR hroom hst hn hW kk
theorem k_L_7 (cx : q_cx g p m c cc nL s args RL meth) {post : Int32 → va_W → Prop} {pe : String → va_W → Prop} (hM : MetX l g yX3_sound cX3_sound 2 (some .int) rm (.ref b :: As) ws (q_Qi g post) pe) (hd : decode cc pc = .ok (.invokevirtual 7, 3)) (q0 : Nat) {fs : List Value} (he : ws[q0]? = some (b, .inr (4, fs))) (hR : rm.frames + 1 ≤ R.frames ∧ 8 + (2 + 11) + rm.locals ≤ R.locals) (hroom : cl + rm.cells ≤ R.cells ∧ sl + rm.slots ≤ R.slots) (hst : st0 = As.reverse ++ .ref b :: st) (hn : As.length = 1) (hW : (st.map fun v => v.category).sum ≤ 8) (kx : ∀ (E : String) (u : va_W), pe E u → ∀ (H : Heap) (locs : List Loc) (ls : Array Slot) (q9 : Addr) (ce : Cell), va_P g.1 vwCl u H → va_D (q_A g) u → va_S (q_A g) s.heap H locs → lv_has ls nL lv → H[q9]? = some ce → ce.vm = .none → s.vm.findClass E = some ce.cls → vx_W p l e R s m args below meth c H locs (cl + rm.cells) (sl + rm.slots) Q (F0 m pc ls st) q9) (kk : ∀ (r : Int32) (u : va_W), post r u → AT p l e R s m args below meth c g nL Q (cl + rm.cells) (sl + rm.slots) (pc + 3) lv (.int r :: st) u) : AT p l e R s m args below meth c g nL Q cl sl pc lv st0 ws := q_Xi (C := RX3) (ci := 4) cx (gi_V tb_107 tb_108 tb_109 tb_1 tb_110) ⟨rfl, by decide +kernel, by decide +kernel, by decide +kernel⟩ rfl rfl hM hd q0 he hR hroom hst hn hW kx kk
theorem k_L_17 (cx : q_cx g p m c cc nL s args RL meth) {post : Int32 → va_W → Prop} {pe : String → va_W → Prop} (hM : MetX l g yX3_interview cX3_interview 8 (some .int) rm (.ref b :: As) ws (q_Qi g post) pe) (hd : decode cc pc = .ok (.invokevirtual 17, 3)) (q0 : Nat) {fs : List Value} (he : ws[q0]? = some (b, .inr (4, fs))) (hR : rm.frames + 1 ≤ R.frames ∧ 8 + (8 + 11) + rm.locals ≤ R.locals) (hroom : cl + rm.cells ≤ R.cells ∧ sl + rm.slots ≤ R.slots) (hst : st0 = As.reverse ++ .ref b :: st) (hn : As.length = 4) (hW : (st.map fun v => v.category).sum ≤ 8) (kx : ∀ (E : String) (u : va_W), pe E u → ∀ (H : Heap) (locs : List Loc) (ls : Array Slot) (q9 : Addr) (ce : Cell), va_P g.1 vwCl u H → va_D (q_A g) u → va_S (q_A g) s.heap H locs → lv_has ls nL lv → H[q9]? = some ce → ce.vm = .none → s.vm.findClass E = some ce.cls → vx_W p l e R s m args below meth c H locs (cl + rm.cells) (sl + rm.slots) Q (F0 m pc ls st) q9) (kk : ∀ (r : Int32) (u : va_W), post r u → AT p l e R s m args below meth c g nL Q (cl + rm.cells) (sl + rm.slots) (pc + 3) lv (.int r :: st) u) : AT p l e R s m args below meth c g nL Q cl sl pc lv st0 ws := q_Xi (C := RX3) (ci := 4) cx (gi_V tb_202 tb_203 tb_204 tb_1 tb_205) ⟨rfl, by decide +kernel, by decide +kernel, by decide +kernel⟩ rfl rfl hM hd q0 he hR hroom hst hn hW kx kk
theorem k_L_23 (cx : q_cx g p m c cc nL s args RL meth) {post : Int32 → va_W → Prop} {pe : String → va_W → Prop} (hM : MetX l g yX3_setRoot cX3_setRoot 3 (some .int) rm (.ref b :: As) ws (q_Qi g post) pe) (hd : decode cc pc = .ok (.invokevirtual 23, 3)) (q0 : Nat) {fs : List Value} (he : ws[q0]? = some (b, .inr (4, fs))) (hR : rm.frames + 1 ≤ R.frames ∧ 8 + (3 + 11) + rm.locals ≤ R.locals) (hroom : cl + rm.cells ≤ R.cells ∧ sl + rm.slots ≤ R.slots) (hst : st0 = As.reverse ++ .ref b :: st) (hn : As.length = 1) (hW : (st.map fun v => v.category).sum ≤ 8) (kx : ∀ (E : String) (u : va_W), pe E u → ∀ (H : Heap) (locs : List Loc) (ls : Array Slot) (q9 : Addr) (ce : Cell), va_P g.1 vwCl u H → va_D (q_A g) u → va_S (q_A g) s.heap H locs → lv_has ls nL lv → H[q9]? = some ce → ce.vm = .none → s.vm.findClass E = some ce.cls → vx_W p l e R s m args below meth c H locs (cl + rm.cells) (sl + rm.slots) Q (F0 m pc ls st) q9) (kk : ∀ (r : Int32) (u : va_W), post r u → AT p l e R s m args below meth c g nL Q (cl + rm.cells) (sl + rm.slots) (pc + 3) lv (.int r :: st) u) : AT p l e R s m args below meth c g nL Q cl sl pc lv st0 ws := q_Xi (C := RX3) (ci := 4) cx (gi_V tb_357 tb_358 tb_359 tb_1 tb_360) ⟨rfl, by decide +kernel, by decide +kernel, by decide +kernel⟩ rfl rfl hM hd q0 he hR hroom hst hn hW kx kk
theorem k_L_26 (cx : q_cx g p m c cc nL s args RL meth) {post : Int32 → va_W → Prop} {pe : String → va_W → Prop} (hM : MetX l g yX3_form cX3_form 2 (some .int) rm (.ref b :: As) ws (q_Qi g post) pe) (hd : decode cc pc = .ok (.invokevirtual 26, 3)) (q0 : Nat) {fs : List Value} (he : ws[q0]? = some (b, .inr (4, fs))) (hR : rm.frames + 1 ≤ R.frames ∧ 8 + (2 + 11) + rm.locals ≤ R.locals) (hroom : cl + rm.cells ≤ R.cells ∧ sl + rm.slots ≤ R.slots) (hst : st0 = As.reverse ++ .ref b :: st) (hn : As.length = 1) (hW : (st.map fun v => v.category).sum ≤ 8) (kx : ∀ (E : String) (u : va_W), pe E u → ∀ (H : Heap) (locs : List Loc) (ls : Array Slot) (q9 : Addr) (ce : Cell), va_P g.1 vwCl u H → va_D (q_A g) u → va_S (q_A g) s.heap H locs → lv_has ls nL lv → H[q9]? = some ce → ce.vm = .none → s.vm.findClass E = some ce.cls → vx_W p l e R s m args below meth c H locs (cl + rm.cells) (sl + rm.slots) Q (F0 m pc ls st) q9) (kk : ∀ (r : Int32) (u : va_W), post r u → AT p l e R s m args below meth c g nL Q (cl + rm.cells) (sl + rm.slots) (pc + 3) lv (.int r :: st) u) : AT p l e R s m args below meth c g nL Q cl sl pc lv st0 ws := q_Xi (C := RX3) (ci := 4) cx (gi_V tb_366 tb_367 tb_368 tb_1 tb_369) ⟨rfl, by decide +kernel, by decide +kernel, by decide +kernel⟩ rfl rfl hM hd q0 he hR hroom hst hn hW kx kk
theorem k_L_29 (cx : q_cx g p m c cc nL s args RL meth) {post : Int32 → va_W → Prop} {pe : String → va_W → Prop} (hM : MetX l g yX3_rule cX3_rule 8 (some .int) rm (.ref b :: As) ws (q_Qi g post) pe) (hd : decode cc pc = .ok (.invokevirtual 29, 3)) (q0 : Nat) {fs : List Value} (he : ws[q0]? = some (b, .inr (4, fs))) (hR : rm.frames + 1 ≤ R.frames ∧ 8 + (8 + 11) + rm.locals ≤ R.locals) (hroom : cl + rm.cells ≤ R.cells ∧ sl + rm.slots ≤ R.slots) (hst : st0 = As.reverse ++ .ref b :: st) (hn : As.length = 6) (hW : (st.map fun v => v.category).sum ≤ 8) (kx : ∀ (E : String) (u : va_W), pe E u → ∀ (H : Heap) (locs : List Loc) (ls : Array Slot) (q9 : Addr) (ce : Cell), va_P g.1 vwCl u H → va_D (q_A g) u → va_S (q_A g) s.heap H locs → lv_has ls nL lv → H[q9]? = some ce → ce.vm = .none → s.vm.findClass E = some ce.cls → vx_W p l e R s m args below meth c H locs (cl + rm.cells) (sl + rm.slots) Q (F0 m pc ls st) q9) (kk : ∀ (r : Int32) (u : va_W), post r u → AT p l e R s m args below meth c g nL Q (cl + rm.cells) (sl + rm.slots) (pc + 3) lv (.int r :: st) u) : AT p l e R s m args below meth c g nL Q cl sl pc lv st0 ws := q_Xi (C := RX3) (ci := 4) cx (gi_V tb_378 tb_379 tb_380 tb_1 tb_381) ⟨rfl, by decide +kernel, by decide +kernel, by decide +kernel⟩ rfl rfl hM hd q0 he hR hroom hst hn hW kx kk
theorem k_L_33 (cx : q_cx g p m c cc nL s args RL meth) {post : Int32 → va_W → Prop} {pe : String → va_W → Prop} (hM : MetX l g yX3_rest cX3_rest 5 (some .int) rm (.ref b :: As) ws (q_Qi g post) pe) (hd : decode cc pc = .ok (.invokevirtual 33, 3)) (q0 : Nat) {fs : List Value} (he : ws[q0]? = some (b, .inr (4, fs))) (hR : rm.frames + 1 ≤ R.frames ∧ 8 + (5 + 11) + rm.locals ≤ R.locals) (hroom : cl + rm.cells ≤ R.cells ∧ sl + rm.slots ≤ R.slots) (hst : st0 = As.reverse ++ .ref b :: st) (hn : As.length = 2) (hW : (st.map fun v => v.category).sum ≤ 8) (kx : ∀ (E : String) (u : va_W), pe E u → ∀ (H : Heap) (locs : List Loc) (ls : Array Slot) (q9 : Addr) (ce : Cell), va_P g.1 vwCl u H → va_D (q_A g) u → va_S (q_A g) s.heap H locs → lv_has ls nL lv → H[q9]? = some ce → ce.vm = .none → s.vm.findClass E = some ce.cls → vx_W p l e R s m args below meth c H locs (cl + rm.cells) (sl + rm.slots) Q (F0 m pc ls st) q9) (kk : ∀ (r : Int32) (u : va_W), post r u → AT p l e R s m args below meth c g nL Q (cl + rm.cells) (sl + rm.slots) (pc + 3) lv (.int r :: st) u) : AT p l e R s m args below meth c g nL Q cl sl pc lv st0 ws := q_Xi (C := RX3) (ci := 4) cx (gi_V tb_425 tb_426 tb_427 tb_1 tb_428) ⟨rfl, by decide +kernel, by decide +kernel, by decide +kernel⟩ rfl rfl hM hd q0 he hR hroom hst hn hW kx kk
theorem k_L_37 (cx : q_cx g p m c cc nL s args RL meth) {post : Int32 → va_W → Prop} {pe : String → va_W → Prop} (hM : MetX l g yX3_stands cX3_stands 2 (some .boolean) rm (.ref b :: As) ws (q_Qi g post) pe) (hd : decode cc pc = .ok (.invokevirtual 37, 3)) (q0 : Nat) {fs : List Value} (he : ws[q0]? = some (b, .inr (4, fs))) (hR : rm.frames + 1 ≤ R.frames ∧ 8 + (2 + 11) + rm.locals ≤ R.locals) (hroom : cl + rm.cells ≤ R.cells ∧ sl + rm.slots ≤ R.slots) (hst : st0 = As.reverse ++ .ref b :: st) (hn : As.length = 1) (hW : (st.map fun v => v.category).sum ≤ 8) (kx : ∀ (E : String) (u : va_W), pe E u → ∀ (H : Heap) (locs : List Loc) (ls : Array Slot) (q9 : Addr) (ce : Cell), va_P g.1 vwCl u H → va_D (q_A g) u → va_S (q_A g) s.heap H locs → lv_has ls nL lv → H[q9]? = some ce → ce.vm = .none → s.vm.findClass E = some ce.cls → vx_W p l e R s m args below meth c H locs (cl + rm.cells) (sl + rm.slots) Q (F0 m pc ls st) q9) (kk : ∀ (r : Int32) (u : va_W), post r u → AT p l e R s m args below meth c g nL Q (cl + rm.cells) (sl + rm.slots) (pc + 3) lv (.int r :: st) u) : AT p l e R s m args below meth c g nL Q cl sl pc lv st0 ws := q_Xi (C := RX3) (ci := 4) cx (gi_V tb_444 tb_445 tb_446 tb_1 tb_447) ⟨rfl, by decide +kernel, by decide +kernel, by decide +kernel⟩ rfl rfl hM hd q0 he hR hroom hst hn hW kx kk
theorem k_L_41 (cx : q_cx g p m c cc nL s args RL meth) {post : Int32 → va_W → Prop} {pe : String → va_W → Prop} (hM : MetX l g yX3_expected cX3_expected 4 (some .int) rm (.ref b :: As) ws (q_Qi g post) pe) (hd : decode cc pc = .ok (.invokevirtual 41, 3)) (q0 : Nat) {fs : List Value} (he : ws[q0]? = some (b, .inr (4, fs))) (hR : rm.frames + 1 ≤ R.frames ∧ 8 + (4 + 11) + rm.locals ≤ R.locals) (hroom : cl + rm.cells ≤ R.cells ∧ sl + rm.slots ≤ R.slots) (hst : st0 = As.reverse ++ .ref b :: st) (hn : As.length = 3) (hW : (st.map fun v => v.category).sum ≤ 8) (kx : ∀ (E : String) (u : va_W), pe E u → ∀ (H : Heap) (locs : List Loc) (ls : Array Slot) (q9 : Addr) (ce : Cell), va_P g.1 vwCl u H → va_D (q_A g) u → va_S (q_A g) s.heap H locs → lv_has ls nL lv → H[q9]? = some ce → ce.vm = .none → s.vm.findClass E = some ce.cls → vx_W p l e R s m args below meth c H locs (cl + rm.cells) (sl + rm.slots) Q (F0 m pc ls st) q9) (kk : ∀ (r : Int32) (u : va_W), post r u → AT p l e R s m args below meth c g nL Q (cl + rm.cells) (sl + rm.slots) (pc + 3) lv (.int r :: st) u) : AT p l e R s m args below meth c g nL Q cl sl pc lv st0 ws := q_Xi (C := RX3) (ci := 4) cx (gi_V tb_452 tb_453 tb_454 tb_1 tb_455) ⟨rfl, by decide +kernel, by decide +kernel, by decide +kernel⟩ rfl rfl hM hd q0 he hR hroom hst hn hW kx kk
theorem k_L_45 (cx : q_cx g p m c cc nL s args RL meth) {post : Int32 → va_W → Prop} {pe : String → va_W → Prop} (hM : MetX l g yX3_far cX3_far 4 (some .int) rm (.ref b :: As) ws (q_Qi g post) pe) (hd : decode cc pc = .ok (.invokevirtual 45, 3)) (q0 : Nat) {fs : List Value} (he : ws[q0]? = some (b, .inr (4, fs))) (hR : rm.frames + 1 ≤ R.frames ∧ 8 + (4 + 11) + rm.locals ≤ R.locals) (hroom : cl + rm.cells ≤ R.cells ∧ sl + rm.slots ≤ R.slots) (hst : st0 = As.reverse ++ .ref b :: st) (hn : As.length = 1) (hW : (st.map fun v => v.category).sum ≤ 8) (kx : ∀ (E : String) (u : va_W), pe E u → ∀ (H : Heap) (locs : List Loc) (ls : Array Slot) (q9 : Addr) (ce : Cell), va_P g.1 vwCl u H → va_D (q_A g) u → va_S (q_A g) s.heap H locs → lv_has ls nL lv → H[q9]? = some ce → ce.vm = .none → s.vm.findClass E = some ce.cls → vx_W p l e R s m args below meth c H locs (cl + rm.cells) (sl + rm.slots) Q (F0 m pc ls st) q9) (kk : ∀ (r : Int32) (u : va_W), post r u → AT p l e R s m args below meth c g nL Q (cl + rm.cells) (sl + rm.slots) (pc + 3) lv (.int r :: st) u) : AT p l e R s m args below meth c g nL Q cl sl pc lv st0 ws := q_Xi (C := RX3) (ci := 4) cx (gi_V tb_476 tb_477 tb_478 tb_1 tb_479) ⟨rfl, by decide +kernel, by decide +kernel, by decide +kernel⟩ rfl rfl hM hd q0 he hR hroom hst hn hW kx kk
theorem k_L_48 (cx : q_cx g p m c cc nL s args RL meth) {post : Int32 → va_W → Prop} {pe : String → va_W → Prop} (hM : MetX l g yX3_formAt cX3_formAt 3 (some .int) rm (.ref b :: As) ws (q_Qi g post) pe) (hd : decode cc pc = .ok (.invokevirtual 48, 3)) (q0 : Nat) {fs : List Value} (he : ws[q0]? = some (b, .inr (4, fs))) (hR : rm.frames + 1 ≤ R.frames ∧ 8 + (3 + 11) + rm.locals ≤ R.locals) (hroom : cl + rm.cells ≤ R.cells ∧ sl + rm.slots ≤ R.slots) (hst : st0 = As.reverse ++ .ref b :: st) (hn : As.length = 2) (hW : (st.map fun v => v.category).sum ≤ 8) (kx : ∀ (E : String) (u : va_W), pe E u → ∀ (H : Heap) (locs : List Loc) (ls : Array Slot) (q9 : Addr) (ce : Cell), va_P g.1 vwCl u H → va_D (q_A g) u → va_S (q_A g) s.heap H locs → lv_has ls nL lv → H[q9]? = some ce → ce.vm = .none → s.vm.findClass E = some ce.cls → vx_W p l e R s m args below meth c H locs (cl + rm.cells) (sl + rm.slots) Q (F0 m pc ls st) q9) (kk : ∀ (r : Int32) (u : va_W), post r u → AT p l e R s m args below meth c g nL Q (cl + rm.cells) (sl + rm.slots) (pc + 3) lv (.int r :: st) u) : AT p l e R s m args below meth c g nL Q cl sl pc lv st0 ws := q_Xi (C := RX3) (ci := 4) cx (gi_V tb_492 tb_493 tb_494 tb_1 tb_495) ⟨rfl, by decide +kernel, by decide +kernel, by decide +kernel⟩ rfl rfl hM hd q0 he hR hroom hst hn hW kx kk
theorem k_L_51 (cx : q_cx g p m c cc nL s args RL meth) {post : Int32 → va_W → Prop} {pe : String → va_W → Prop} (hM : MetX l g yX3_lines cX3_lines 2 (some .int) rm (.ref b :: As) ws (q_Qi g post) pe) (hd : decode cc pc = .ok (.invokevirtual 51, 3)) (q0 : Nat) {fs : List Value} (he : ws[q0]? = some (b, .inr (4, fs))) (hR : rm.frames + 1 ≤ R.frames ∧ 8 + (2 + 11) + rm.locals ≤ R.locals) (hroom : cl + rm.cells ≤ R.cells ∧ sl + rm.slots ≤ R.slots) (hst : st0 = As.reverse ++ .ref b :: st) (hn : As.length = 1) (hW : (st.map fun v => v.category).sum ≤ 8) (kx : ∀ (E : String) (u : va_W), pe E u → ∀ (H : Heap) (locs : List Loc) (ls : Array Slot) (q9 : Addr) (ce : Cell), va_P g.1 vwCl u H → va_D (q_A g) u → va_S (q_A g) s.heap H locs → lv_has ls nL lv → H[q9]? = some ce → ce.vm = .none → s.vm.findClass E = some ce.cls → vx_W p l e R s m args below meth c H locs (cl + rm.cells) (sl + rm.slots) Q (F0 m pc ls st) q9) (kk : ∀ (r : Int32) (u : va_W), post r u → AT p l e R s m args below meth c g nL Q (cl + rm.cells) (sl + rm.slots) (pc + 3) lv (.int r :: st) u) : AT p l e R s m args below meth c g nL Q cl sl pc lv st0 ws := q_Xi (C := RX3) (ci := 4) cx (gi_V tb_499 tb_500 tb_501 tb_1 tb_502) ⟨rfl, by decide +kernel, by decide +kernel, by decide +kernel⟩ rfl rfl hM hd q0 he hR hroom hst hn hW kx kk
theorem k_L_54 (cx : q_cx g p m c cc nL s args RL meth) {post : Int32 → va_W → Prop} {pe : String → va_W → Prop} (hM : MetX l g yX3_linesByForms cX3_linesByForms 2 (some .int) rm (.ref b :: As) ws (q_Qi g post) pe) (hd : decode cc pc = .ok (.invokevirtual 54, 3)) (q0 : Nat) {fs : List Value} (he : ws[q0]? = some (b, .inr (4, fs))) (hR : rm.frames + 1 ≤ R.frames ∧ 8 + (2 + 11) + rm.locals ≤ R.locals) (hroom : cl + rm.cells ≤ R.cells ∧ sl + rm.slots ≤ R.slots) (hst : st0 = As.reverse ++ .ref b :: st) (hn : As.length = 1) (hW : (st.map fun v => v.category).sum ≤ 8) (kx : ∀ (E : String) (u : va_W), pe E u → ∀ (H : Heap) (locs : List Loc) (ls : Array Slot) (q9 : Addr) (ce : Cell), va_P g.1 vwCl u H → va_D (q_A g) u → va_S (q_A g) s.heap H locs → lv_has ls nL lv → H[q9]? = some ce → ce.vm = .none → s.vm.findClass E = some ce.cls → vx_W p l e R s m args below meth c H locs (cl + rm.cells) (sl + rm.slots) Q (F0 m pc ls st) q9) (kk : ∀ (r : Int32) (u : va_W), post r u → AT p l e R s m args below meth c g nL Q (cl + rm.cells) (sl + rm.slots) (pc + 3) lv (.int r :: st) u) : AT p l e R s m args below meth c g nL Q cl sl pc lv st0 ws := q_Xi (C := RX3) (ci := 4) cx (gi_V tb_506 tb_507 tb_508 tb_1 tb_509) ⟨rfl, by decide +kernel, by decide +kernel, by decide +kernel⟩ rfl rfl hM hd q0 he hR hroom hst hn hW kx kk
theorem k_L_57 (cx : q_cx g p m c cc nL s args RL meth) {post : Int32 → va_W → Prop} {pe : String → va_W → Prop} (hM : MetX l g yX3_forget cX3_forget 5 (some .int) rm (.ref b :: As) ws (q_Qi g post) pe) (hd : decode cc pc = .ok (.invokevirtual 57, 3)) (q0 : Nat) {fs : List Value} (he : ws[q0]? = some (b, .inr (4, fs))) (hR : rm.frames + 1 ≤ R.frames ∧ 8 + (5 + 11) + rm.locals ≤ R.locals) (hroom : cl + rm.cells ≤ R.cells ∧ sl + rm.slots ≤ R.slots) (hst : st0 = As.reverse ++ .ref b :: st) (hn : As.length = 1) (hW : (st.map fun v => v.category).sum ≤ 8) (kx : ∀ (E : String) (u : va_W), pe E u → ∀ (H : Heap) (locs : List Loc) (ls : Array Slot) (q9 : Addr) (ce : Cell), va_P g.1 vwCl u H → va_D (q_A g) u → va_S (q_A g) s.heap H locs → lv_has ls nL lv → H[q9]? = some ce → ce.vm = .none → s.vm.findClass E = some ce.cls → vx_W p l e R s m args below meth c H locs (cl + rm.cells) (sl + rm.slots) Q (F0 m pc ls st) q9) (kk : ∀ (r : Int32) (u : va_W), post r u → AT p l e R s m args below meth c g nL Q (cl + rm.cells) (sl + rm.slots) (pc + 3) lv (.int r :: st) u) : AT p l e R s m args below meth c g nL Q cl sl pc lv st0 ws := q_Xi (C := RX3) (ci := 4) cx (gi_V tb_513 tb_514 tb_515 tb_1 tb_516) ⟨rfl, by decide +kernel, by decide +kernel, by decide +kernel⟩ rfl rfl hM hd q0 he hR hroom hst hn hW kx kk
theorem k_L_60 (cx : q_cx g p m c cc nL s args RL meth) {post : Int32 → va_W → Prop} {pe : String → va_W → Prop} (hM : MetX l g yX3_copy cX3_copy 2 (some .int) rm (.ref b :: As) ws (q_Qi g post) pe) (hd : decode cc pc = .ok (.invokevirtual 60, 3)) (q0 : Nat) {fs : List Value} (he : ws[q0]? = some (b, .inr (4, fs))) (hR : rm.frames + 1 ≤ R.frames ∧ 8 + (2 + 11) + rm.locals ≤ R.locals) (hroom : cl + rm.cells ≤ R.cells ∧ sl + rm.slots ≤ R.slots) (hst : st0 = As.reverse ++ .ref b :: st) (hn : As.length = 1) (hW : (st.map fun v => v.category).sum ≤ 8) (kx : ∀ (E : String) (u : va_W), pe E u → ∀ (H : Heap) (locs : List Loc) (ls : Array Slot) (q9 : Addr) (ce : Cell), va_P g.1 vwCl u H → va_D (q_A g) u → va_S (q_A g) s.heap H locs → lv_has ls nL lv → H[q9]? = some ce → ce.vm = .none → s.vm.findClass E = some ce.cls → vx_W p l e R s m args below meth c H locs (cl + rm.cells) (sl + rm.slots) Q (F0 m pc ls st) q9) (kk : ∀ (r : Int32) (u : va_W), post r u → AT p l e R s m args below meth c g nL Q (cl + rm.cells) (sl + rm.slots) (pc + 3) lv (.int r :: st) u) : AT p l e R s m args below meth c g nL Q cl sl pc lv st0 ws := q_Xi (C := RX3) (ci := 4) cx (gi_V tb_531 tb_532 tb_533 tb_1 tb_534) ⟨rfl, by decide +kernel, by decide +kernel, by decide +kernel⟩ rfl rfl hM hd q0 he hR hroom hst hn hW kx kk
theorem k_L_63 (cx : q_cx g p m c cc nL s args RL meth) {post : Int32 → va_W → Prop} {pe : String → va_W → Prop} (hM : MetX l g yX3_tell cX3_tell 4 (some .int) rm (.ref b :: As) ws (q_Qi g post) pe) (hd : decode cc pc = .ok (.invokevirtual 63, 3)) (q0 : Nat) {fs : List Value} (he : ws[q0]? = some (b, .inr (4, fs))) (hR : rm.frames + 1 ≤ R.frames ∧ 8 + (4 + 11) + rm.locals ≤ R.locals) (hroom : cl + rm.cells ≤ R.cells ∧ sl + rm.slots ≤ R.slots) (hst : st0 = As.reverse ++ .ref b :: st) (hn : As.length = 1) (hW : (st.map fun v => v.category).sum ≤ 8) (kx : ∀ (E : String) (u : va_W), pe E u → ∀ (H : Heap) (locs : List Loc) (ls : Array Slot) (q9 : Addr) (ce : Cell), va_P g.1 vwCl u H → va_D (q_A g) u → va_S (q_A g) s.heap H locs → lv_has ls nL lv → H[q9]? = some ce → ce.vm = .none → s.vm.findClass E = some ce.cls → vx_W p l e R s m args below meth c H locs (cl + rm.cells) (sl + rm.slots) Q (F0 m pc ls st) q9) (kk : ∀ (r : Int32) (u : va_W), post r u → AT p l e R s m args below meth c g nL Q (cl + rm.cells) (sl + rm.slots) (pc + 3) lv (.int r :: st) u) : AT p l e R s m args below meth c g nL Q cl sl pc lv st0 ws := q_Xi (C := RX3) (ci := 4) cx (gi_V tb_539 tb_540 tb_541 tb_1 tb_542) ⟨rfl, by decide +kernel, by decide +kernel, by decide +kernel⟩ rfl rfl hM hd q0 he hR hroom hst hn hW kx kk
theorem k_L_66 (cx : q_cx g p m c cc nL s args RL meth) {post : Int32 → va_W → Prop} {pe : String → va_W → Prop} (hM : MetX l g yX3_owed cX3_owed 2 (some .int) rm (.ref b :: As) ws (q_Qi g post) pe) (hd : decode cc pc = .ok (.invokevirtual 66, 3)) (q0 : Nat) {fs : List Value} (he : ws[q0]? = some (b, .inr (4, fs))) (hR : rm.frames + 1 ≤ R.frames ∧ 8 + (2 + 11) + rm.locals ≤ R.locals) (hroom : cl + rm.cells ≤ R.cells ∧ sl + rm.slots ≤ R.slots) (hst : st0 = As.reverse ++ .ref b :: st) (hn : As.length = 1) (hW : (st.map fun v => v.category).sum ≤ 8) (kx : ∀ (E : String) (u : va_W), pe E u → ∀ (H : Heap) (locs : List Loc) (ls : Array Slot) (q9 : Addr) (ce : Cell), va_P g.1 vwCl u H → va_D (q_A g) u → va_S (q_A g) s.heap H locs → lv_has ls nL lv → H[q9]? = some ce → ce.vm = .none → s.vm.findClass E = some ce.cls → vx_W p l e R s m args below meth c H locs (cl + rm.cells) (sl + rm.slots) Q (F0 m pc ls st) q9) (kk : ∀ (r : Int32) (u : va_W), post r u → AT p l e R s m args below meth c g nL Q (cl + rm.cells) (sl + rm.slots) (pc + 3) lv (.int r :: st) u) : AT p l e R s m args below meth c g nL Q cl sl pc lv st0 ws := q_Xi (C := RX3) (ci := 4) cx (gi_V tb_546 tb_547 tb_548 tb_1 tb_549) ⟨rfl, by decide +kernel, by decide +kernel, by decide +kernel⟩ rfl rfl hM hd q0 he hR hroom hst hn hW kx kk
theorem k_L_69 (cx : q_cx g p m c cc nL s args RL meth) {post : Int32 → va_W → Prop} {pe : String → va_W → Prop} (hM : MetX l g yX3_quote cX3_quote 4 (some .int) rm (.ref b :: As) ws (q_Qi g post) pe) (hd : decode cc pc = .ok (.invokevirtual 69, 3)) (q0 : Nat) {fs : List Value} (he : ws[q0]? = some (b, .inr (4, fs))) (hR : rm.frames + 1 ≤ R.frames ∧ 8 + (4 + 11) + rm.locals ≤ R.locals) (hroom : cl + rm.cells ≤ R.cells ∧ sl + rm.slots ≤ R.slots) (hst : st0 = As.reverse ++ .ref b :: st) (hn : As.length = 1) (hW : (st.map fun v => v.category).sum ≤ 8) (kx : ∀ (E : String) (u : va_W), pe E u → ∀ (H : Heap) (locs : List Loc) (ls : Array Slot) (q9 : Addr) (ce : Cell), va_P g.1 vwCl u H → va_D (q_A g) u → va_S (q_A g) s.heap H locs → lv_has ls nL lv → H[q9]? = some ce → ce.vm = .none → s.vm.findClass E = some ce.cls → vx_W p l e R s m args below meth c H locs (cl + rm.cells) (sl + rm.slots) Q (F0 m pc ls st) q9) (kk : ∀ (r : Int32) (u : va_W), post r u → AT p l e R s m args below meth c g nL Q (cl + rm.cells) (sl + rm.slots) (pc + 3) lv (.int r :: st) u) : AT p l e R s m args below meth c g nL Q cl sl pc lv st0 ws := q_Xi (C := RX3) (ci := 4) cx (gi_V tb_553 tb_554 tb_555 tb_1 tb_556) ⟨rfl, by decide +kernel, by decide +kernel, by decide +kernel⟩ rfl rfl hM hd q0 he hR hroom hst hn hW kx kk
theorem k_L_72 (cx : q_cx g p m c cc nL s args RL meth) {post : Int32 → va_W → Prop} {pe : String → va_W → Prop} (hM : MetX l g yX3_quoted cX3_quoted 2 (some .int) rm (.ref b :: As) ws (q_Qi g post) pe) (hd : decode cc pc = .ok (.invokevirtual 72, 3)) (q0 : Nat) {fs : List Value} (he : ws[q0]? = some (b, .inr (4, fs))) (hR : rm.frames + 1 ≤ R.frames ∧ 8 + (2 + 11) + rm.locals ≤ R.locals) (hroom : cl + rm.cells ≤ R.cells ∧ sl + rm.slots ≤ R.slots) (hst : st0 = As.reverse ++ .ref b :: st) (hn : As.length = 1) (hW : (st.map fun v => v.category).sum ≤ 8) (kx : ∀ (E : String) (u : va_W), pe E u → ∀ (H : Heap) (locs : List Loc) (ls : Array Slot) (q9 : Addr) (ce : Cell), va_P g.1 vwCl u H → va_D (q_A g) u → va_S (q_A g) s.heap H locs → lv_has ls nL lv → H[q9]? = some ce → ce.vm = .none → s.vm.findClass E = some ce.cls → vx_W p l e R s m args below meth c H locs (cl + rm.cells) (sl + rm.slots) Q (F0 m pc ls st) q9) (kk : ∀ (r : Int32) (u : va_W), post r u → AT p l e R s m args below meth c g nL Q (cl + rm.cells) (sl + rm.slots) (pc + 3) lv (.int r :: st) u) : AT p l e R s m args below meth c g nL Q cl sl pc lv st0 ws := q_Xi (C := RX3) (ci := 4) cx (gi_V tb_561 tb_562 tb_563 tb_1 tb_564) ⟨rfl, by decide +kernel, by decide +kernel, by decide +kernel⟩ rfl rfl hM hd q0 he hR hroom hst hn hW kx kk
theorem nw_L_8 (cx : q_cx g p m c cc nL s args RL meth) (hd : decode cc pc = .ok (.new 8, 3)) (hcells : cl + 1 ≤ R.cells) (hslots : sl + 10 ≤ R.slots) (kk : ∀ (q : Nat), AT p l e R s m args below meth c g nL Q (cl + 1) (sl + 10) (pc + 3) lv (.ref q :: st) (ws ++ [(q, .inr (4, [.null, .null, .null, .null, .null, .null, .null, .long 0, .int 0, .int 0]))])) : AT p l e R s m args below meth c g nL Q cl sl pc lv st ws := q_new (C := RX3) (T := TX3) (N := 10) cx iw_X3 tyX3 tyX3_ok tb_22 tb_23 tb_1 rfl (fun j hj => by rcases (show j = 0 ∨ j = 1 ∨ j = 2 ∨ j = 3 ∨ j = 4 ∨ j = 5 ∨ j = 6 ∨ j = 7 ∨ j = 8 ∨ j = 9 by omega) with rfl | rfl | rfl | rfl | rfl | rfl | rfl | rfl | rfl | rfl <;> rfl) hd hcells hslots kk
theorem k_L_75 (cx : q_cx g p m c cc nL s args RL meth) {post : va_W → Prop} (hM : MetW l g yX3_init cX3_init 1 none rm (.ref b :: As) ws (q_Qv g post)) (hd : decode cc pc = .ok (.invokespecial 75, 3)) (hR : rm.frames + 1 ≤ R.frames ∧ 8 + (1 + 11) + rm.locals ≤ R.locals) (hroom : cl + rm.cells ≤ R.cells ∧ sl + rm.slots ≤ R.slots) (hst : st0 = As.reverse ++ .ref b :: st) (hn : As.length = 0) (hW : (st.map fun v => v.category).sum ≤ 8) (kk : ∀ (u : va_W), post  u → AT p l e R s m args below meth c g nL Q (cl + rm.cells) (sl + rm.slots) (pc + 3) lv (st) u) : AT p l e R s m args below meth c g nL Q cl sl pc lv st0 ws := q_I cx tb_24 tb_25 tb_1 tb_26 rfl ⟨by decide +kernel, by decide +kernel, by decide +kernel⟩ hM hd hR hroom hst hn hW kk
theorem nw_L_76 (cx : q_cx g p m c cc nL s args RL meth) (hd : decode cc pc = .ok (.new 76, 3)) (hcells : cl + 1 ≤ R.cells) (hslots : sl + 27 ≤ R.slots) (kk : ∀ (q : Nat), AT p l e R s m args below meth c g nL Q (cl + 1) (sl + 27) (pc + 3) lv (.ref q :: st) (ws ++ [(q, .inr (5, [.int 0, .int 0, .null, .int 0, .null, .null, .null, .null, .null, .null, .null, .int 0, .null, .null, .null, .null, .null, .null, .null, .null, .null, .int 0, .null, .null, .null, .null, .null]))])) : AT p l e R s m args below meth c g nL Q cl sl pc lv st ws := q_new (C := RX4) (T := TX4) (N := 27) cx iw_X4 tyX4 tyX4_ok tb_566 tb_567 tb_7 rfl (fun j hj => by rcases (show j = 0 ∨ j = 1 ∨ j = 2 ∨ j = 3 ∨ j = 4 ∨ j = 5 ∨ j = 6 ∨ j = 7 ∨ j = 8 ∨ j = 9 ∨ j = 10 ∨ j = 11 ∨ j = 12 ∨ j = 13 ∨ j = 14 ∨ j = 15 ∨ j = 16 ∨ j = 17 ∨ j = 18 ∨ j = 19 ∨ j = 20 ∨ j = 21 ∨ j = 22 ∨ j = 23 ∨ j = 24 ∨ j = 25 ∨ j = 26 by omega) with rfl | rfl | rfl | rfl | rfl | rfl | rfl | rfl | rfl | rfl | rfl | rfl | rfl | rfl | rfl | rfl | rfl | rfl | rfl | rfl | rfl | rfl | rfl | rfl | rfl | rfl | rfl <;> rfl) hd hcells hslots kk
theorem k_L_78 (cx : q_cx g p m c cc nL s args RL meth) {post : va_W → Prop} (hM : MetW l g yX4_init cX4_init 2 none rm (.ref b :: As) ws (q_Qv g post)) (hd : decode cc pc = .ok (.invokespecial 78, 3)) (hR : rm.frames + 1 ≤ R.frames ∧ 8 + (2 + 11) + rm.locals ≤ R.locals) (hroom : cl + rm.cells ≤ R.cells ∧ sl + rm.slots ≤ R.slots) (hst : st0 = As.reverse ++ .ref b :: st) (hn : As.length = 0) (hW : (st.map fun v => v.category).sum ≤ 8) (kk : ∀ (u : va_W), post  u → AT p l e R s m args below meth c g nL Q (cl + rm.cells) (sl + rm.slots) (pc + 3) lv (st) u) : AT p l e R s m args below meth c g nL Q cl sl pc lv st0 ws := q_I cx tb_568 tb_569 tb_7 tb_570 rfl ⟨by decide +kernel, by decide +kernel, by decide +kernel⟩ hM hd hR hroom hst hn hW kk
theorem k_L_79 (cx : q_cx g p m c cc nL s args RL meth) {post : Int32 → va_W → Prop} (hM : MetH l g yL_sound cL_sound 4 (some .int) [(0, 9, 12, 13), (0, 9, 15, 15)] rm As ws (q_Qi g post)) (hd : decode cc pc = .ok (.invokestatic 79, 3)) (hR : rm.frames + 1 ≤ R.frames ∧ 8 + (4 + 11) + rm.locals ≤ R.locals) (hroom : cl + rm.cells ≤ R.cells ∧ sl + rm.slots ≤ R.slots) (hst : st0 = As.reverse ++ st) (hn : As.length = 3) (hW : (st.map fun v => v.category).sum ≤ 8) (kk : ∀ (r : Int32) (u : va_W), post r u → AT p l e R s m args below meth c g nL Q (cl + rm.cells) (sl + rm.slots) (pc + 3) lv (.int r :: st) u) : AT p l e R s m args below meth c g nL Q cl sl pc lv st0 ws := q_SWi cx (gi_S tb_102 tb_103 tb_0 tb_104) ⟨by decide +kernel, by decide +kernel, by decide +kernel⟩ hM hd hR hroom hst hn hW kk
theorem k_L_84 (cx : q_cx g p m c cc nL s args RL meth) {post : Int32 → va_W → Prop} (hM : MetW l g yX4_sound cX4_sound 2 (some .int) rm (.ref b :: As) ws (q_Qi g post)) (hd : decode cc pc = .ok (.invokevirtual 84, 3)) (q0 : Nat) {fs : List Value} (he : ws[q0]? = some (b, .inr (5, fs))) (hR : rm.frames + 1 ≤ R.frames ∧ 8 + (2 + 11) + rm.locals ≤ R.locals) (hroom : cl + rm.cells ≤ R.cells ∧ sl + rm.slots ≤ R.slots) (hst : st0 = As.reverse ++ .ref b :: st) (hn : As.length = 1) (hW : (st.map fun v => v.category).sum ≤ 8) (kk : ∀ (r : Int32) (u : va_W), post r u → AT p l e R s m args below meth c g nL Q (cl + rm.cells) (sl + rm.slots) (pc + 3) lv (.int r :: st) u) : AT p l e R s m args below meth c g nL Q cl sl pc lv st0 ws := q_Vi (C := RX4) (ci := 5) cx (gi_V tb_659 tb_660 tb_661 tb_7 tb_662) ⟨rfl, by decide +kernel, by decide +kernel, by decide +kernel⟩ rfl rfl hM hd q0 he hR hroom hst hn hW kk
theorem k_L_85 (cx : q_cx g p m c cc nL s args RL meth) {post : Int32 → va_W → Prop} (hM : MetW l g yX4_thrown cX4_thrown 1 (some .int) rm (.ref b :: As) ws (q_Qi g post)) (hd : decode cc pc = .ok (.invokevirtual 85, 3)) (q0 : Nat) {fs : List Value} (he : ws[q0]? = some (b, .inr (5, fs))) (hR : rm.frames + 1 ≤ R.frames ∧ 8 + (1 + 11) + rm.locals ≤ R.locals) (hroom : cl + rm.cells ≤ R.cells ∧ sl + rm.slots ≤ R.slots) (hst : st0 = As.reverse ++ .ref b :: st) (hn : As.length = 0) (hW : (st.map fun v => v.category).sum ≤ 8) (kk : ∀ (r : Int32) (u : va_W), post r u → AT p l e R s m args below meth c g nL Q (cl + rm.cells) (sl + rm.slots) (pc + 3) lv (.int r :: st) u) : AT p l e R s m args below meth c g nL Q cl sl pc lv st0 ws := q_Vi (C := RX4) (ci := 5) cx (gi_V tb_655 tb_656 tb_657 tb_7 tb_658) ⟨rfl, by decide +kernel, by decide +kernel, by decide +kernel⟩ rfl rfl hM hd q0 he hR hroom hst hn hW kk
theorem k_L_89 (cx : q_cx g p m c cc nL s args RL meth) {post : Int32 → va_W → Prop} (hM : MetH l g yL_interview cL_interview 7 (some .int) [(0, 14, 17, 13), (0, 14, 21, 21), (0, 14, 25, 15)] rm As ws (q_Qi g post)) (hd : decode cc pc = .ok (.invokestatic 89, 3)) (hR : rm.frames + 1 ≤ R.frames ∧ 8 + (7 + 11) + rm.locals ≤ R.locals) (hroom : cl + rm.cells ≤ R.cells ∧ sl + rm.slots ≤ R.slots) (hst : st0 = As.reverse ++ st) (hn : As.length = 6) (hW : (st.map fun v => v.category).sum ≤ 8) (kk : ∀ (r : Int32) (u : va_W), post r u → AT p l e R s m args below meth c g nL Q (cl + rm.cells) (sl + rm.slots) (pc + 3) lv (.int r :: st) u) : AT p l e R s m args below meth c g nL Q cl sl pc lv st0 ws := q_SWi cx (gi_S tb_198 tb_199 tb_0 tb_200) ⟨by decide +kernel, by decide +kernel, by decide +kernel⟩ hM hd hR hroom hst hn hW kk
theorem k_L_92 (cx : q_cx g p m c cc nL s args RL meth) {post : Int32 → va_W → Prop} (hM : MetW l g yX4_interview cX4_interview 5 (some .int) rm (.ref b :: As) ws (q_Qi g post)) (hd : decode cc pc = .ok (.invokevirtual 92, 3)) (q0 : Nat) {fs : List Value} (he : ws[q0]? = some (b, .inr (5, fs))) (hR : rm.frames + 1 ≤ R.frames ∧ 8 + (5 + 11) + rm.locals ≤ R.locals) (hroom : cl + rm.cells ≤ R.cells ∧ sl + rm.slots ≤ R.slots) (hst : st0 = As.reverse ++ .ref b :: st) (hn : As.length = 4) (hW : (st.map fun v => v.category).sum ≤ 8) (kk : ∀ (r : Int32) (u : va_W), post r u → AT p l e R s m args below meth c g nL Q (cl + rm.cells) (sl + rm.slots) (pc + 3) lv (.int r :: st) u) : AT p l e R s m args below meth c g nL Q cl sl pc lv st0 ws := q_Vi (C := RX4) (ci := 5) cx (gi_V tb_673 tb_674 tb_675 tb_7 tb_676) ⟨rfl, by decide +kernel, by decide +kernel, by decide +kernel⟩ rfl rfl hM hd q0 he hR hroom hst hn hW kk
theorem k_L_93 (cx : q_cx g p m c cc nL s args RL meth) {post : Int32 → va_W → Prop} (hM : MetH l g yL_setRoot cL_setRoot 4 (some .int) [(0, 9, 12, 13), (0, 9, 15, 15)] rm As ws (q_Qi g post)) (hd : decode cc pc = .ok (.invokestatic 93, 3)) (hR : rm.frames + 1 ≤ R.frames ∧ 8 + (4 + 11) + rm.locals ≤ R.locals) (hroom : cl + rm.cells ≤ R.cells ∧ sl + rm.slots ≤ R.slots) (hst : st0 = As.reverse ++ st) (hn : As.length = 3) (hW : (st.map fun v => v.category).sum ≤ 8) (kk : ∀ (r : Int32) (u : va_W), post r u → AT p l e R s m args below meth c g nL Q (cl + rm.cells) (sl + rm.slots) (pc + 3) lv (.int r :: st) u) : AT p l e R s m args below meth c g nL Q cl sl pc lv st0 ws := q_SWi cx (gi_S tb_354 tb_355 tb_0 tb_356) ⟨by decide +kernel, by decide +kernel, by decide +kernel⟩ hM hd hR hroom hst hn hW kk
theorem k_L_95 (cx : q_cx g p m c cc nL s args RL meth) {post : Int32 → va_W → Prop} (hM : MetW l g yX4_setRoot cX4_setRoot 3 (some .int) rm (.ref b :: As) ws (q_Qi g post)) (hd : decode cc pc = .ok (.invokevirtual 95, 3)) (q0 : Nat) {fs : List Value} (he : ws[q0]? = some (b, .inr (5, fs))) (hR : rm.frames + 1 ≤ R.frames ∧ 8 + (3 + 11) + rm.locals ≤ R.locals) (hroom : cl + rm.cells ≤ R.cells ∧ sl + rm.slots ≤ R.slots) (hst : st0 = As.reverse ++ .ref b :: st) (hn : As.length = 1) (hW : (st.map fun v => v.category).sum ≤ 8) (kk : ∀ (r : Int32) (u : va_W), post r u → AT p l e R s m args below meth c g nL Q (cl + rm.cells) (sl + rm.slots) (pc + 3) lv (.int r :: st) u) : AT p l e R s m args below meth c g nL Q cl sl pc lv st0 ws := q_Vi (C := RX4) (ci := 5) cx (gi_V tb_690 tb_691 tb_692 tb_7 tb_693) ⟨rfl, by decide +kernel, by decide +kernel, by decide +kernel⟩ rfl rfl hM hd q0 he hR hroom hst hn hW kk
theorem k_L_96 (cx : q_cx g p m c cc nL s args RL meth) {post : Int32 → va_W → Prop} (hM : MetH l g yL_form cL_form 4 (some .int) [(0, 9, 12, 13)] rm As ws (q_Qi g post)) (hd : decode cc pc = .ok (.invokestatic 96, 3)) (hR : rm.frames + 1 ≤ R.frames ∧ 8 + (4 + 11) + rm.locals ≤ R.locals) (hroom : cl + rm.cells ≤ R.cells ∧ sl + rm.slots ≤ R.slots) (hst : st0 = As.reverse ++ st) (hn : As.length = 3) (hW : (st.map fun v => v.category).sum ≤ 8) (kk : ∀ (r : Int32) (u : va_W), post r u → AT p l e R s m args below meth c g nL Q (cl + rm.cells) (sl + rm.slots) (pc + 3) lv (.int r :: st) u) : AT p l e R s m args below meth c g nL Q cl sl pc lv st0 ws := q_SWi cx (gi_S tb_363 tb_364 tb_0 tb_365) ⟨by decide +kernel, by decide +kernel, by decide +kernel⟩ hM hd hR hroom hst hn hW kk
theorem k_L_98 (cx : q_cx g p m c cc nL s args RL meth) {post : Int32 → va_W → Prop} (hM : MetW l g yX4_form cX4_form 2 (some .int) rm (.ref b :: As) ws (q_Qi g post)) (hd : decode cc pc = .ok (.invokevirtual 98, 3)) (q0 : Nat) {fs : List Value} (he : ws[q0]? = some (b, .inr (5, fs))) (hR : rm.frames + 1 ≤ R.frames ∧ 8 + (2 + 11) + rm.locals ≤ R.locals) (hroom : cl + rm.cells ≤ R.cells ∧ sl + rm.slots ≤ R.slots) (hst : st0 = As.reverse ++ .ref b :: st) (hn : As.length = 1) (hW : (st.map fun v => v.category).sum ≤ 8) (kk : ∀ (r : Int32) (u : va_W), post r u → AT p l e R s m args below meth c g nL Q (cl + rm.cells) (sl + rm.slots) (pc + 3) lv (.int r :: st) u) : AT p l e R s m args below meth c g nL Q cl sl pc lv st0 ws := q_Vi (C := RX4) (ci := 5) cx (gi_V tb_694 tb_695 tb_696 tb_7 tb_697) ⟨rfl, by decide +kernel, by decide +kernel, by decide +kernel⟩ rfl rfl hM hd q0 he hR hroom hst hn hW kk
theorem k_L_99 (cx : q_cx g p m c cc nL s args RL meth) {post : Int32 → va_W → Prop} (hM : MetH l g yL_rule cL_rule 9 (some .int) [(0, 18, 21, 13), (0, 18, 25, 21), (0, 18, 29, 15)] rm As ws (q_Qi g post)) (hd : decode cc pc = .ok (.invokestatic 99, 3)) (hR : rm.frames + 1 ≤ R.frames ∧ 8 + (9 + 11) + rm.locals ≤ R.locals) (hroom : cl + rm.cells ≤ R.cells ∧ sl + rm.slots ≤ R.slots) (hst : st0 = As.reverse ++ st) (hn : As.length = 8) (hW : (st.map fun v => v.category).sum ≤ 8) (kk : ∀ (r : Int32) (u : va_W), post r u → AT p l e R s m args below meth c g nL Q (cl + rm.cells) (sl + rm.slots) (pc + 3) lv (.int r :: st) u) : AT p l e R s m args below meth c g nL Q cl sl pc lv st0 ws := q_SWi cx (gi_S tb_375 tb_376 tb_0 tb_377) ⟨by decide +kernel, by decide +kernel, by decide +kernel⟩ hM hd hR hroom hst hn hW kk
theorem k_L_102 (cx : q_cx g p m c cc nL s args RL meth) {post : Int32 → va_W → Prop} (hM : MetW l g yX4_rule cX4_rule 7 (some .int) rm (.ref b :: As) ws (q_Qi g post)) (hd : decode cc pc = .ok (.invokevirtual 102, 3)) (q0 : Nat) {fs : List Value} (he : ws[q0]? = some (b, .inr (5, fs))) (hR : rm.frames + 1 ≤ R.frames ∧ 8 + (7 + 11) + rm.locals ≤ R.locals) (hroom : cl + rm.cells ≤ R.cells ∧ sl + rm.slots ≤ R.slots) (hst : st0 = As.reverse ++ .ref b :: st) (hn : As.length = 6) (hW : (st.map fun v => v.category).sum ≤ 8) (kk : ∀ (r : Int32) (u : va_W), post r u → AT p l e R s m args below meth c g nL Q (cl + rm.cells) (sl + rm.slots) (pc + 3) lv (.int r :: st) u) : AT p l e R s m args below meth c g nL Q cl sl pc lv st0 ws := q_Vi (C := RX4) (ci := 5) cx (gi_V tb_702 tb_703 tb_704 tb_7 tb_705) ⟨rfl, by decide +kernel, by decide +kernel, by decide +kernel⟩ rfl rfl hM hd q0 he hR hroom hst hn hW kk
theorem k_L_103 (cx : q_cx g p m c cc nL s args RL meth) {post : Int32 → va_W → Prop} (hM : MetH l g yL_rest cL_rest 5 (some .int) [(0, 10, 13, 13), (0, 10, 17, 15)] rm As ws (q_Qi g post)) (hd : decode cc pc = .ok (.invokestatic 103, 3)) (hR : rm.frames + 1 ≤ R.frames ∧ 8 + (5 + 11) + rm.locals ≤ R.locals) (hroom : cl + rm.cells ≤ R.cells ∧ sl + rm.slots ≤ R.slots) (hst : st0 = As.reverse ++ st) (hn : As.length = 4) (hW : (st.map fun v => v.category).sum ≤ 8) (kk : ∀ (r : Int32) (u : va_W), post r u → AT p l e R s m args below meth c g nL Q (cl + rm.cells) (sl + rm.slots) (pc + 3) lv (.int r :: st) u) : AT p l e R s m args below meth c g nL Q cl sl pc lv st0 ws := q_SWi cx (gi_S tb_422 tb_423 tb_0 tb_424) ⟨by decide +kernel, by decide +kernel, by decide +kernel⟩ hM hd hR hroom hst hn hW kk
theorem k_L_106 (cx : q_cx g p m c cc nL s args RL meth) {post : Int32 → va_W → Prop} (hM : MetW l g yX4_rest cX4_rest 3 (some .int) rm (.ref b :: As) ws (q_Qi g post)) (hd : decode cc pc = .ok (.invokevirtual 106, 3)) (q0 : Nat) {fs : List Value} (he : ws[q0]? = some (b, .inr (5, fs))) (hR : rm.frames + 1 ≤ R.frames ∧ 8 + (3 + 11) + rm.locals ≤ R.locals) (hroom : cl + rm.cells ≤ R.cells ∧ sl + rm.slots ≤ R.slots) (hst : st0 = As.reverse ++ .ref b :: st) (hn : As.length = 2) (hW : (st.map fun v => v.category).sum ≤ 8) (kk : ∀ (r : Int32) (u : va_W), post r u → AT p l e R s m args below meth c g nL Q (cl + rm.cells) (sl + rm.slots) (pc + 3) lv (.int r :: st) u) : AT p l e R s m args below meth c g nL Q cl sl pc lv st0 ws := q_Vi (C := RX4) (ci := 5) cx (gi_V tb_706 tb_707 tb_708 tb_7 tb_709) ⟨rfl, by decide +kernel, by decide +kernel, by decide +kernel⟩ rfl rfl hM hd q0 he hR hroom hst hn hW kk
theorem k_L_107 (cx : q_cx g p m c cc nL s args RL meth) {post : Int32 → va_W → Prop} (hM : MetH l g yL_stands cL_stands 4 (some .int) [(0, 16, 19, 13)] rm As ws (q_Qi g post)) (hd : decode cc pc = .ok (.invokestatic 107, 3)) (hR : rm.frames + 1 ≤ R.frames ∧ 8 + (4 + 11) + rm.locals ≤ R.locals) (hroom : cl + rm.cells ≤ R.cells ∧ sl + rm.slots ≤ R.slots) (hst : st0 = As.reverse ++ st) (hn : As.length = 3) (hW : (st.map fun v => v.category).sum ≤ 8) (kk : ∀ (r : Int32) (u : va_W), post r u → AT p l e R s m args below meth c g nL Q (cl + rm.cells) (sl + rm.slots) (pc + 3) lv (.int r :: st) u) : AT p l e R s m args below meth c g nL Q cl sl pc lv st0 ws := q_SWi cx (gi_S tb_441 tb_442 tb_0 tb_443) ⟨by decide +kernel, by decide +kernel, by decide +kernel⟩ hM hd hR hroom hst hn hW kk
theorem k_L_109 (cx : q_cx g p m c cc nL s args RL meth) {post : Int32 → va_W → Prop} (hM : MetW l g yX4_stands cX4_stands 2 (some .boolean) rm (.ref b :: As) ws (q_Qi g post)) (hd : decode cc pc = .ok (.invokevirtual 109, 3)) (q0 : Nat) {fs : List Value} (he : ws[q0]? = some (b, .inr (5, fs))) (hR : rm.frames + 1 ≤ R.frames ∧ 8 + (2 + 11) + rm.locals ≤ R.locals) (hroom : cl + rm.cells ≤ R.cells ∧ sl + rm.slots ≤ R.slots) (hst : st0 = As.reverse ++ .ref b :: st) (hn : As.length = 1) (hW : (st.map fun v => v.category).sum ≤ 8) (kk : ∀ (r : Int32) (u : va_W), post r u → AT p l e R s m args below meth c g nL Q (cl + rm.cells) (sl + rm.slots) (pc + 3) lv (.int r :: st) u) : AT p l e R s m args below meth c g nL Q cl sl pc lv st0 ws := q_Vi (C := RX4) (ci := 5) cx (gi_V tb_717 tb_718 tb_719 tb_7 tb_720) ⟨rfl, by decide +kernel, by decide +kernel, by decide +kernel⟩ rfl rfl hM hd q0 he hR hroom hst hn hW kk
theorem k_L_110 (cx : q_cx g p m c cc nL s args RL meth) {post : Int32 → va_W → Prop} (hM : MetH l g yL_expected cL_expected 6 (some .int) [(0, 12, 15, 13), (0, 12, 19, 21)] rm As ws (q_Qi g post)) (hd : decode cc pc = .ok (.invokestatic 110, 3)) (hR : rm.frames + 1 ≤ R.frames ∧ 8 + (6 + 11) + rm.locals ≤ R.locals) (hroom : cl + rm.cells ≤ R.cells ∧ sl + rm.slots ≤ R.slots) (hst : st0 = As.reverse ++ st) (hn : As.length = 5) (hW : (st.map fun v => v.category).sum ≤ 8) (kk : ∀ (r : Int32) (u : va_W), post r u → AT p l e R s m args below meth c g nL Q (cl + rm.cells) (sl + rm.slots) (pc + 3) lv (.int r :: st) u) : AT p l e R s m args below meth c g nL Q cl sl pc lv st0 ws := q_SWi cx (gi_S tb_449 tb_450 tb_0 tb_451) ⟨by decide +kernel, by decide +kernel, by decide +kernel⟩ hM hd hR hroom hst hn hW kk
theorem k_L_113 (cx : q_cx g p m c cc nL s args RL meth) {post : Int32 → va_W → Prop} (hM : MetW l g yX4_expected cX4_expected 4 (some .int) rm (.ref b :: As) ws (q_Qi g post)) (hd : decode cc pc = .ok (.invokevirtual 113, 3)) (q0 : Nat) {fs : List Value} (he : ws[q0]? = some (b, .inr (5, fs))) (hR : rm.frames + 1 ≤ R.frames ∧ 8 + (4 + 11) + rm.locals ≤ R.locals) (hroom : cl + rm.cells ≤ R.cells ∧ sl + rm.slots ≤ R.slots) (hst : st0 = As.reverse ++ .ref b :: st) (hn : As.length = 3) (hW : (st.map fun v => v.category).sum ≤ 8) (kk : ∀ (r : Int32) (u : va_W), post r u → AT p l e R s m args below meth c g nL Q (cl + rm.cells) (sl + rm.slots) (pc + 3) lv (.int r :: st) u) : AT p l e R s m args below meth c g nL Q cl sl pc lv st0 ws := q_Vi (C := RX4) (ci := 5) cx (gi_V tb_721 tb_722 tb_723 tb_7 tb_724) ⟨rfl, by decide +kernel, by decide +kernel, by decide +kernel⟩ rfl rfl hM hd q0 he hR hroom hst hn hW kk
theorem k_L_114 (cx : q_cx g p m c cc nL s args RL meth) {post : Int32 → va_W → Prop} (hM : MetH l g yL_far cL_far 4 (some .int) [(0, 9, 12, 13)] rm As ws (q_Qi g post)) (hd : decode cc pc = .ok (.invokestatic 114, 3)) (hR : rm.frames + 1 ≤ R.frames ∧ 8 + (4 + 11) + rm.locals ≤ R.locals) (hroom : cl + rm.cells ≤ R.cells ∧ sl + rm.slots ≤ R.slots) (hst : st0 = As.reverse ++ st) (hn : As.length = 3) (hW : (st.map fun v => v.category).sum ≤ 8) (kk : ∀ (r : Int32) (u : va_W), post r u → AT p l e R s m args below meth c g nL Q (cl + rm.cells) (sl + rm.slots) (pc + 3) lv (.int r :: st) u) : AT p l e R s m args below meth c g nL Q cl sl pc lv st0 ws := q_SWi cx (gi_S tb_473 tb_474 tb_0 tb_475) ⟨by decide +kernel, by decide +kernel, by decide +kernel⟩ hM hd hR hroom hst hn hW kk
theorem k_L_116 (cx : q_cx g p m c cc nL s args RL meth) {post : Int32 → va_W → Prop} (hM : MetW l g yX4_far cX4_far 2 (some .int) rm (.ref b :: As) ws (q_Qi g post)) (hd : decode cc pc = .ok (.invokevirtual 116, 3)) (q0 : Nat) {fs : List Value} (he : ws[q0]? = some (b, .inr (5, fs))) (hR : rm.frames + 1 ≤ R.frames ∧ 8 + (2 + 11) + rm.locals ≤ R.locals) (hroom : cl + rm.cells ≤ R.cells ∧ sl + rm.slots ≤ R.slots) (hst : st0 = As.reverse ++ .ref b :: st) (hn : As.length = 1) (hW : (st.map fun v => v.category).sum ≤ 8) (kk : ∀ (r : Int32) (u : va_W), post r u → AT p l e R s m args below meth c g nL Q (cl + rm.cells) (sl + rm.slots) (pc + 3) lv (.int r :: st) u) : AT p l e R s m args below meth c g nL Q cl sl pc lv st0 ws := q_Vi (C := RX4) (ci := 5) cx (gi_V tb_736 tb_737 tb_738 tb_7 tb_739) ⟨rfl, by decide +kernel, by decide +kernel, by decide +kernel⟩ rfl rfl hM hd q0 he hR hroom hst hn hW kk
theorem k_L_117 (cx : q_cx g p m c cc nL s args RL meth) {post : Int32 → va_W → Prop} (hM : MetH l g yL_formAt cL_formAt 5 (some .int) [(0, 10, 13, 13)] rm As ws (q_Qi g post)) (hd : decode cc pc = .ok (.invokestatic 117, 3)) (hR : rm.frames + 1 ≤ R.frames ∧ 8 + (5 + 11) + rm.locals ≤ R.locals) (hroom : cl + rm.cells ≤ R.cells ∧ sl + rm.slots ≤ R.slots) (hst : st0 = As.reverse ++ st) (hn : As.length = 4) (hW : (st.map fun v => v.category).sum ≤ 8) (kk : ∀ (r : Int32) (u : va_W), post r u → AT p l e R s m args below meth c g nL Q (cl + rm.cells) (sl + rm.slots) (pc + 3) lv (.int r :: st) u) : AT p l e R s m args below meth c g nL Q cl sl pc lv st0 ws := q_SWi cx (gi_S tb_489 tb_490 tb_0 tb_491) ⟨by decide +kernel, by decide +kernel, by decide +kernel⟩ hM hd hR hroom hst hn hW kk
theorem k_L_119 (cx : q_cx g p m c cc nL s args RL meth) {post : Int32 → va_W → Prop} (hM : MetW l g yX4_formAt cX4_formAt 3 (some .int) rm (.ref b :: As) ws (q_Qi g post)) (hd : decode cc pc = .ok (.invokevirtual 119, 3)) (q0 : Nat) {fs : List Value} (he : ws[q0]? = some (b, .inr (5, fs))) (hR : rm.frames + 1 ≤ R.frames ∧ 8 + (3 + 11) + rm.locals ≤ R.locals) (hroom : cl + rm.cells ≤ R.cells ∧ sl + rm.slots ≤ R.slots) (hst : st0 = As.reverse ++ .ref b :: st) (hn : As.length = 2) (hW : (st.map fun v => v.category).sum ≤ 8) (kk : ∀ (r : Int32) (u : va_W), post r u → AT p l e R s m args below meth c g nL Q (cl + rm.cells) (sl + rm.slots) (pc + 3) lv (.int r :: st) u) : AT p l e R s m args below meth c g nL Q cl sl pc lv st0 ws := q_Vi (C := RX4) (ci := 5) cx (gi_V tb_744 tb_745 tb_746 tb_7 tb_747) ⟨rfl, by decide +kernel, by decide +kernel, by decide +kernel⟩ rfl rfl hM hd q0 he hR hroom hst hn hW kk
theorem k_L_120 (cx : q_cx g p m c cc nL s args RL meth) {post : Int32 → va_W → Prop} (hM : MetH l g yL_lines cL_lines 4 (some .int) [(0, 9, 12, 13)] rm As ws (q_Qi g post)) (hd : decode cc pc = .ok (.invokestatic 120, 3)) (hR : rm.frames + 1 ≤ R.frames ∧ 8 + (4 + 11) + rm.locals ≤ R.locals) (hroom : cl + rm.cells ≤ R.cells ∧ sl + rm.slots ≤ R.slots) (hst : st0 = As.reverse ++ st) (hn : As.length = 3) (hW : (st.map fun v => v.category).sum ≤ 8) (kk : ∀ (r : Int32) (u : va_W), post r u → AT p l e R s m args below meth c g nL Q (cl + rm.cells) (sl + rm.slots) (pc + 3) lv (.int r :: st) u) : AT p l e R s m args below meth c g nL Q cl sl pc lv st0 ws := q_SWi cx (gi_S tb_496 tb_497 tb_0 tb_498) ⟨by decide +kernel, by decide +kernel, by decide +kernel⟩ hM hd hR hroom hst hn hW kk
theorem k_L_122 (cx : q_cx g p m c cc nL s args RL meth) {post : Int32 → va_W → Prop} (hM : MetW l g yX4_lines cX4_lines 2 (some .int) rm (.ref b :: As) ws (q_Qi g post)) (hd : decode cc pc = .ok (.invokevirtual 122, 3)) (q0 : Nat) {fs : List Value} (he : ws[q0]? = some (b, .inr (5, fs))) (hR : rm.frames + 1 ≤ R.frames ∧ 8 + (2 + 11) + rm.locals ≤ R.locals) (hroom : cl + rm.cells ≤ R.cells ∧ sl + rm.slots ≤ R.slots) (hst : st0 = As.reverse ++ .ref b :: st) (hn : As.length = 1) (hW : (st.map fun v => v.category).sum ≤ 8) (kk : ∀ (r : Int32) (u : va_W), post r u → AT p l e R s m args below meth c g nL Q (cl + rm.cells) (sl + rm.slots) (pc + 3) lv (.int r :: st) u) : AT p l e R s m args below meth c g nL Q cl sl pc lv st0 ws := q_Vi (C := RX4) (ci := 5) cx (gi_V tb_752 tb_753 tb_754 tb_7 tb_755) ⟨rfl, by decide +kernel, by decide +kernel, by decide +kernel⟩ rfl rfl hM hd q0 he hR hroom hst hn hW kk
theorem k_L_123 (cx : q_cx g p m c cc nL s args RL meth) {post : Int32 → va_W → Prop} (hM : MetH l g yL_linesByForms cL_linesByForms 4 (some .int) [(0, 9, 12, 13)] rm As ws (q_Qi g post)) (hd : decode cc pc = .ok (.invokestatic 123, 3)) (hR : rm.frames + 1 ≤ R.frames ∧ 8 + (4 + 11) + rm.locals ≤ R.locals) (hroom : cl + rm.cells ≤ R.cells ∧ sl + rm.slots ≤ R.slots) (hst : st0 = As.reverse ++ st) (hn : As.length = 3) (hW : (st.map fun v => v.category).sum ≤ 8) (kk : ∀ (r : Int32) (u : va_W), post r u → AT p l e R s m args below meth c g nL Q (cl + rm.cells) (sl + rm.slots) (pc + 3) lv (.int r :: st) u) : AT p l e R s m args below meth c g nL Q cl sl pc lv st0 ws := q_SWi cx (gi_S tb_503 tb_504 tb_0 tb_505) ⟨by decide +kernel, by decide +kernel, by decide +kernel⟩ hM hd hR hroom hst hn hW kk
theorem k_L_125 (cx : q_cx g p m c cc nL s args RL meth) {post : Int32 → va_W → Prop} (hM : MetW l g yX4_linesByForms cX4_linesByForms 2 (some .int) rm (.ref b :: As) ws (q_Qi g post)) (hd : decode cc pc = .ok (.invokevirtual 125, 3)) (q0 : Nat) {fs : List Value} (he : ws[q0]? = some (b, .inr (5, fs))) (hR : rm.frames + 1 ≤ R.frames ∧ 8 + (2 + 11) + rm.locals ≤ R.locals) (hroom : cl + rm.cells ≤ R.cells ∧ sl + rm.slots ≤ R.slots) (hst : st0 = As.reverse ++ .ref b :: st) (hn : As.length = 1) (hW : (st.map fun v => v.category).sum ≤ 8) (kk : ∀ (r : Int32) (u : va_W), post r u → AT p l e R s m args below meth c g nL Q (cl + rm.cells) (sl + rm.slots) (pc + 3) lv (.int r :: st) u) : AT p l e R s m args below meth c g nL Q cl sl pc lv st0 ws := q_Vi (C := RX4) (ci := 5) cx (gi_V tb_760 tb_761 tb_762 tb_7 tb_763) ⟨rfl, by decide +kernel, by decide +kernel, by decide +kernel⟩ rfl rfl hM hd q0 he hR hroom hst hn hW kk
theorem k_L_126 (cx : q_cx g p m c cc nL s args RL meth) {post : Int32 → va_W → Prop} (hM : MetH l g yL_forget cL_forget 4 (some .int) [(0, 9, 12, 13)] rm As ws (q_Qi g post)) (hd : decode cc pc = .ok (.invokestatic 126, 3)) (hR : rm.frames + 1 ≤ R.frames ∧ 8 + (4 + 11) + rm.locals ≤ R.locals) (hroom : cl + rm.cells ≤ R.cells ∧ sl + rm.slots ≤ R.slots) (hst : st0 = As.reverse ++ st) (hn : As.length = 3) (hW : (st.map fun v => v.category).sum ≤ 8) (kk : ∀ (r : Int32) (u : va_W), post r u → AT p l e R s m args below meth c g nL Q (cl + rm.cells) (sl + rm.slots) (pc + 3) lv (.int r :: st) u) : AT p l e R s m args below meth c g nL Q cl sl pc lv st0 ws := q_SWi cx (gi_S tb_510 tb_511 tb_0 tb_512) ⟨by decide +kernel, by decide +kernel, by decide +kernel⟩ hM hd hR hroom hst hn hW kk
theorem k_L_128 (cx : q_cx g p m c cc nL s args RL meth) {post : Int32 → va_W → Prop} (hM : MetW l g yX4_forget cX4_forget 7 (some .int) rm (.ref b :: As) ws (q_Qi g post)) (hd : decode cc pc = .ok (.invokevirtual 128, 3)) (q0 : Nat) {fs : List Value} (he : ws[q0]? = some (b, .inr (5, fs))) (hR : rm.frames + 1 ≤ R.frames ∧ 8 + (7 + 11) + rm.locals ≤ R.locals) (hroom : cl + rm.cells ≤ R.cells ∧ sl + rm.slots ≤ R.slots) (hst : st0 = As.reverse ++ .ref b :: st) (hn : As.length = 1) (hW : (st.map fun v => v.category).sum ≤ 8) (kk : ∀ (r : Int32) (u : va_W), post r u → AT p l e R s m args below meth c g nL Q (cl + rm.cells) (sl + rm.slots) (pc + 3) lv (.int r :: st) u) : AT p l e R s m args below meth c g nL Q cl sl pc lv st0 ws := q_Vi (C := RX4) (ci := 5) cx (gi_V tb_764 tb_765 tb_766 tb_7 tb_767) ⟨rfl, by decide +kernel, by decide +kernel, by decide +kernel⟩ rfl rfl hM hd q0 he hR hroom hst hn hW kk
theorem k_L_129 (cx : q_cx g p m c cc nL s args RL meth) {post : Int32 → va_W → Prop} (hM : MetH l g yL_copy cL_copy 4 (some .int) [(0, 9, 12, 13)] rm As ws (q_Qi g post)) (hd : decode cc pc = .ok (.invokestatic 129, 3)) (hR : rm.frames + 1 ≤ R.frames ∧ 8 + (4 + 11) + rm.locals ≤ R.locals) (hroom : cl + rm.cells ≤ R.cells ∧ sl + rm.slots ≤ R.slots) (hst : st0 = As.reverse ++ st) (hn : As.length = 3) (hW : (st.map fun v => v.category).sum ≤ 8) (kk : ∀ (r : Int32) (u : va_W), post r u → AT p l e R s m args below meth c g nL Q (cl + rm.cells) (sl + rm.slots) (pc + 3) lv (.int r :: st) u) : AT p l e R s m args below meth c g nL Q cl sl pc lv st0 ws := q_SWi cx (gi_S tb_528 tb_529 tb_0 tb_530) ⟨by decide +kernel, by decide +kernel, by decide +kernel⟩ hM hd hR hroom hst hn hW kk
theorem k_L_131 (cx : q_cx g p m c cc nL s args RL meth) {post : Int32 → va_W → Prop} (hM : MetW l g yX4_copy cX4_copy 2 (some .int) rm (.ref b :: As) ws (q_Qi g post)) (hd : decode cc pc = .ok (.invokevirtual 131, 3)) (q0 : Nat) {fs : List Value} (he : ws[q0]? = some (b, .inr (5, fs))) (hR : rm.frames + 1 ≤ R.frames ∧ 8 + (2 + 11) + rm.locals ≤ R.locals) (hroom : cl + rm.cells ≤ R.cells ∧ sl + rm.slots ≤ R.slots) (hst : st0 = As.reverse ++ .ref b :: st) (hn : As.length = 1) (hW : (st.map fun v => v.category).sum ≤ 8) (kk : ∀ (r : Int32) (u : va_W), post r u → AT p l e R s m args below meth c g nL Q (cl + rm.cells) (sl + rm.slots) (pc + 3) lv (.int r :: st) u) : AT p l e R s m args below meth c g nL Q cl sl pc lv st0 ws := q_Vi (C := RX4) (ci := 5) cx (gi_V tb_769 tb_770 tb_771 tb_7 tb_772) ⟨rfl, by decide +kernel, by decide +kernel, by decide +kernel⟩ rfl rfl hM hd q0 he hR hroom hst hn hW kk
theorem k_L_132 (cx : q_cx g p m c cc nL s args RL meth) {post : Int32 → va_W → Prop} (hM : MetH l g yL_tell cL_tell 4 (some .int) [(0, 9, 12, 13)] rm As ws (q_Qi g post)) (hd : decode cc pc = .ok (.invokestatic 132, 3)) (hR : rm.frames + 1 ≤ R.frames ∧ 8 + (4 + 11) + rm.locals ≤ R.locals) (hroom : cl + rm.cells ≤ R.cells ∧ sl + rm.slots ≤ R.slots) (hst : st0 = As.reverse ++ st) (hn : As.length = 3) (hW : (st.map fun v => v.category).sum ≤ 8) (kk : ∀ (r : Int32) (u : va_W), post r u → AT p l e R s m args below meth c g nL Q (cl + rm.cells) (sl + rm.slots) (pc + 3) lv (.int r :: st) u) : AT p l e R s m args below meth c g nL Q cl sl pc lv st0 ws := q_SWi cx (gi_S tb_536 tb_537 tb_0 tb_538) ⟨by decide +kernel, by decide +kernel, by decide +kernel⟩ hM hd hR hroom hst hn hW kk
theorem k_L_134 (cx : q_cx g p m c cc nL s args RL meth) {post : Int32 → va_W → Prop} (hM : MetW l g yX4_tell cX4_tell 3 (some .int) rm (.ref b :: As) ws (q_Qi g post)) (hd : decode cc pc = .ok (.invokevirtual 134, 3)) (q0 : Nat) {fs : List Value} (he : ws[q0]? = some (b, .inr (5, fs))) (hR : rm.frames + 1 ≤ R.frames ∧ 8 + (3 + 11) + rm.locals ≤ R.locals) (hroom : cl + rm.cells ≤ R.cells ∧ sl + rm.slots ≤ R.slots) (hst : st0 = As.reverse ++ .ref b :: st) (hn : As.length = 1) (hW : (st.map fun v => v.category).sum ≤ 8) (kk : ∀ (r : Int32) (u : va_W), post r u → AT p l e R s m args below meth c g nL Q (cl + rm.cells) (sl + rm.slots) (pc + 3) lv (.int r :: st) u) : AT p l e R s m args below meth c g nL Q cl sl pc lv st0 ws := q_Vi (C := RX4) (ci := 5) cx (gi_V tb_780 tb_781 tb_782 tb_7 tb_783) ⟨rfl, by decide +kernel, by decide +kernel, by decide +kernel⟩ rfl rfl hM hd q0 he hR hroom hst hn hW kk
theorem k_L_135 (cx : q_cx g p m c cc nL s args RL meth) {post : Int32 → va_W → Prop} (hM : MetH l g yL_owed cL_owed 4 (some .int) [(0, 9, 12, 13)] rm As ws (q_Qi g post)) (hd : decode cc pc = .ok (.invokestatic 135, 3)) (hR : rm.frames + 1 ≤ R.frames ∧ 8 + (4 + 11) + rm.locals ≤ R.locals) (hroom : cl + rm.cells ≤ R.cells ∧ sl + rm.slots ≤ R.slots) (hst : st0 = As.reverse ++ st) (hn : As.length = 3) (hW : (st.map fun v => v.category).sum ≤ 8) (kk : ∀ (r : Int32) (u : va_W), post r u → AT p l e R s m args below meth c g nL Q (cl + rm.cells) (sl + rm.slots) (pc + 3) lv (.int r :: st) u) : AT p l e R s m args below meth c g nL Q cl sl pc lv st0 ws := q_SWi cx (gi_S tb_543 tb_544 tb_0 tb_545) ⟨by decide +kernel, by decide +kernel, by decide +kernel⟩ hM hd hR hroom hst hn hW kk
theorem k_L_137 (cx : q_cx g p m c cc nL s args RL meth) {post : Int32 → va_W → Prop} (hM : MetW l g yX4_owed cX4_owed 2 (some .int) rm (.ref b :: As) ws (q_Qi g post)) (hd : decode cc pc = .ok (.invokevirtual 137, 3)) (q0 : Nat) {fs : List Value} (he : ws[q0]? = some (b, .inr (5, fs))) (hR : rm.frames + 1 ≤ R.frames ∧ 8 + (2 + 11) + rm.locals ≤ R.locals) (hroom : cl + rm.cells ≤ R.cells ∧ sl + rm.slots ≤ R.slots) (hst : st0 = As.reverse ++ .ref b :: st) (hn : As.length = 1) (hW : (st.map fun v => v.category).sum ≤ 8) (kk : ∀ (r : Int32) (u : va_W), post r u → AT p l e R s m args below meth c g nL Q (cl + rm.cells) (sl + rm.slots) (pc + 3) lv (.int r :: st) u) : AT p l e R s m args below meth c g nL Q cl sl pc lv st0 ws := q_Vi (C := RX4) (ci := 5) cx (gi_V tb_784 tb_785 tb_786 tb_7 tb_787) ⟨rfl, by decide +kernel, by decide +kernel, by decide +kernel⟩ rfl rfl hM hd q0 he hR hroom hst hn hW kk
theorem k_L_138 (cx : q_cx g p m c cc nL s args RL meth) {post : Int32 → va_W → Prop} (hM : MetH l g yL_quote cL_quote 4 (some .int) [(0, 9, 12, 13), (0, 9, 15, 15)] rm As ws (q_Qi g post)) (hd : decode cc pc = .ok (.invokestatic 138, 3)) (hR : rm.frames + 1 ≤ R.frames ∧ 8 + (4 + 11) + rm.locals ≤ R.locals) (hroom : cl + rm.cells ≤ R.cells ∧ sl + rm.slots ≤ R.slots) (hst : st0 = As.reverse ++ st) (hn : As.length = 3) (hW : (st.map fun v => v.category).sum ≤ 8) (kk : ∀ (r : Int32) (u : va_W), post r u → AT p l e R s m args below meth c g nL Q (cl + rm.cells) (sl + rm.slots) (pc + 3) lv (.int r :: st) u) : AT p l e R s m args below meth c g nL Q cl sl pc lv st0 ws := q_SWi cx (gi_S tb_550 tb_551 tb_0 tb_552) ⟨by decide +kernel, by decide +kernel, by decide +kernel⟩ hM hd hR hroom hst hn hW kk
theorem k_L_140 (cx : q_cx g p m c cc nL s args RL meth) {post : Int32 → va_W → Prop} (hM : MetW l g yX4_quote cX4_quote 2 (some .int) rm (.ref b :: As) ws (q_Qi g post)) (hd : decode cc pc = .ok (.invokevirtual 140, 3)) (q0 : Nat) {fs : List Value} (he : ws[q0]? = some (b, .inr (5, fs))) (hR : rm.frames + 1 ≤ R.frames ∧ 8 + (2 + 11) + rm.locals ≤ R.locals) (hroom : cl + rm.cells ≤ R.cells ∧ sl + rm.slots ≤ R.slots) (hst : st0 = As.reverse ++ .ref b :: st) (hn : As.length = 1) (hW : (st.map fun v => v.category).sum ≤ 8) (kk : ∀ (r : Int32) (u : va_W), post r u → AT p l e R s m args below meth c g nL Q (cl + rm.cells) (sl + rm.slots) (pc + 3) lv (.int r :: st) u) : AT p l e R s m args below meth c g nL Q cl sl pc lv st0 ws := q_Vi (C := RX4) (ci := 5) cx (gi_V tb_788 tb_789 tb_790 tb_7 tb_791) ⟨rfl, by decide +kernel, by decide +kernel, by decide +kernel⟩ rfl rfl hM hd q0 he hR hroom hst hn hW kk
theorem k_L_141 (cx : q_cx g p m c cc nL s args RL meth) {post : Int32 → va_W → Prop} (hM : MetH l g yL_quoted cL_quoted 4 (some .int) [(0, 9, 12, 13)] rm As ws (q_Qi g post)) (hd : decode cc pc = .ok (.invokestatic 141, 3)) (hR : rm.frames + 1 ≤ R.frames ∧ 8 + (4 + 11) + rm.locals ≤ R.locals) (hroom : cl + rm.cells ≤ R.cells ∧ sl + rm.slots ≤ R.slots) (hst : st0 = As.reverse ++ st) (hn : As.length = 3) (hW : (st.map fun v => v.category).sum ≤ 8) (kk : ∀ (r : Int32) (u : va_W), post r u → AT p l e R s m args below meth c g nL Q (cl + rm.cells) (sl + rm.slots) (pc + 3) lv (.int r :: st) u) : AT p l e R s m args below meth c g nL Q cl sl pc lv st0 ws := q_SWi cx (gi_S tb_558 tb_559 tb_0 tb_560) ⟨by decide +kernel, by decide +kernel, by decide +kernel⟩ hM hd hR hroom hst hn hW kk
theorem k_L_143 (cx : q_cx g p m c cc nL s args RL meth) {post : Int32 → va_W → Prop} (hM : MetW l g yX4_quoted cX4_quoted 2 (some .int) rm (.ref b :: As) ws (q_Qi g post)) (hd : decode cc pc = .ok (.invokevirtual 143, 3)) (q0 : Nat) {fs : List Value} (he : ws[q0]? = some (b, .inr (5, fs))) (hR : rm.frames + 1 ≤ R.frames ∧ 8 + (2 + 11) + rm.locals ≤ R.locals) (hroom : cl + rm.cells ≤ R.cells ∧ sl + rm.slots ≤ R.slots) (hst : st0 = As.reverse ++ .ref b :: st) (hn : As.length = 1) (hW : (st.map fun v => v.category).sum ≤ 8) (kk : ∀ (r : Int32) (u : va_W), post r u → AT p l e R s m args below meth c g nL Q (cl + rm.cells) (sl + rm.slots) (pc + 3) lv (.int r :: st) u) : AT p l e R s m args below meth c g nL Q cl sl pc lv st0 ws := q_Vi (C := RX4) (ci := 5) cx (gi_V tb_792 tb_793 tb_794 tb_7 tb_795) ⟨rfl, by decide +kernel, by decide +kernel, by decide +kernel⟩ rfl rfl hM hd q0 he hR hroom hst hn hW kk
end SITES
end
section
/-! numbers in a range, texts of forms, how a rule changes a form -/
def inR (x : Int32) (n : Nat) : Bool := decide (0 ≤ x.toInt ∧ x.toInt < n)
theorem i_lt (a b : Int32) : a < b ↔ a.toInt < b.toInt := Int32.lt_iff_toInt_lt
theorem i_le (a b : Int32) : a ≤ b ↔ a.toInt ≤ b.toInt := Int32.le_iff_toInt_le
theorem i_eq (a b : Int32) : a = b ↔ a.toInt = b.toInt := Int32.toInt_inj.symm
theorem i_0 : (0 : Int32).toInt = 0 := rfl
theorem inR_f1 {x : Int32} {n : Nat} (h : x < 0) : inR x n = false := by
  rw [i_lt, i_0] at h
  simp only [inR, decide_eq_false_iff_not]
  omega
theorem inR_f2 {x : Int32} {n : Nat} (hn : n < 2147483648) (h : ¬ x < nI n) : inR x n = false := by
  rw [i_lt, nI_toInt hn] at h
  simp only [inR, decide_eq_false_iff_not]
  omega
theorem inR_t {x : Int32} {n : Nat} (hn : n < 2147483648) (h : ¬ x < 0) (h2 : x < nI n) : inR x n = true := by
  rw [i_lt, nI_toInt hn] at h2
  rw [i_lt, i_0] at h
  simp only [inR, decide_eq_true_eq]
  omega
theorem inR_of {x : Int32} {n : Nat} (h : inR x n = true) (hn : n ≤ 2147483648) : ∃ j : Nat, j < n ∧ x = nI j := by
  simp only [inR, decide_eq_true_eq] at h
  refine ⟨x.toInt.toNat, by omega, ?_⟩
  rw [i_eq, nI_toInt (by omega)]
  omega
theorem inR_nI {j n : Nat} (hj : j < 2147483648) : inR (nI j) n = decide (j < n) := by
  simp only [inR, nI_toInt hj]
  by_cases h : j < n
  · rw [decide_eq_true h, decide_eq_true (by omega)]
  · rw [decide_eq_false h, decide_eq_false (by omega)]
theorem inR_mono {x : Int32} {n k : Nat} (h : inR x n = true) (hk : n ≤ k) : inR x k = true := by
  simp only [inR, decide_eq_true_eq] at h ⊢
  omega
theorem inR_10a {x : Int32} (h : x = nI 8) : inR x 10 = true := by subst h; decide
theorem inR_10b {x : Int32} (h : x = nI 9) : inR x 10 = true := by subst h; decide
theorem inR_10c {x : Int32} (h8 : ¬ x = nI 8) (h9 : ¬ x = nI 9) : inR x 10 = inR x 8 := by
  rw [i_eq, nI_toInt (by decide)] at h8 h9
  simp only [inR]
  by_cases h : 0 ≤ x.toInt ∧ x.toInt < (8 : Nat)
  · rw [decide_eq_true h, decide_eq_true (by omega)]
  · rw [decide_eq_false h, decide_eq_false (by omega)]
/-- a bit of a set -/
def hasB (t b : Int64) : Bool := !decide (t &&& b = 0)
theorem lcmp_z (x y : Int64) : lg_cmp x y = 0 ↔ x = y := by
  unfold lg_cmp
  split
  · rename_i h
    constructor
    · intro z; exact absurd z (by decide)
    · intro z; subst z; exact absurd h (by simp [Int64.lt_iff_toInt_lt])
  · split
    · rename_i h1 h2
      simp_all
    · rename_i h1 h2
      constructor
      · intro z; exact absurd z (by decide)
      · intro z; subst z; exact absurd rfl h2
theorem hasB_f {t b : Int64} (h : lg_cmp (t &&& b) 0 = 0) : hasB t b = false := by rw [hasB, decide_eq_true ((lcmp_z _ _).mp h)]; rfl
theorem hasB_t {t b : Int64} (h : ¬ lg_cmp (t &&& b) 0 = 0) : hasB t b = true := by rw [hasB, decide_eq_false (fun z => h ((lcmp_z _ _).mpr z))]; rfl
/-- the objects' cells -/
def oI (bt : Int64) (i p y w f : Int32) : va_E := .inr (1, [.long bt, .int i, .int p, .int y, .int w, .int f])
def oR (s t b f l y : Int32) (gr : Int64) (fa : Bool) : va_E := .inr (2, [.int s, .int t, .int b, .int f, .int l, .int y, .long gr, .int (bI fa)])
/-- the number of a form -/
def num (l : List Nat) : Nat := l.foldl (fun a s => 9 * a + s + 1) 0
theorem num_nil : num [] = 0 := rfl
theorem num_snoc (l : List Nat) (s : Nat) : num (l ++ [s]) = 9 * num l + s + 1 := by simp [num, List.foldl_append]
theorem num_fold (a : Nat) (l : List Nat) : l.foldl (fun a s => 9 * a + s + 1) a = a * 9 ^ l.length + num l := by
  induction l generalizing a with
  | nil => simp [num]
  | cons x xs ih =>
    have e : num (x :: xs) = (9 * 0 + x + 1) * 9 ^ xs.length + num xs := by rw [← ih]; rfl
    rw [List.foldl_cons, ih, e, List.length_cons, Nat.pow_succ]
    simp only [Nat.mul_zero, Nat.zero_add, Nat.add_mul, Nat.one_mul]
    have : 9 * a * 9 ^ xs.length = a * (9 ^ xs.length * 9) := by rw [Nat.mul_comm 9 a, Nat.mul_assoc, Nat.mul_comm 9]
    omega
theorem num_cons (x : Nat) (l : List Nat) : num (x :: l) = (x + 1) * 9 ^ l.length + num l := by
  rw [num, List.foldl_cons, num_fold]
  simp
theorem num_app (a b : List Nat) : num (a ++ b) = num a * 9 ^ b.length + num b := by rw [num, List.foldl_append, ← num, num_fold]
/-- a row of sounds -/
def snd (l : List Nat) : Prop := ∀ x ∈ l, x < 8
theorem snd_nil : snd [] := fun _ h => by cases h
theorem snd_cons {x : Nat} {l : List Nat} : snd (x :: l) ↔ x < 8 ∧ snd l := by simp [snd]
theorem snd_app {a b : List Nat} : snd (a ++ b) ↔ snd a ∧ snd b := by
  simp only [snd, List.mem_append]
  exact ⟨fun h => ⟨fun x hx => h x (Or.inl hx), fun x hx => h x (Or.inr hx)⟩, fun h x hx => hx.elim (h.1 x) (h.2 x)⟩
theorem num_lt (l : List Nat) (h : snd l) : num l < 9 ^ l.length := by
  induction l with
  | nil => simp [num]
  | cons x xs ih =>
    have h1 := ih (snd_cons.mp h).2
    have h2 : (x + 1) * 9 ^ xs.length ≤ 8 * 9 ^ xs.length := Nat.mul_le_mul_right _ (by have := (snd_cons.mp h).1; omega)
    rw [num_cons, List.length_cons, Nat.pow_succ]
    omega
theorem p9 {n : Nat} (h : n ≤ 8) : 9 ^ n ≤ 43046721 := Nat.pow_le_pow_right (n := 9) (by decide) h
theorem num_bd {l : List Nat} (h : snd l) (hl : l.length ≤ 8) : num l < 43046721 := Nat.lt_of_lt_of_le (num_lt l h) (p9 hl)
theorem num_pos {l : List Nat} (h : l ≠ []) : 0 < num l := by
  cases l with
  | nil => exact absurd rfl h
  | cons x xs =>
    rw [num_cons]
    have : 0 < 9 ^ xs.length := Nat.pow_pos (by decide)
    have : 1 * 9 ^ xs.length ≤ (x + 1) * 9 ^ xs.length := Nat.mul_le_mul_right _ (by omega)
    omega
theorem num_zero {l : List Nat} : num l = 0 ↔ l = [] := ⟨fun h => Classical.byContradiction fun z => by have := num_pos z; omega, fun h => by rw [h]; rfl⟩
/-- what stands behind, in a rest of a form -/
def fol (l : List Nat) : Nat := l.headD 8
def chg (so : Nat) (be : Nat) (x f : Nat) : Bool := decide (x = so) && (decide (be = 9) || decide (be = f))
def pce (so : Nat) (to : Option Nat) (be : Nat) (x f : Nat) : List Nat := if chg so be x f then to.toList else [x]
def apL (so : Nat) (to : Option Nat) (be : Nat) : List Nat → List Nat
  | [] => []
  | x :: xs => pce so to be x (fol xs) ++ apL so to be xs
def apR (so : Nat) (to : Option Nat) (be : Nat) (l : List Nat) : List Nat := if apL so to be l = [] then l else apL so to be l
theorem apL_len (so : Nat) (to : Option Nat) (be : Nat) (l : List Nat) : (apL so to be l).length ≤ l.length := by
  induction l with
  | nil => exact Nat.le_refl _
  | cons x xs ih =>
    have : (pce so to be x (fol xs)).length ≤ 1 := by
      unfold pce
      split
      · cases to <;> simp
      · simp
    simp only [apL, List.length_append, List.length_cons]
    omega
theorem apL_snd {so : Nat} {to : Option Nat} {be : Nat} {l : List Nat} (ht : ∀ t, to = some t → t < 8) (h : snd l) : snd (apL so to be l) := by
  induction l with
  | nil => exact snd_nil
  | cons x xs ih =>
    have h2 := snd_cons.mp h
    refine snd_app.mpr ⟨?_, ih h2.2⟩
    unfold pce
    split
    · cases to with
      | none => exact snd_nil
      | some t => exact snd_cons.mpr ⟨ht t rfl, snd_nil⟩
    · exact snd_cons.mpr ⟨h2.1, snd_nil⟩
theorem apR_len (so : Nat) (to : Option Nat) (be : Nat) (l : List Nat) : (apR so to be l).length ≤ l.length := by
  unfold apR
  split
  · exact Nat.le_refl _
  · exact apL_len so to be l
theorem apR_snd {so : Nat} {to : Option Nat} {be : Nat} {l : List Nat} (ht : ∀ t, to = some t → t < 8) (h : snd l) : snd (apR so to be l) := by
  unfold apR
  split
  · exact h
  · exact apL_snd ht h
theorem apR_ne {so : Nat} {to : Option Nat} {be : Nat} {l : List Nat} (h : l ≠ []) : apR so to be l ≠ [] := by
  unfold apR
  split
  · exact h
  · assumption
def toI : Option Nat → Int32
  | none => -1
  | some t => nI t
theorem nI_inj {a b : Nat} (ha : a < 2147483648) (hb : b < 2147483648) : nI a = nI b ↔ a = b := nI_eq ha hb
theorem nI_nm1 {a : Nat} (ha : a < 2147483648) : nI a ≠ -1 := by
  rw [Ne, i_eq, nI_toInt ha]
  have : (-1 : Int32).toInt = -1 := rfl
  omega
end
section
set_option maxHeartbeats 4000000 in
set_option maxRecDepth 100000 in
theorem c_isOutside (l : Launch) (g : q_G) (ws : va_W) (x : Int32) (n : Nat) (hn : n < 2147483648) : MetW l g yX3_isOutside cX3_isOutside 2 (some .boolean) ({ frames := 0, cells := 0, slots := 0, locals := 0 } : Room) [.int x, .int (nI n)] (ws) (q_Qi g (fun r w => r = bI (!inR x n) ∧ w = ws)) := by
  refine q_met (own := RX3) (by decide +kernel) rfl (Nat.le_of_ble_eq_true rfl) (fun p e s m args below meth c cx hr hnm => ?_)
  refine r_lv (lv2 := [(0, .int x), (1, .int (nI n))]) (q_pk [0, 1] rfl) ?_
  refine r_iload_n cx dX3_isOutside_0 rfl rfl ?_
  refine r_iflt (tgt := 9) cx dX3_isOutside_1 (by decide) (fun h_1 => ?_) (fun h_1 => ?_)
  · skip
    refine r_iconst (v := nI 1) cx dX3_isOutside_9 (by decide) ?_
    refine r_goto (tgt := 14) cx dX3_isOutside_10 (by decide) ?_
    exact r_zret cx dX3_isOutside_14 hr rfl (⟨by first | (rw [inR_f1 h_1]; rfl) | (rw [inR_f2 hn h_6]; rfl) | (rw [inR_t hn h_1 h_6]; rfl), rfl⟩) (Nat.le_of_ble_eq_true rfl) (Nat.le_of_ble_eq_true rfl)
  · skip
    refine r_iload_n cx dX3_isOutside_4 rfl rfl ?_
    refine r_iload_n cx dX3_isOutside_5 rfl rfl ?_
    refine r_icmplt (tgt := 13) cx dX3_isOutside_6 (by decide) (fun h_6 => ?_) (fun h_6 => ?_)
    · skip
      refine r_iconst (v := nI 0) cx dX3_isOutside_13 (by decide) ?_
      exact r_zret cx dX3_isOutside_14 hr rfl (⟨by first | (rw [inR_f1 h_1]; rfl) | (rw [inR_f2 hn h_6]; rfl) | (rw [inR_t hn h_1 h_6]; rfl), rfl⟩) (Nat.le_of_ble_eq_true rfl) (Nat.le_of_ble_eq_true rfl)
    · skip
      refine r_iconst (v := nI 1) cx dX3_isOutside_9 (by decide) ?_
      refine r_goto (tgt := 14) cx dX3_isOutside_10 (by decide) ?_
      exact r_zret cx dX3_isOutside_14 hr rfl (⟨by first | (rw [inR_f1 h_1]; rfl) | (rw [inR_f2 hn h_6]; rfl) | (rw [inR_t hn h_1 h_6]; rfl), rfl⟩) (Nat.le_of_ble_eq_true rfl) (Nat.le_of_ble_eq_true rfl)
set_option maxHeartbeats 4000000 in
set_option maxRecDepth 100000 in
theorem c_canStandBehind (l : Launch) (g : q_G) (ws : va_W) (x : Int32) : MetW l g yX3_canStandBehind cX3_canStandBehind 1 (some .boolean) ({ frames := 1, cells := 0, slots := 0, locals := 21 } : Room) [.int x] (ws) (q_Qi g (fun r w => r = bI (inR x 10) ∧ w = ws)) := by
  refine q_met (own := RX3) (by decide +kernel) rfl (Nat.le_of_ble_eq_true rfl) (fun p e s m args below meth c cx hr hnm => ?_)
  refine r_lv (lv2 := [(0, .int x)]) (q_pk [0] rfl) ?_
  refine r_iload_n cx dX3_canStandBehind_0 rfl rfl ?_
  refine r_bipush (v := nI 8) cx dX3_canStandBehind_1 (by decide) ?_
  refine r_icmpeq (tgt := 21) cx dX3_canStandBehind_3 (by decide) (fun h_3 => ?_) (fun h_3 => ?_)
  · skip
    refine r_iconst (v := nI 1) cx dX3_canStandBehind_21 (by decide) ?_
    refine r_goto (tgt := 26) cx dX3_canStandBehind_22 (by decide) ?_
    exact r_zret cx dX3_canStandBehind_26 hr rfl (⟨by first | (rw [inR_10a h_3]; rfl) | (rw [inR_10b h_9]; rfl) | (rw [inR_10c h_3 h_9, (by simpa using h_18 : inR x 8 = true)]; rfl) | (rw [inR_10c h_3 h_9, (by simpa using h_18 : inR x 8 = false)]; rfl), rfl⟩) (Nat.le_of_ble_eq_true rfl) (Nat.le_of_ble_eq_true rfl)
  · skip
    refine r_iload_n cx dX3_canStandBehind_6 rfl rfl ?_
    refine r_bipush (v := nI 9) cx dX3_canStandBehind_7 (by decide) ?_
    refine r_icmpeq (tgt := 21) cx dX3_canStandBehind_9 (by decide) (fun h_9 => ?_) (fun h_9 => ?_)
    · skip
      refine r_iconst (v := nI 1) cx dX3_canStandBehind_21 (by decide) ?_
      refine r_goto (tgt := 26) cx dX3_canStandBehind_22 (by decide) ?_
      exact r_zret cx dX3_canStandBehind_26 hr rfl (⟨by first | (rw [inR_10a h_3]; rfl) | (rw [inR_10b h_9]; rfl) | (rw [inR_10c h_3 h_9, (by simpa using h_18 : inR x 8 = true)]; rfl) | (rw [inR_10c h_3 h_9, (by simpa using h_18 : inR x 8 = false)]; rfl), rfl⟩) (Nat.le_of_ble_eq_true rfl) (Nat.le_of_ble_eq_true rfl)
    · skip
      refine r_iload_n cx dX3_canStandBehind_12 rfl rfl ?_
      refine r_bipush (v := nI 8) cx dX3_canStandBehind_13 (by decide) ?_
      refine k_X3_57 cx (c_isOutside l g _ x 8 (by decide)) dX3_canStandBehind_15 ⟨Nat.le_of_ble_eq_true rfl, Nat.le_of_ble_eq_true rfl⟩ ⟨Nat.le_of_ble_eq_true rfl, Nat.le_of_ble_eq_true rfl⟩ rfl rfl (Nat.le_of_ble_eq_true rfl) (fun r w hp => ?_)
      obtain ⟨rfl, rfl⟩ := hp
      refine r_ifneb (tgt := 25) cx dX3_canStandBehind_18 (by decide) (fun h_18 => ?_) (fun h_18 => ?_)
      · skip
        refine r_iconst (v := nI 0) cx dX3_canStandBehind_25 (by decide) ?_
        exact r_zret cx dX3_canStandBehind_26 hr rfl (⟨by first | (rw [inR_10a h_3]; rfl) | (rw [inR_10b h_9]; rfl) | (rw [inR_10c h_3 h_9, (by simpa using h_18 : inR x 8 = true)]; rfl) | (rw [inR_10c h_3 h_9, (by simpa using h_18 : inR x 8 = false)]; rfl), rfl⟩) (Nat.le_of_ble_eq_true rfl) (Nat.le_of_ble_eq_true rfl)
      · skip
        refine r_iconst (v := nI 1) cx dX3_canStandBehind_21 (by decide) ?_
        refine r_goto (tgt := 26) cx dX3_canStandBehind_22 (by decide) ?_
        exact r_zret cx dX3_canStandBehind_26 hr rfl (⟨by first | (rw [inR_10a h_3]; rfl) | (rw [inR_10b h_9]; rfl) | (rw [inR_10c h_3 h_9, (by simpa using h_18 : inR x 8 = true)]; rfl) | (rw [inR_10c h_3 h_9, (by simpa using h_18 : inR x 8 = false)]; rfl), rfl⟩) (Nat.le_of_ble_eq_true rfl) (Nat.le_of_ble_eq_true rfl)
set_option maxHeartbeats 4000000 in
set_option maxRecDepth 100000 in
theorem c_takeDraft (l : Launch) (g : q_G) (wr : va_W) (a0 : Nat) (r0 r1 r2 r3 r4 r5 r6 : Value) (th : Int64) (dr dl : Int32) : MetW l g yX3_takeDraft cX3_takeDraft 2 (some .int) ({ frames := 0, cells := 0, slots := 0, locals := 0 } : Room) [.ref a0] ((a0, .inr (4, [r0, r1, r2, r3, r4, r5, r6, .long th, .int dr, .int dl])) :: wr) (q_Qi g (fun r w => r = dr ∧ w = (a0, .inr (4, [r0, r1, r2, r3, r4, r5, r6, .long th, .int 0, .int 0])) :: wr)) := by
  refine q_met (own := RX3) (by decide +kernel) rfl (Nat.le_of_ble_eq_true rfl) (fun p e s m args below meth c cx hr hnm => ?_)
  refine r_lv (lv2 := [(0, .ref a0)]) (q_pk [0] rfl) ?_
  refine r_aload_n cx dX3_takeDraft_0 rfl rfl ?_
  refine gf_X3_44 cx dX3_takeDraft_1 0 rfl rfl ?_
  refine r_istore_n cx dX3_takeDraft_4 rfl (by decide) rfl ?_
  refine r_aload_n cx dX3_takeDraft_5 rfl rfl ?_
  refine r_iconst (v := 0) cx dX3_takeDraft_6 (by decide) ?_
  refine pf_X3_44 cx dX3_takeDraft_7 0 rfl (Nat.le_of_ble_eq_true rfl) ?_
  refine r_aload_n cx dX3_takeDraft_10 rfl rfl ?_
  refine r_iconst (v := 0) cx dX3_takeDraft_11 (by decide) ?_
  refine pf_X3_48 cx dX3_takeDraft_12 0 rfl (Nat.le_of_ble_eq_true rfl) ?_
  refine r_iload_n cx dX3_takeDraft_15 rfl rfl ?_
  exact r_iret cx dX3_takeDraft_16 hr (⟨rfl, rfl⟩) (Nat.le_of_ble_eq_true rfl) (Nat.le_of_ble_eq_true rfl)
set_option maxHeartbeats 4000000 in
set_option maxRecDepth 100000 in
theorem c_isThere (l : Launch) (g : q_G) (ws : va_W) (q0 q1 a0 a1 : Nat) (r0 r1 r2 r3 r4 r5 r6 : Value) (th : Int64) (dr dl : Int32) (bt : Int64) (inf pl yr wd fo : Int32) (h0 : ws[q0]? = some (a0, .inr (4, [r0, r1, r2, r3, r4, r5, r6, .long th, .int dr, .int dl]))) (h1 : ws[q1]? = some (a1, oI bt inf pl yr wd fo)) : MetW l g yX3_isThere cX3_isThere 2 (some .boolean) ({ frames := 0, cells := 0, slots := 0, locals := 0 } : Room) [.ref a0, .ref a1] (ws) (q_Qi g (fun r w => r = bI (hasB th bt) ∧ w = ws)) := by
  refine q_met (own := RX3) (by decide +kernel) rfl (Nat.le_of_ble_eq_true rfl) (fun p e s m args below meth c cx hr hnm => ?_)
  refine r_lv (lv2 := [(0, .ref a0), (1, .ref a1)]) (q_pk [0, 1] rfl) ?_
  refine r_aload_n cx dX3_isThere_0 rfl rfl ?_
  refine gf_X3_40 cx dX3_isThere_1 q0 h0 rfl ?_
  refine r_aload_n cx dX3_isThere_4 rfl rfl ?_
  refine gf_X3_151 cx dX3_isThere_5 q1 h1 rfl ?_
  refine r_land cx dX3_isThere_8 ?_
  refine r_lconst (v := 0) cx dX3_isThere_9 rfl ?_
  refine r_lcmp cx dX3_isThere_10 ?_
  refine r_ifeq (tgt := 18) cx dX3_isThere_11 (by decide) (fun h_11 => ?_) (fun h_11 => ?_)
  · skip
    refine r_iconst (v := nI 0) cx dX3_isThere_18 (by decide) ?_
    exact r_zret cx dX3_isThere_19 hr rfl (⟨by first | (rw [hasB_f h_11]; rfl) | (rw [hasB_t h_11]; rfl), rfl⟩) (Nat.le_of_ble_eq_true rfl) (Nat.le_of_ble_eq_true rfl)
  · skip
    refine r_iconst (v := nI 1) cx dX3_isThere_14 (by decide) ?_
    refine r_goto (tgt := 19) cx dX3_isThere_15 (by decide) ?_
    exact r_zret cx dX3_isThere_19 hr rfl (⟨by first | (rw [hasB_f h_11]; rfl) | (rw [hasB_t h_11]; rfl), rfl⟩) (Nat.le_of_ble_eq_true rfl) (Nat.le_of_ble_eq_true rfl)
set_option maxHeartbeats 4000000 in
set_option maxRecDepth 100000 in
theorem c_formIfThere (l : Launch) (g : q_G) (ws : va_W) (q0 q1 a0 a1 : Nat) (r0 r1 r2 r3 r4 r5 r6 : Value) (th : Int64) (dr dl : Int32) (bt : Int64) (inf pl yr wd fo : Int32) (h0 : ws[q0]? = some (a0, .inr (4, [r0, r1, r2, r3, r4, r5, r6, .long th, .int dr, .int dl]))) (h1 : ws[q1]? = some (a1, oI bt inf pl yr wd fo)) : MetW l g yX3_formIfThere cX3_formIfThere 2 (some .int) ({ frames := 1, cells := 0, slots := 0, locals := 21 } : Room) [.ref a0, .ref a1] (ws) (q_Qi g (fun r w => r = (if hasB th bt then fo else -1) ∧ w = ws)) := by
  refine q_met (own := RX3) (by decide +kernel) rfl (Nat.le_of_ble_eq_true rfl) (fun p e s m args below meth c cx hr hnm => ?_)
  refine r_lv (lv2 := [(0, .ref a0), (1, .ref a1)]) (q_pk [0, 1] rfl) ?_
  refine r_aload_n cx dX3_formIfThere_0 rfl rfl ?_
  refine r_aload_n cx dX3_formIfThere_1 rfl rfl ?_
  refine k_X3_139 cx (c_isThere l g ws q0 q1 a0 a1 r0 r1 r2 r3 r4 r5 r6 th dr dl bt inf pl yr wd fo h0 h1) dX3_formIfThere_2 q0 h0 ⟨Nat.le_of_ble_eq_true rfl, Nat.le_of_ble_eq_true rfl⟩ ⟨Nat.le_of_ble_eq_true rfl, Nat.le_of_ble_eq_true rfl⟩ rfl rfl (Nat.le_of_ble_eq_true rfl) (fun r w hp => ?_)
  obtain ⟨rfl, rfl⟩ := hp
  refine r_ifeqb (tgt := 15) cx dX3_formIfThere_5 (by decide) (fun h_5 => ?_) (fun h_5 => ?_)
  · skip
    refine r_iconst (v := -1) cx dX3_formIfThere_15 (by decide) ?_
    exact r_iret cx dX3_formIfThere_16 hr (⟨by rw [h_5]; rfl, rfl⟩) (Nat.le_of_ble_eq_true rfl) (Nat.le_of_ble_eq_true rfl)
  · skip
    refine r_aload_n cx dX3_formIfThere_8 rfl rfl ?_
    refine gf_X3_171 cx dX3_formIfThere_9 q1 h1 rfl ?_
    refine r_goto (tgt := 16) cx dX3_formIfThere_12 (by decide) ?_
    exact r_iret cx dX3_formIfThere_16 hr (⟨by rw [h_5]; rfl, rfl⟩) (Nat.le_of_ble_eq_true rfl) (Nat.le_of_ble_eq_true rfl)
set_option maxHeartbeats 4000000 in
set_option maxRecDepth 100000 in
theorem c_isFor (l : Launch) (g : q_G) (ws : va_W) (q1 a1 : Nat) (bt : Int64) (inf pl yr wd fo : Int32) (w0 p0 : Int32) (h1 : ws[q1]? = some (a1, oI bt inf pl yr wd fo)) : MetW l g yX0_isFor cX0_isFor 3 (some .boolean) ({ frames := 0, cells := 0, slots := 0, locals := 0 } : Room) [.ref a1, .int w0, .int p0] (ws) (q_Qi g (fun r w => r = bI (decide (wd = w0) && decide (pl = p0)) ∧ w = ws)) := by
  refine q_met (own := RX0) (by decide +kernel) rfl (Nat.le_of_ble_eq_true rfl) (fun p e s m args below meth c cx hr hnm => ?_)
  refine r_lv (lv2 := [(0, .ref a1), (1, .int w0), (2, .int p0)]) (q_pk [0, 1, 2] rfl) ?_
  refine r_aload_n cx dX0_isFor_0 rfl rfl ?_
  refine gf_X0_23 cx dX0_isFor_1 q1 h1 rfl ?_
  refine r_iload_n cx dX0_isFor_4 rfl rfl ?_
  refine r_icmpne (tgt := 20) cx dX0_isFor_5 (by decide) (fun h_5 => ?_) (fun h_5 => ?_)
  · skip
    refine r_iconst (v := nI 0) cx dX0_isFor_20 (by decide) ?_
    exact r_zret cx dX0_isFor_21 hr rfl (⟨by first | (rw [decide_eq_false h_5]; rfl) | (rw [decide_eq_true h_5, decide_eq_false h_13]; rfl) | (rw [decide_eq_true h_5, decide_eq_true h_13]; rfl), rfl⟩) (Nat.le_of_ble_eq_true rfl) (Nat.le_of_ble_eq_true rfl)
  · skip
    refine r_aload_n cx dX0_isFor_8 rfl rfl ?_
    refine gf_X0_17 cx dX0_isFor_9 q1 h1 rfl ?_
    refine r_iload_n cx dX0_isFor_12 rfl rfl ?_
    refine r_icmpne (tgt := 20) cx dX0_isFor_13 (by decide) (fun h_13 => ?_) (fun h_13 => ?_)
    · skip
      refine r_iconst (v := nI 0) cx dX0_isFor_20 (by decide) ?_
      exact r_zret cx dX0_isFor_21 hr rfl (⟨by first | (rw [decide_eq_false h_5]; rfl) | (rw [decide_eq_true h_5, decide_eq_false h_13]; rfl) | (rw [decide_eq_true h_5, decide_eq_true h_13]; rfl), rfl⟩) (Nat.le_of_ble_eq_true rfl) (Nat.le_of_ble_eq_true rfl)
    · skip
      refine r_iconst (v := nI 1) cx dX0_isFor_16 (by decide) ?_
      refine r_goto (tgt := 21) cx dX0_isFor_17 (by decide) ?_
      exact r_zret cx dX0_isFor_21 hr rfl (⟨by first | (rw [decide_eq_false h_5]; rfl) | (rw [decide_eq_true h_5, decide_eq_false h_13]; rfl) | (rw [decide_eq_true h_5, decide_eq_true h_13]; rfl), rfl⟩) (Nat.le_of_ble_eq_true rfl) (Nat.le_of_ble_eq_true rfl)
set_option maxHeartbeats 4000000 in
set_option maxRecDepth 100000 in
theorem c_Interview (l : Launch) (g : q_G) (wr : va_W) (a0 : Nat) (bt : Int64) (inf pl yr wd fo : Int32) : MetW l g yX0_init cX0_init 8 none ({ frames := 1, cells := 0, slots := 0, locals := 20 } : Room) [.ref a0, .long bt, .int inf, .int pl, .int yr, .int wd, .int fo] ((a0, .inr (1, [.long 0, .int 0, .int 0, .int 0, .int 0, .int 0])) :: wr) (q_Qv g (fun w => w = (a0, oI bt inf pl yr wd fo) :: wr)) := by
  refine q_met (own := RX0) (by decide +kernel) rfl (Nat.le_of_ble_eq_true rfl) (fun p e s m args below meth c cx hr hnm => ?_)
  refine r_lv (lv2 := [(0, .ref a0), (1, .long bt), (3, .int inf), (4, .int pl), (5, .int yr), (6, .int wd), (7, .int fo)]) (q_pk [0, 1, 2, 3, 4, 5, 6] rfl) ?_
  refine r_aload_n cx dX0_init_0 rfl rfl ?_
  refine r_objInit cx tb_237 tb_28 tb_29 dX0_init_1 (Nat.le_of_ble_eq_true rfl) (Nat.le_of_ble_eq_true rfl) ?_
  refine r_aload_n cx dX0_init_4 rfl rfl ?_
  refine r_lload_n cx dX0_init_5 rfl rfl ?_
  refine pf_X0_7 cx hnm dX0_init_6 0 rfl (Nat.le_of_ble_eq_true rfl) ?_
  refine r_aload_n cx dX0_init_9 rfl rfl ?_
  refine r_iload_n cx dX0_init_10 rfl rfl ?_
  refine pf_X0_13 cx hnm dX0_init_11 0 rfl (Nat.le_of_ble_eq_true rfl) ?_
  refine r_aload_n cx dX0_init_14 rfl rfl ?_
  refine r_iload cx dX0_init_15 rfl ?_
  refine pf_X0_17 cx hnm dX0_init_17 0 rfl (Nat.le_of_ble_eq_true rfl) ?_
  refine r_aload_n cx dX0_init_20 rfl rfl ?_
  refine r_iload cx dX0_init_21 rfl ?_
  refine pf_X0_20 cx hnm dX0_init_23 0 rfl (Nat.le_of_ble_eq_true rfl) ?_
  refine r_aload_n cx dX0_init_26 rfl rfl ?_
  refine r_iload cx dX0_init_27 rfl ?_
  refine pf_X0_23 cx hnm dX0_init_29 0 rfl (Nat.le_of_ble_eq_true rfl) ?_
  refine r_aload_n cx dX0_init_32 rfl rfl ?_
  refine r_iload cx dX0_init_33 rfl ?_
  refine pf_X0_26 cx hnm dX0_init_35 0 rfl (Nat.le_of_ble_eq_true rfl) ?_
  exact r_vret cx dX0_init_38 hr (rfl) (Nat.le_of_ble_eq_true rfl) (Nat.le_of_ble_eq_true rfl)
set_option maxHeartbeats 4000000 in
set_option maxRecDepth 100000 in
theorem c_Rule (l : Launch) (g : q_G) (wr : va_W) (a0 : Nat) (so to be fi la yr : Int32) : MetW l g yX1_init cX1_init 7 none ({ frames := 1, cells := 0, slots := 0, locals := 20 } : Room) [.ref a0, .int so, .int to, .int be, .int fi, .int la, .int yr] ((a0, .inr (2, [.int 0, .int 0, .int 0, .int 0, .int 0, .int 0, .long 0, .int 0])) :: wr) (q_Qv g (fun w => w = (a0, oR so to be fi la yr 0 false) :: wr)) := by
  refine q_met (own := RX1) (by decide +kernel) rfl (Nat.le_of_ble_eq_true rfl) (fun p e s m args below meth c cx hr hnm => ?_)
  refine r_lv (lv2 := [(0, .ref a0), (1, .int so), (2, .int to), (3, .int be), (4, .int fi), (5, .int la), (6, .int yr)]) (q_pk [0, 1, 2, 3, 4, 5, 6] rfl) ?_
  refine r_aload_n cx dX1_init_0 rfl rfl ?_
  refine r_objInit cx tb_394 tb_28 tb_29 dX1_init_1 (Nat.le_of_ble_eq_true rfl) (Nat.le_of_ble_eq_true rfl) ?_
  refine r_aload_n cx dX1_init_4 rfl rfl ?_
  refine r_lconst (v := 0) cx dX1_init_5 rfl ?_
  refine pf_X1_9 cx dX1_init_6 0 rfl (Nat.le_of_ble_eq_true rfl) ?_
  refine r_aload_n cx dX1_init_9 rfl rfl ?_
  refine r_iconst (v := bI false) cx dX1_init_10 (by decide) ?_
  refine pf_X1_15 cx dX1_init_11 0 rfl (Nat.le_of_ble_eq_true rfl) ?_
  refine r_aload_n cx dX1_init_14 rfl rfl ?_
  refine r_iload_n cx dX1_init_15 rfl rfl ?_
  refine pf_X1_19 cx hnm dX1_init_16 0 rfl (Nat.le_of_ble_eq_true rfl) ?_
  refine r_aload_n cx dX1_init_19 rfl rfl ?_
  refine r_iload_n cx dX1_init_20 rfl rfl ?_
  refine pf_X1_23 cx hnm dX1_init_21 0 rfl (Nat.le_of_ble_eq_true rfl) ?_
  refine r_aload_n cx dX1_init_24 rfl rfl ?_
  refine r_iload_n cx dX1_init_25 rfl rfl ?_
  refine pf_X1_26 cx hnm dX1_init_26 0 rfl (Nat.le_of_ble_eq_true rfl) ?_
  refine r_aload_n cx dX1_init_29 rfl rfl ?_
  refine r_iload cx dX1_init_30 rfl ?_
  refine pf_X1_29 cx hnm dX1_init_32 0 rfl (Nat.le_of_ble_eq_true rfl) ?_
  refine r_aload_n cx dX1_init_35 rfl rfl ?_
  refine r_iload cx dX1_init_36 rfl ?_
  refine pf_X1_32 cx hnm dX1_init_38 0 rfl (Nat.le_of_ble_eq_true rfl) ?_
  refine r_aload_n cx dX1_init_41 rfl rfl ?_
  refine r_iload cx dX1_init_42 rfl ?_
  refine pf_X1_35 cx hnm dX1_init_44 0 rfl (Nat.le_of_ble_eq_true rfl) ?_
  exact r_vret cx dX1_init_47 hr (rfl) (Nat.le_of_ble_eq_true rfl) (Nat.le_of_ble_eq_true rfl)
set_option maxHeartbeats 4000000 in
set_option maxRecDepth 100000 in
theorem c_restsOn (l : Launch) (g : q_G) (ws : va_W) (q0 q1 a0 a1 : Nat) (so to be fi la yr : Int32) (gr : Int64) (fa : Bool) (bt : Int64) (inf pl iy wd fo : Int32) (h0 : ws[q0]? = some (a0, oR so to be fi la yr gr fa)) (h1 : ws[q1]? = some (a1, oI bt inf pl iy wd fo)) : MetW l g yX1_restsOn cX1_restsOn 2 (some .boolean) ({ frames := 0, cells := 0, slots := 0, locals := 0 } : Room) [.ref a0, .ref a1] (ws) (q_Qi g (fun r w => r = bI (hasB gr bt) ∧ w = ws)) := by
  refine q_met (own := RX1) (by decide +kernel) rfl (Nat.le_of_ble_eq_true rfl) (fun p e s m args below meth c cx hr hnm => ?_)
  refine r_lv (lv2 := [(0, .ref a0), (1, .ref a1)]) (q_pk [0, 1] rfl) ?_
  refine r_aload_n cx dX1_restsOn_0 rfl rfl ?_
  refine gf_X1_9 cx dX1_restsOn_1 q0 h0 rfl ?_
  refine r_aload_n cx dX1_restsOn_4 rfl rfl ?_
  refine gf_X1_38 cx dX1_restsOn_5 q1 h1 rfl ?_
  refine r_land cx dX1_restsOn_8 ?_
  refine r_lconst (v := 0) cx dX1_restsOn_9 rfl ?_
  refine r_lcmp cx dX1_restsOn_10 ?_
  refine r_ifeq (tgt := 18) cx dX1_restsOn_11 (by decide) (fun h_11 => ?_) (fun h_11 => ?_)
  · skip
    refine r_iconst (v := nI 0) cx dX1_restsOn_18 (by decide) ?_
    exact r_zret cx dX1_restsOn_19 hr rfl (⟨by first | (rw [hasB_f h_11]; rfl) | (rw [hasB_t h_11]; rfl), rfl⟩) (Nat.le_of_ble_eq_true rfl) (Nat.le_of_ble_eq_true rfl)
  · skip
    refine r_iconst (v := nI 1) cx dX1_restsOn_14 (by decide) ?_
    refine r_goto (tgt := 19) cx dX1_restsOn_15 (by decide) ?_
    exact r_zret cx dX1_restsOn_19 hr rfl (⟨by first | (rw [hasB_f h_11]; rfl) | (rw [hasB_t h_11]; rfl), rfl⟩) (Nat.le_of_ble_eq_true rfl) (Nat.le_of_ble_eq_true rfl)
set_option maxHeartbeats 4000000 in
set_option maxRecDepth 100000 in
theorem c_restNoMoreOn (l : Launch) (g : q_G) (wr : va_W) (a0 : Nat) (so to be fi la yr : Int32) (gr : Int64) (fa : Bool) (fg : Int64) : MetW l g yX1_restNoMoreOn cX1_restNoMoreOn 3 none ({ frames := 0, cells := 0, slots := 0, locals := 0 } : Room) [.ref a0, .long fg] ((a0, oR so to be fi la yr gr fa) :: wr) (q_Qv g (fun w => w = (a0, oR so to be fi la yr (if hasB gr fg then gr &&& (fg ^^^ (-1)) else gr) (if hasB gr fg then decide (gr &&& (fg ^^^ (-1)) = 0) else fa)) :: wr)) := by
  refine q_met (own := RX1) (by decide +kernel) rfl (Nat.le_of_ble_eq_true rfl) (fun p e s m args below meth c cx hr hnm => ?_)
  refine r_lv (lv2 := [(0, .ref a0), (1, .long fg)]) (q_pk [0, 1] rfl) ?_
  refine r_aload_n cx dX1_restNoMoreOn_0 rfl rfl ?_
  refine gf_X1_9 cx dX1_restNoMoreOn_1 0 rfl rfl ?_
  refine r_lload_n cx dX1_restNoMoreOn_4 rfl rfl ?_
  refine r_land cx dX1_restNoMoreOn_5 ?_
  refine r_lconst (v := 0) cx dX1_restNoMoreOn_6 rfl ?_
  refine r_lcmp cx dX1_restNoMoreOn_7 ?_
  refine r_ifeq (tgt := 43) cx dX1_restNoMoreOn_8 (by decide) (fun h_8 => ?_) (fun h_8 => ?_)
  · skip
    exact r_vret cx dX1_restNoMoreOn_43 hr (by first | (rw [hasB_f h_8]; rfl) | (rw [hasB_t h_8, decide_eq_true ((lcmp_z _ _).mp (Classical.not_not.mp h_32))]; rfl) | (rw [hasB_t h_8, decide_eq_true ((lcmp_z _ _).mp h_32)]; rfl) | (rw [hasB_t h_8, decide_eq_false (fun z => h_32 ((lcmp_z _ _).mpr z))]; rfl)) (Nat.le_of_ble_eq_true rfl) (Nat.le_of_ble_eq_true rfl)
  · skip
    refine r_aload_n cx dX1_restNoMoreOn_11 rfl rfl ?_
    refine r_dup cx dX1_restNoMoreOn_12 rfl ?_
    refine gf_X1_9 cx dX1_restNoMoreOn_13 0 rfl rfl ?_
    refine r_lload_n cx dX1_restNoMoreOn_16 rfl rfl ?_
    refine r_ldc2 cx dX1_restNoMoreOn_17 tb_527 ?_
    refine r_lxor cx dX1_restNoMoreOn_20 ?_
    refine r_land cx dX1_restNoMoreOn_21 ?_
    refine pf_X1_9 cx dX1_restNoMoreOn_22 0 rfl (Nat.le_of_ble_eq_true rfl) ?_
    refine r_aload_n cx dX1_restNoMoreOn_25 rfl rfl ?_
    refine r_aload_n cx dX1_restNoMoreOn_26 rfl rfl ?_
    refine gf_X1_9 cx dX1_restNoMoreOn_27 0 rfl rfl ?_
    refine r_lconst (v := 0) cx dX1_restNoMoreOn_30 rfl ?_
    refine r_lcmp cx dX1_restNoMoreOn_31 ?_
    refine r_ifne (tgt := 39) cx dX1_restNoMoreOn_32 (by decide) (fun h_32 => ?_) (fun h_32 => ?_)
    · skip
      refine r_iconst (v := bI false) cx dX1_restNoMoreOn_39 (by decide) ?_
      refine pf_X1_15 cx dX1_restNoMoreOn_40 0 rfl (Nat.le_of_ble_eq_true rfl) ?_
      exact r_vret cx dX1_restNoMoreOn_43 hr (by first | (rw [hasB_f h_8]; rfl) | (rw [hasB_t h_8, decide_eq_true ((lcmp_z _ _).mp (Classical.not_not.mp h_32))]; rfl) | (rw [hasB_t h_8, decide_eq_true ((lcmp_z _ _).mp h_32)]; rfl) | (rw [hasB_t h_8, decide_eq_false (fun z => h_32 ((lcmp_z _ _).mpr z))]; rfl)) (Nat.le_of_ble_eq_true rfl) (Nat.le_of_ble_eq_true rfl)
    · skip
      refine r_iconst (v := bI true) cx dX1_restNoMoreOn_35 (by decide) ?_
      refine r_goto (tgt := 40) cx dX1_restNoMoreOn_36 (by decide) ?_
      refine pf_X1_15 cx dX1_restNoMoreOn_40 0 rfl (Nat.le_of_ble_eq_true rfl) ?_
      exact r_vret cx dX1_restNoMoreOn_43 hr (by first | (rw [hasB_f h_8]; rfl) | (rw [hasB_t h_8, decide_eq_true ((lcmp_z _ _).mp (Classical.not_not.mp h_32))]; rfl) | (rw [hasB_t h_8, decide_eq_true ((lcmp_z _ _).mp h_32)]; rfl) | (rw [hasB_t h_8, decide_eq_false (fun z => h_32 ((lcmp_z _ _).mpr z))]; rfl)) (Nat.le_of_ble_eq_true rfl) (Nat.le_of_ble_eq_true rfl)
set_option maxHeartbeats 4000000 in
set_option maxRecDepth 100000 in
theorem c_goesAt (l : Launch) (g : q_G) (ws : va_W) (q0 a0 : Nat) (so to be fi la yr : Int32) (gr : Int64) (fa : Bool) (p0 y0 : Int32) (h0 : ws[q0]? = some (a0, oR so to be fi la yr gr fa)) : MetW l g yX1_goesAt cX1_goesAt 3 (some .boolean) ({ frames := 0, cells := 0, slots := 0, locals := 0 } : Room) [.ref a0, .int p0, .int y0] (ws) (q_Qi g (fun r w => r = bI (!fa && decide (fi ≤ p0) && decide (p0 ≤ la) && decide (yr ≤ y0)) ∧ w = ws)) := by
  refine q_met (own := RX1) (by decide +kernel) rfl (Nat.le_of_ble_eq_true rfl) (fun p e s m args below meth c cx hr hnm => ?_)
  refine r_lv (lv2 := [(0, .ref a0), (1, .int p0), (2, .int y0)]) (q_pk [0, 1, 2] rfl) ?_
  refine r_aload_n cx dX1_goesAt_0 rfl rfl ?_
  refine gf_X1_15 cx dX1_goesAt_1 q0 h0 rfl ?_
  refine r_ifneb (tgt := 35) cx dX1_goesAt_4 (by decide) (fun h_4 => ?_) (fun h_4 => ?_)
  · skip
    refine r_iconst (v := nI 0) cx dX1_goesAt_35 (by decide) ?_
    exact r_zret cx dX1_goesAt_36 hr rfl (⟨by first | (rw [h_4]; rfl) | (rw [h_4, decide_eq_false (Int32.not_le.mpr h_12)]; rfl) | (rw [h_4, decide_eq_true (Int32.not_lt.mp h_12), decide_eq_false (Int32.not_le.mpr h_20)]; rfl) | (rw [h_4, decide_eq_true (Int32.not_lt.mp h_12), decide_eq_true (Int32.not_lt.mp h_20), decide_eq_false (Int32.not_le.mpr h_28)]; rfl) | (rw [h_4, decide_eq_true (Int32.not_lt.mp h_12), decide_eq_true (Int32.not_lt.mp h_20), decide_eq_true (Int32.not_lt.mp h_28)]; rfl), rfl⟩) (Nat.le_of_ble_eq_true rfl) (Nat.le_of_ble_eq_true rfl)
  · skip
    refine r_aload_n cx dX1_goesAt_7 rfl rfl ?_
    refine gf_X1_29 cx dX1_goesAt_8 q0 h0 rfl ?_
    refine r_iload_n cx dX1_goesAt_11 rfl rfl ?_
    refine r_icmpgt (tgt := 35) cx dX1_goesAt_12 (by decide) (fun h_12 => ?_) (fun h_12 => ?_)
    · skip
      refine r_iconst (v := nI 0) cx dX1_goesAt_35 (by decide) ?_
      exact r_zret cx dX1_goesAt_36 hr rfl (⟨by first | (rw [h_4]; rfl) | (rw [h_4, decide_eq_false (Int32.not_le.mpr h_12)]; rfl) | (rw [h_4, decide_eq_true (Int32.not_lt.mp h_12), decide_eq_false (Int32.not_le.mpr h_20)]; rfl) | (rw [h_4, decide_eq_true (Int32.not_lt.mp h_12), decide_eq_true (Int32.not_lt.mp h_20), decide_eq_false (Int32.not_le.mpr h_28)]; rfl) | (rw [h_4, decide_eq_true (Int32.not_lt.mp h_12), decide_eq_true (Int32.not_lt.mp h_20), decide_eq_true (Int32.not_lt.mp h_28)]; rfl), rfl⟩) (Nat.le_of_ble_eq_true rfl) (Nat.le_of_ble_eq_true rfl)
    · skip
      refine r_iload_n cx dX1_goesAt_15 rfl rfl ?_
      refine r_aload_n cx dX1_goesAt_16 rfl rfl ?_
      refine gf_X1_32 cx dX1_goesAt_17 q0 h0 rfl ?_
      refine r_icmpgt (tgt := 35) cx dX1_goesAt_20 (by decide) (fun h_20 => ?_) (fun h_20 => ?_)
      · skip
        refine r_iconst (v := nI 0) cx dX1_goesAt_35 (by decide) ?_
        exact r_zret cx dX1_goesAt_36 hr rfl (⟨by first | (rw [h_4]; rfl) | (rw [h_4, decide_eq_false (Int32.not_le.mpr h_12)]; rfl) | (rw [h_4, decide_eq_true (Int32.not_lt.mp h_12), decide_eq_false (Int32.not_le.mpr h_20)]; rfl) | (rw [h_4, decide_eq_true (Int32.not_lt.mp h_12), decide_eq_true (Int32.not_lt.mp h_20), decide_eq_false (Int32.not_le.mpr h_28)]; rfl) | (rw [h_4, decide_eq_true (Int32.not_lt.mp h_12), decide_eq_true (Int32.not_lt.mp h_20), decide_eq_true (Int32.not_lt.mp h_28)]; rfl), rfl⟩) (Nat.le_of_ble_eq_true rfl) (Nat.le_of_ble_eq_true rfl)
      · skip
        refine r_aload_n cx dX1_goesAt_23 rfl rfl ?_
        refine gf_X1_35 cx dX1_goesAt_24 q0 h0 rfl ?_
        refine r_iload_n cx dX1_goesAt_27 rfl rfl ?_
        refine r_icmpgt (tgt := 35) cx dX1_goesAt_28 (by decide) (fun h_28 => ?_) (fun h_28 => ?_)
        · skip
          refine r_iconst (v := nI 0) cx dX1_goesAt_35 (by decide) ?_
          exact r_zret cx dX1_goesAt_36 hr rfl (⟨by first | (rw [h_4]; rfl) | (rw [h_4, decide_eq_false (Int32.not_le.mpr h_12)]; rfl) | (rw [h_4, decide_eq_true (Int32.not_lt.mp h_12), decide_eq_false (Int32.not_le.mpr h_20)]; rfl) | (rw [h_4, decide_eq_true (Int32.not_lt.mp h_12), decide_eq_true (Int32.not_lt.mp h_20), decide_eq_false (Int32.not_le.mpr h_28)]; rfl) | (rw [h_4, decide_eq_true (Int32.not_lt.mp h_12), decide_eq_true (Int32.not_lt.mp h_20), decide_eq_true (Int32.not_lt.mp h_28)]; rfl), rfl⟩) (Nat.le_of_ble_eq_true rfl) (Nat.le_of_ble_eq_true rfl)
        · skip
          refine r_iconst (v := nI 1) cx dX1_goesAt_31 (by decide) ?_
          refine r_goto (tgt := 36) cx dX1_goesAt_32 (by decide) ?_
          exact r_zret cx dX1_goesAt_36 hr rfl (⟨by first | (rw [h_4]; rfl) | (rw [h_4, decide_eq_false (Int32.not_le.mpr h_12)]; rfl) | (rw [h_4, decide_eq_true (Int32.not_lt.mp h_12), decide_eq_false (Int32.not_le.mpr h_20)]; rfl) | (rw [h_4, decide_eq_true (Int32.not_lt.mp h_12), decide_eq_true (Int32.not_lt.mp h_20), decide_eq_false (Int32.not_le.mpr h_28)]; rfl) | (rw [h_4, decide_eq_true (Int32.not_lt.mp h_12), decide_eq_true (Int32.not_lt.mp h_20), decide_eq_true (Int32.not_lt.mp h_28)]; rfl), rfl⟩) (Nat.le_of_ble_eq_true rfl) (Nat.le_of_ble_eq_true rfl)
set_option maxHeartbeats 4000000 in
set_option maxRecDepth 100000 in
theorem c_changes (l : Launch) (g : q_G) (ws : va_W) (q0 a0 : Nat) (so to be fi la yr : Int32) (gr : Int64) (fa : Bool) (x f : Int32) (h0 : ws[q0]? = some (a0, oR so to be fi la yr gr fa)) : MetW l g yX1_changes cX1_changes 3 (some .boolean) ({ frames := 0, cells := 0, slots := 0, locals := 0 } : Room) [.ref a0, .int x, .int f] (ws) (q_Qi g (fun r w => r = bI (decide (x = so) && (decide (be = nI 9) || decide (be = f))) ∧ w = ws)) := by
  refine q_met (own := RX1) (by decide +kernel) rfl (Nat.le_of_ble_eq_true rfl) (fun p e s m args below meth c cx hr hnm => ?_)
  refine r_lv (lv2 := [(0, .ref a0), (1, .int x), (2, .int f)]) (q_pk [0, 1, 2] rfl) ?_
  refine r_iload_n cx dX1_changes_0 rfl rfl ?_
  refine r_aload_n cx dX1_changes_1 rfl rfl ?_
  refine gf_X1_19 cx dX1_changes_2 q0 h0 rfl ?_
  refine r_icmpne (tgt := 29) cx dX1_changes_5 (by decide) (fun h_5 => ?_) (fun h_5 => ?_)
  · skip
    refine r_iconst (v := nI 0) cx dX1_changes_29 (by decide) ?_
    exact r_zret cx dX1_changes_30 hr rfl (⟨by first | (rw [decide_eq_false h_5]; rfl) | (rw [decide_eq_true h_5, decide_eq_true h_14]; rfl) | (rw [decide_eq_true h_5, decide_eq_false h_14, decide_eq_true h_22]; rfl) | (rw [decide_eq_true h_5, decide_eq_false h_14, decide_eq_false h_22]; rfl), rfl⟩) (Nat.le_of_ble_eq_true rfl) (Nat.le_of_ble_eq_true rfl)
  · skip
    refine r_aload_n cx dX1_changes_8 rfl rfl ?_
    refine gf_X1_26 cx dX1_changes_9 q0 h0 rfl ?_
    refine r_bipush (v := nI 9) cx dX1_changes_12 (by decide) ?_
    refine r_icmpeq (tgt := 25) cx dX1_changes_14 (by decide) (fun h_14 => ?_) (fun h_14 => ?_)
    · skip
      refine r_iconst (v := nI 1) cx dX1_changes_25 (by decide) ?_
      refine r_goto (tgt := 30) cx dX1_changes_26 (by decide) ?_
      exact r_zret cx dX1_changes_30 hr rfl (⟨by first | (rw [decide_eq_false h_5]; rfl) | (rw [decide_eq_true h_5, decide_eq_true h_14]; rfl) | (rw [decide_eq_true h_5, decide_eq_false h_14, decide_eq_true h_22]; rfl) | (rw [decide_eq_true h_5, decide_eq_false h_14, decide_eq_false h_22]; rfl), rfl⟩) (Nat.le_of_ble_eq_true rfl) (Nat.le_of_ble_eq_true rfl)
    · skip
      refine r_aload_n cx dX1_changes_17 rfl rfl ?_
      refine gf_X1_26 cx dX1_changes_18 q0 h0 rfl ?_
      refine r_iload_n cx dX1_changes_21 rfl rfl ?_
      refine r_icmpne (tgt := 29) cx dX1_changes_22 (by decide) (fun h_22 => ?_) (fun h_22 => ?_)
      · skip
        refine r_iconst (v := nI 0) cx dX1_changes_29 (by decide) ?_
        exact r_zret cx dX1_changes_30 hr rfl (⟨by first | (rw [decide_eq_false h_5]; rfl) | (rw [decide_eq_true h_5, decide_eq_true h_14]; rfl) | (rw [decide_eq_true h_5, decide_eq_false h_14, decide_eq_true h_22]; rfl) | (rw [decide_eq_true h_5, decide_eq_false h_14, decide_eq_false h_22]; rfl), rfl⟩) (Nat.le_of_ble_eq_true rfl) (Nat.le_of_ble_eq_true rfl)
      · skip
        refine r_iconst (v := nI 1) cx dX1_changes_25 (by decide) ?_
        refine r_goto (tgt := 30) cx dX1_changes_26 (by decide) ?_
        exact r_zret cx dX1_changes_30 hr rfl (⟨by first | (rw [decide_eq_false h_5]; rfl) | (rw [decide_eq_true h_5, decide_eq_true h_14]; rfl) | (rw [decide_eq_true h_5, decide_eq_false h_14, decide_eq_true h_22]; rfl) | (rw [decide_eq_true h_5, decide_eq_false h_14, decide_eq_false h_22]; rfl), rfl⟩) (Nat.le_of_ble_eq_true rfl) (Nat.le_of_ble_eq_true rfl)
end
section
section LROWS
variable {p : Program} {l : Launch} {e : Env} {R : Room} {s : State} {m : MethodId} {args : Array Value} {below : List Frame} {meth : Method} {c : Code} {g : q_G} {nL : Nat} {Q : State → Prop} {cl sl : Nat} {cc : ByteArray} {own : String} {pc : Nat} {lv : List (Nat × Value)} {st : List Value} {ws : va_W}
theorem r_cast (cx : q_cx g p m c cc nL s args own meth) {nm : String} {index a : Nat} (m1 : Cond.classLink own index nm ∈ WS) (hd : decode cc pc = .ok (.checkcast index, 3)) (q0 : Nat) {ci : Nat} {q : vw_C} {fs : List Value} (hc : vwCl[ci]? = some q) (hq : q.1 = nm) (he : ws[q0]? = some (a, .inr (ci, fs))) (k : AT p l e R s m args below meth c g nL Q cl sl (pc + 3) lv (.ref a :: st) ws) : AT p l e R s m args below meth c g nL Q cl sl pc lv (.ref a :: st) ws := fun H locs ls hP hD hS hl =>
  va_castS (cC := g.1.1 ci) cx.1.1 cx.1.2.1 cx.1.2.2.2.1 (cx.ok m1) (hq ▸ (cx.2.1.2.1.1 ci q hc).2) (hq ▸ va_recv cx.2.1.2.1 hP hc he) hd (k H locs ls hP hD hS hl)
theorem r_min (cx : q_cx g p m c cc nL s args own meth) {index : Nat} {x y : Int32} (m1 : Cond.methodLink own index Lib.Math.min.name ∈ WS) (m2 : Cond.static Lib.Math.min.name ∈ WS) (m3 : Cond.initialized "java/lang/Math" ∈ WS) (m4 : Cond.code Lib.Math.min.name Lib.Math.min.code 2 (some .int) ∈ WS) (hd : decode cc pc = .ok (.invokestatic index, 3)) (hf : 1 ≤ R.frames) (hlo : (st.map fun v => v.category).sum + 13 ≤ R.locals) (hc : cl ≤ R.cells) (hs : sl ≤ R.slots) (k : AT p l e R s m args below meth c g nL Q cl sl (pc + 3) lv (.int (if y < x then y else x) :: st) ws) : AT p l e R s m args below meth c g nL Q cl sl pc lv (.int y :: .int x :: st) ws := fun H locs ls hP hD hS hl =>
  va_mmin cx.1.1 cx.1.2.1 (cx.1.2.2.1.trans hl.1.symm) cx.1.2.2.2.1 (cx.ok m1) (cx.ok m2) (cx.ok m3) (cx.ok m4) hf hlo hc hs hd (k H locs ls hP hD hS hl)
theorem r_max (cx : q_cx g p m c cc nL s args own meth) {index : Nat} {x y : Int32} (m1 : Cond.methodLink own index Lib.Math.max.name ∈ WS) (m2 : Cond.static Lib.Math.max.name ∈ WS) (m3 : Cond.initialized "java/lang/Math" ∈ WS) (m4 : Cond.code Lib.Math.max.name Lib.Math.max.code 2 (some .int) ∈ WS) (hd : decode cc pc = .ok (.invokestatic index, 3)) (hf : 1 ≤ R.frames) (hlo : (st.map fun v => v.category).sum + 13 ≤ R.locals) (hc : cl ≤ R.cells) (hs : sl ≤ R.slots) (k : AT p l e R s m args below meth c g nL Q cl sl (pc + 3) lv (.int (if x < y then y else x) :: st) ws) : AT p l e R s m args below meth c g nL Q cl sl pc lv (.int y :: .int x :: st) ws := fun H locs ls hP hD hS hl =>
  va_mmax cx.1.1 cx.1.2.1 (cx.1.2.2.1.trans hl.1.symm) cx.1.2.2.2.1 (cx.ok m1) (cx.ok m2) (cx.ok m3) (cx.ok m4) hf hlo hc hs hd (k H locs ls hP hD hS hl)
end LROWS
/-- a list of n objects in a world: its cell, and the array behind it -/
def lsV (g : q_G) (ws : va_W) (li n : Nat) (a : Nat → Nat) : Prop := ∃ (ql : Nat) (mc : Int32) (el : Nat), ws[ql]? = some (li, .inr (0, [.int mc, .ref el, .int (nI n)])) ∧ n < 2147483648 ∧
  (n = 0 ∨ ∃ (qe cap : Nat) (f : Nat → Option Nat), ws[qe]? = some (el, .inl (q_cO g, cap, .inr (.inr (.inr (.inr f))))) ∧ n ≤ cap ∧ cap < 2147483648 ∧ ∀ i, i < n → f i = some (a i))
set_option maxHeartbeats 4000000 in
set_option maxRecDepth 100000 in
theorem c_checkIndex3 (l : Launch) (g : q_G) (ws : va_W) (i n : Nat) (hi : i < n) (hn : n < 2147483648) : MetW l g yJ3_checkIndex_8e157 cJ3_checkIndex_8e157 3 (some .int) ({ frames := 0, cells := 0, slots := 0, locals := 0 } : Room) [.int (nI i), .int (nI n), .null] (ws) (q_Qi g (fun r w => r = nI i ∧ w = ws)) := by
  refine q_met (own := RJ3) (by decide +kernel) rfl (Nat.le_of_ble_eq_true rfl) (fun p e s m args below meth c cx hr hnm => ?_)
  refine r_lv (lv2 := [(0, .int (nI i)), (1, .int (nI n)), (2, .null)]) (q_pk [0, 1, 2] rfl) ?_
  refine r_iload_n cx dJ3_checkIndex_8e157_0 rfl rfl ?_
  refine r_ifltN (tgt := 9) cx (by omega) dJ3_checkIndex_8e157_1 (by decide) ?_
  refine r_iload_n cx dJ3_checkIndex_8e157_4 rfl rfl ?_
  refine r_iload_n cx dJ3_checkIndex_8e157_5 rfl rfl ?_
  refine r_icmpltN (tgt := 16) cx (by omega) (by omega) dJ3_checkIndex_8e157_6 (by decide) (fun h_6 => ?_) (fun h_6 => ?_)
  · skip
    refine r_iload_n cx dJ3_checkIndex_8e157_16 rfl rfl ?_
    exact r_iret cx dJ3_checkIndex_8e157_17 hr (⟨rfl, rfl⟩) (Nat.le_of_ble_eq_true rfl) (Nat.le_of_ble_eq_true rfl)
  · exact absurd h_6 (by omega)
set_option maxHeartbeats 4000000 in
set_option maxRecDepth 100000 in
theorem c_checkIndex (l : Launch) (g : q_G) (ws : va_W) (i n : Nat) (hi : i < n) (hn : n < 2147483648) : MetW l g yJ15_checkIndex_7cf53 cJ15_checkIndex_7cf53 2 (some .int) ({ frames := 1, cells := 0, slots := 0, locals := 22 } : Room) [.int (nI i), .int (nI n)] (ws) (q_Qi g (fun r w => r = nI i ∧ w = ws)) := by
  refine q_met (own := RJ15) (by decide +kernel) rfl (Nat.le_of_ble_eq_true rfl) (fun p e s m args below meth c cx hr hnm => ?_)
  refine r_lv (lv2 := [(0, .int (nI i)), (1, .int (nI n))]) (q_pk [0, 1] rfl) ?_
  refine r_iload_n cx dJ15_checkIndex_7cf53_0 rfl rfl ?_
  refine r_iload_n cx dJ15_checkIndex_7cf53_1 rfl rfl ?_
  refine r_null cx dJ15_checkIndex_7cf53_2 ?_
  refine k_J15_105 cx (c_checkIndex3 l g ws i n hi hn) dJ15_checkIndex_7cf53_3 ⟨Nat.le_of_ble_eq_true rfl, Nat.le_of_ble_eq_true rfl⟩ ⟨Nat.le_of_ble_eq_true rfl, Nat.le_of_ble_eq_true rfl⟩ rfl rfl (Nat.le_of_ble_eq_true rfl) (fun r w hp => ?_)
  obtain ⟨rfl, rfl⟩ := hp
  exact r_iret cx dJ15_checkIndex_7cf53_6 hr (⟨rfl, rfl⟩) (Nat.le_of_ble_eq_true rfl) (Nat.le_of_ble_eq_true rfl)
set_option maxHeartbeats 4000000 in
set_option maxRecDepth 100000 in
theorem c_lsize (l : Launch) (g : q_G) (ws : va_W) (li n : Nat) (a : Nat → Nat) (h : lsV g ws li n a) : MetW l g yJx4a65c_size_8abf5 cJx4a65c_size_8abf5 1 (some .int) ({ frames := 0, cells := 0, slots := 0, locals := 0 } : Room) [.ref li] (ws) (q_Qi g (fun r w => r = nI n ∧ w = ws)) := by
  refine q_met (own := RJx4a65c) (by decide +kernel) rfl (Nat.le_of_ble_eq_true rfl) (fun p e s m args below meth c cx hr hnm => ?_)
  obtain ⟨ql, mc, el, h1, hn, h2⟩ := h
  refine r_lv (lv2 := [(0, .ref li)]) (q_pk [0] rfl) ?_
  refine r_aload_n cx dJx4a65c_size_8abf5_0 rfl rfl ?_
  refine gf_Jx4a65c_48 cx dJx4a65c_size_8abf5_1 ql h1 rfl ?_
  exact r_iret cx dJx4a65c_size_8abf5_4 hr (⟨rfl, rfl⟩) (Nat.le_of_ble_eq_true rfl) (Nat.le_of_ble_eq_true rfl)
set_option maxHeartbeats 4000000 in
set_option maxRecDepth 100000 in
theorem c_lelem (l : Launch) (g : q_G) (ws : va_W) (li n i : Nat) (a : Nat → Nat) (h : lsV g ws li n a) (hi : i < n) : MetW l g yJx4a65c_elementData_915e3 cJx4a65c_elementData_915e3 2 (some (.object "java/lang/Object")) ({ frames := 0, cells := 0, slots := 0, locals := 0 } : Room) [.ref li, .int (nI i)] (ws) (q_Qq g (fun r w => r = some (a i) ∧ w = ws)) := by
  refine q_met (own := RJx4a65c) (by decide +kernel) rfl (Nat.le_of_ble_eq_true rfl) (fun p e s m args below meth c cx hr hnm => ?_)
  obtain ⟨ql, mc, el, h1, hn, h2⟩ := h
  obtain ⟨qe, cap, f, h3, h4, h5, h6⟩ := h2.resolve_left (by omega)
  refine r_lv (lv2 := [(0, .ref li), (1, .int (nI i))]) (q_pk [0, 1] rfl) ?_
  refine r_aload_n cx dJx4a65c_elementData_915e3_0 rfl rfl ?_
  refine gf_Jx4a65c_9 cx dJx4a65c_elementData_915e3_1 ql h1 rfl ?_
  refine r_iload_n cx dJx4a65c_elementData_915e3_4 rfl rfl ?_
  refine r_aldq cx qe 3 dJx4a65c_elementData_915e3_5 h3 rfl (vp_in_nI (by omega) (by omega)) ?_
  rw [nI_clamp (by omega)]
  exact r_aret cx dJx4a65c_elementData_915e3_6 hr (Or.inl ⟨_, rfl⟩) (⟨h6 i hi, rfl⟩) (Nat.le_of_ble_eq_true rfl) (Nat.le_of_ble_eq_true rfl)
set_option maxHeartbeats 4000000 in
set_option maxRecDepth 100000 in
theorem c_lget (l : Launch) (g : q_G) (ws : va_W) (li n i : Nat) (a : Nat → Nat) (h : lsV g ws li n a) (hi : i < n) : MetW l g yJx4a65c_get_915e3 cJx4a65c_get_915e3 2 (some (.object "java/lang/Object")) ({ frames := 2, cells := 0, slots := 0, locals := 43 } : Room) [.ref li, .int (nI i)] (ws) (q_Qq g (fun r w => r = some (a i) ∧ w = ws)) := by
  refine q_met (own := RJx4a65c) (by decide +kernel) rfl (Nat.le_of_ble_eq_true rfl) (fun p e s m args below meth c cx hr hnm => ?_)
  have h0 := h
  obtain ⟨ql, mc, el, h1, hn, h2⟩ := h
  refine r_lv (lv2 := [(0, .ref li), (1, .int (nI i))]) (q_pk [0, 1] rfl) ?_
  refine r_iload_n cx dJx4a65c_get_915e3_0 rfl rfl ?_
  refine r_aload_n cx dJx4a65c_get_915e3_1 rfl rfl ?_
  refine gf_Jx4a65c_48 cx dJx4a65c_get_915e3_2 ql h1 rfl ?_
  refine k_Jx4a65c_118 cx (c_checkIndex l g ws i n hi hn) dJx4a65c_get_915e3_5 ⟨Nat.le_of_ble_eq_true rfl, Nat.le_of_ble_eq_true rfl⟩ ⟨Nat.le_of_ble_eq_true rfl, Nat.le_of_ble_eq_true rfl⟩ rfl rfl (Nat.le_of_ble_eq_true rfl) (fun r w hp => ?_)
  obtain ⟨rfl, rfl⟩ := hp
  refine r_pop cx dJx4a65c_get_915e3_8 rfl ?_
  refine r_aload_n cx dJx4a65c_get_915e3_9 rfl rfl ?_
  refine r_iload_n cx dJx4a65c_get_915e3_10 rfl rfl ?_
  refine k_Jx4a65c_123 cx (c_lelem l g w li n i a h0 hi) dJx4a65c_get_915e3_11 ql h1 ⟨Nat.le_of_ble_eq_true rfl, Nat.le_of_ble_eq_true rfl⟩ ⟨Nat.le_of_ble_eq_true rfl, Nat.le_of_ble_eq_true rfl⟩ rfl rfl (Nat.le_of_ble_eq_true rfl) (fun r w2 hp => ?_)
  obtain ⟨rfl, rfl⟩ := hp
  exact r_aret cx dJx4a65c_get_915e3_14 hr (Or.inl ⟨_, rfl⟩) (⟨rfl, rfl⟩) (Nat.le_of_ble_eq_true rfl) (Nat.le_of_ble_eq_true rfl)
end
section
theorem l_snoc {l : List Nat} (h : l ≠ []) : ∃ (l3 : List Nat) (y : Nat), l = l3 ++ [y] := by
  rcases List.eq_nil_or_concat l with e | ⟨a, b, e⟩
  · exact absurd e h
  · exact ⟨a, b, by rw [e, List.concat_eq_append]⟩
theorem chg_eq {so be x f : Nat} (h1 : so < 8) (h2 : be < 10) (h3 : x < 8) (h4 : f < 9) : (decide (nI x = nI so) && (decide (nI be = nI 9) || decide (nI be = nI f))) = chg so be x f := by
  unfold chg
  congr 1
  · exact decide_eq_decide.mpr (nI_inj (by omega) (by omega))
  · congr 1
    · exact decide_eq_decide.mpr (nI_inj (by omega) (by omega))
    · exact decide_eq_decide.mpr (nI_inj (by omega) (by omega))
theorem fol_lt {l : List Nat} (h : snd l) : fol l < 9 := by
  cases l with
  | nil => decide
  | cons x xs => exact Nat.lt_trans (snd_cons.mp h).1 (by decide)
theorem apL_one {so : Nat} {to : Option Nat} {be x t : Nat} {l : List Nat} (h : pce so to be x (fol l) = [t]) : num (apL so to be (x :: l)) = num (apL so to be l) + (t + 1) * 9 ^ (apL so to be l).length ∧ (apL so to be (x :: l)).length = (apL so to be l).length + 1 := by
  rw [apL, h]
  exact ⟨by rw [List.singleton_append, num_cons, Nat.add_comm], by simp⟩
theorem apL_keep {so : Nat} {to : Option Nat} {be x : Nat} {l : List Nat} (h : chg so be x (fol l) = false) : num (apL so to be (x :: l)) = num (apL so to be l) + (x + 1) * 9 ^ (apL so to be l).length ∧ (apL so to be (x :: l)).length = (apL so to be l).length + 1 := apL_one (by rw [pce, h]; rfl)
theorem apL_some {so t be x : Nat} {l : List Nat} (h : chg so be x (fol l) = true) : num (apL so (some t) be (x :: l)) = num (apL so (some t) be l) + (t + 1) * 9 ^ (apL so (some t) be l).length ∧ (apL so (some t) be (x :: l)).length = (apL so (some t) be l).length + 1 := apL_one (by rw [pce, h]; rfl)
theorem apL_none {so be x : Nat} {l : List Nat} (h : chg so be x (fol l) = true) : apL so none be (x :: l) = apL so none be l := by rw [apL, pce, h]; rfl
theorem toI_none {to : Option Nat} (ht : ∀ t, to = some t → t < 8) (h : toI to = -1) : to = none := by
  cases to with
  | none => rfl
  | some t => exact absurd h (nI_nm1 (by have := ht t rfl; omega))
theorem toI_some {to : Option Nat} (h : ¬ toI to = -1) : ∃ t, to = some t := by
  cases to with
  | none => exact absurd rfl h
  | some t => exact ⟨t, rfl⟩
set_option maxHeartbeats 4000000 in
set_option maxRecDepth 100000 in
theorem c_applyTo (l : Launch) (g : q_G) (ws : va_W) (q0 a0 : Nat) (so be : Nat) (to : Option Nat) (fi la yr : Int32) (gr : Int64) (fa : Bool) (l0 : List Nat) (hso : so < 8) (hbe : be < 10) (hto : ∀ t, to = some t → t < 8) (hl0 : snd l0) (hn0 : l0.length ≤ 8) (h0 : ws[q0]? = some (a0, oR (nI so) (toI to) (nI be) fi la yr gr fa)) : MetW l g yX1_applyTo cX1_applyTo 9 (some .int) ({ frames := 1, cells := 0, slots := 0, locals := 22 } : Room) [.ref a0, .int (nI (num l0))] (ws) (q_Qi g (fun r w => r = nI (num (apR so to be l0)) ∧ w = ws)) := by
  refine q_met (own := RX1) (by decide +kernel) rfl (Nat.le_of_ble_eq_true rfl) (fun p e s m args below meth c cx hr hnm => ?_)
  refine r_lv (lv2 := [(0, .ref a0), (1, .int (nI (num l0)))]) (q_pk [0, 1] rfl) ?_
  refine r_iconst (v := nI 0) cx dX1_applyTo_0 (by decide) ?_
  refine r_istore_n cx dX1_applyTo_1 rfl (by decide) rfl ?_
  refine r_iconst (v := nI 1) cx dX1_applyTo_2 (by decide) ?_
  refine r_istore_n cx dX1_applyTo_3 rfl (by decide) rfl ?_
  refine r_iload_n cx dX1_applyTo_4 rfl rfl ?_
  refine r_istore cx dX1_applyTo_5 (by decide) rfl ?_
  refine r_bipush (v := nI 8) cx dX1_applyTo_7 (by decide) ?_
  refine r_istore cx dX1_applyTo_9 (by decide) rfl ?_
  refine r_iconst (v := nI 0) cx dX1_applyTo_11 (by decide) ?_
  refine r_istore cx dX1_applyTo_12 (by decide) rfl ?_
  refine at_loop (fun (x : List Nat × List Nat) => x.1 ++ x.2 = l0) (fun x => [(0, .ref a0), (1, .int (nI (num l0))), (2, .int (nI (num (apL so to be x.2)))), (3, .int (nI (9 ^ (apL so to be x.2).length))), (4, .int (nI (num x.1))), (5, .int (nI (fol x.2))), (6, .int (nI x.2.length))]) (fun x => ws) (fun x => x.1.length) (l0, []) (List.append_nil l0) (q_pk [5, 6, 4, 3, 2, 1, 0] rfl) rfl (fun x hx ih => ?_)
  obtain ⟨l1, l2⟩ := x
  dsimp only at hx ⊢
  have hlen : l1.length + l2.length = l0.length := by rw [← hx, List.length_append]
  have hs1 : snd l1 := (snd_app.mp (hx ▸ hl0)).1
  have hs2 : snd l2 := (snd_app.mp (hx ▸ hl0)).2
  have hb1 := num_bd hs1 (by omega)
  have hal := apL_len so to be l2
  have hb2 := num_bd (apL_snd (so := so) (be := be) hto hs2) (by omega)
  have hb3 := p9 (n := (apL so to be l2).length) (by omega)
  have hf := fol_lt hs2
  refine r_iload cx dX1_applyTo_14 rfl ?_
  refine r_bipush (v := nI 8) cx dX1_applyTo_16 (by decide) ?_
  refine r_icmpgeN (tgt := 94) cx (by omega) (by omega) dX1_applyTo_18 (by decide) (fun h_18 => ?_) (fun h_18 => ?_)
  · skip
    obtain rfl : l1 = [] := List.eq_nil_of_length_eq_zero (by omega)
    obtain rfl : l2 = l0 := by simpa using hx
    refine r_iload_n cx dX1_applyTo_94 rfl rfl ?_
    refine r_ifneN (tgt := 102) cx (by omega) dX1_applyTo_95 (by decide) (fun h_95 => ?_) (fun h_95 => ?_)
    · skip
      refine r_iload_n cx dX1_applyTo_102 rfl rfl ?_
      exact r_iret cx dX1_applyTo_103 hr (⟨by first | (rw [apR, if_neg (fun z => h_95 (num_zero.mpr z))]; done) | (rw [apR, if_pos (num_zero.mp h_95)]; done), rfl⟩) (Nat.le_of_ble_eq_true rfl) (Nat.le_of_ble_eq_true rfl)
    · skip
      refine r_iload_n cx dX1_applyTo_98 rfl rfl ?_
      refine r_goto (tgt := 103) cx dX1_applyTo_99 (by decide) ?_
      exact r_iret cx dX1_applyTo_103 hr (⟨by first | (rw [apR, if_neg (fun z => h_95 (num_zero.mpr z))]; done) | (rw [apR, if_pos (num_zero.mp h_95)]; done), rfl⟩) (Nat.le_of_ble_eq_true rfl) (Nat.le_of_ble_eq_true rfl)
  · skip
    refine r_iload cx dX1_applyTo_21 rfl ?_
    refine r_ifleN (tgt := 94) cx (by omega) dX1_applyTo_23 (by decide) (fun h_23 => ?_) (fun h_23 => ?_)
    · skip
      obtain rfl : l1 = [] := num_zero.mp h_23
      obtain rfl : l2 = l0 := by simpa using hx
      refine r_iload_n cx dX1_applyTo_94 rfl rfl ?_
      refine r_ifneN (tgt := 102) cx (by omega) dX1_applyTo_95 (by decide) (fun h_95 => ?_) (fun h_95 => ?_)
      · skip
        refine r_iload_n cx dX1_applyTo_102 rfl rfl ?_
        exact r_iret cx dX1_applyTo_103 hr (⟨by first | (rw [apR, if_neg (fun z => h_95 (num_zero.mpr z))]; done) | (rw [apR, if_pos (num_zero.mp h_95)]; done), rfl⟩) (Nat.le_of_ble_eq_true rfl) (Nat.le_of_ble_eq_true rfl)
      · skip
        refine r_iload_n cx dX1_applyTo_98 rfl rfl ?_
        refine r_goto (tgt := 103) cx dX1_applyTo_99 (by decide) ?_
        exact r_iret cx dX1_applyTo_103 hr (⟨by first | (rw [apR, if_neg (fun z => h_95 (num_zero.mpr z))]; done) | (rw [apR, if_pos (num_zero.mp h_95)]; done), rfl⟩) (Nat.le_of_ble_eq_true rfl) (Nat.le_of_ble_eq_true rfl)
    · skip
      obtain ⟨l1, x, rfl⟩ : ∃ l3 y, l1 = l3 ++ [y] := l_snoc (fun z => by rw [z] at h_23; exact absurd h_23 (by decide))
      have hx8 : x < 8 := hs1 x (by simp)
      have hsn := num_snoc l1 x
      rw [List.length_append, List.length_singleton] at hlen
      refine r_iload cx dX1_applyTo_26 rfl ?_
      refine r_bipush (v := nI 9) cx dX1_applyTo_28 (by decide) ?_
      refine r_iremN cx dX1_applyTo_30 (by omega) (by omega) (by omega) ?_
      refine r_iconst (v := nI 1) cx dX1_applyTo_31 (by decide) ?_
      first | refine r_isubN cx dX1_applyTo_32 (by omega) ?_ | refine r_isub cx dX1_applyTo_32 ?_
      refine r_eqi (y := nI x) (congrArg nI (by omega)) ?_
      refine r_istore cx dX1_applyTo_33 (by decide) rfl ?_
      refine r_aload_n cx dX1_applyTo_35 rfl rfl ?_
      refine r_iload cx dX1_applyTo_36 rfl ?_
      refine r_iload cx dX1_applyTo_38 rfl ?_
      refine k_X1_45 cx (c_changes l g ws q0 a0 (nI so) (toI to) (nI be) fi la yr gr fa (nI x) (nI (fol l2)) h0) dX1_applyTo_40 q0 h0 ⟨Nat.le_of_ble_eq_true rfl, Nat.le_of_ble_eq_true rfl⟩ ⟨Nat.le_of_ble_eq_true rfl, Nat.le_of_ble_eq_true rfl⟩ rfl rfl (Nat.le_of_ble_eq_true rfl) (fun r w hp => ?_)
      obtain ⟨rfl, rfl⟩ := hp
      rw [chg_eq hso hbe hx8 hf]
      refine at_join (tgt := 77) (fun (z : Unit) => True) (fun z => [(0, .ref a0), (1, .int (nI (num l0))), (2, .int (nI (num (apL so to be (x :: l2))))), (3, .int (nI (9 ^ (apL so to be (x :: l2)).length))), (4, .int (nI (num (l1 ++ [x])))), (6, .int (nI l2.length)), (7, .int (nI x))]) (fun z => []) (fun z => w) ?_ (fun J_77 => ?_)
      · intro z hz
        dsimp only at hz ⊢
        refine r_iload cx dX1_applyTo_77 rfl ?_
        refine r_istore cx dX1_applyTo_79 (by decide) rfl ?_
        refine r_iload cx dX1_applyTo_81 rfl ?_
        refine r_bipush (v := nI 9) cx dX1_applyTo_83 (by decide) ?_
        refine r_idivN cx dX1_applyTo_85 (by omega) (by omega) (by omega) ?_
        refine r_eqi (y := nI (num l1)) (congrArg nI (by omega)) ?_
        refine r_istore cx dX1_applyTo_86 (by decide) rfl ?_
        refine r_iincN (j := 1) cx dX1_applyTo_88 rfl rfl (by decide) rfl ?_
        refine r_goto (tgt := 14) cx dX1_applyTo_91 (by decide) ?_
        exact r_lv (q_pk [3, 4, 5, 6, 1, 2, 0] rfl) (ih (l1, x :: l2) (by rw [← hx]; simp) (by simp))
      · skip
        refine r_ifeqb (tgt := 53) cx dX1_applyTo_43 (by decide) (fun h_43 => ?_) (fun h_43 => ?_)
        · skip
          refine r_iload cx dX1_applyTo_53 rfl ?_
          refine r_istore cx dX1_applyTo_55 (by decide) rfl ?_
          refine r_iload cx dX1_applyTo_57 rfl ?_
          refine r_iconst (v := -1) cx dX1_applyTo_59 (by decide) ?_
          refine r_icmpeq (tgt := 77) cx dX1_applyTo_60 (by decide) (fun h_60 => ?_) (fun h_60 => ?_)
          · exact absurd h_60 (nI_nm1 (by omega))
          · skip
            have hk := apL_keep (to := to) h_43
            refine r_iload_n cx dX1_applyTo_63 rfl rfl ?_
            refine r_iload cx dX1_applyTo_64 rfl ?_
            refine r_iconst (v := nI 1) cx dX1_applyTo_66 (by decide) ?_
            first | refine r_iaddN cx dX1_applyTo_67 ?_ | refine r_iadd cx dX1_applyTo_67 ?_
            refine r_iload_n cx dX1_applyTo_68 rfl rfl ?_
            first | refine r_imulN cx dX1_applyTo_69 ?_ | refine r_imul cx dX1_applyTo_69 ?_
            first | refine r_iaddN cx dX1_applyTo_70 ?_ | refine r_iadd cx dX1_applyTo_70 ?_
            refine r_eqi (y := nI (num (apL so to be (x :: l2)))) (congrArg nI (hk.1.symm)) ?_
            refine r_istore_n cx dX1_applyTo_71 rfl (by decide) rfl ?_
            refine r_iload_n cx dX1_applyTo_72 rfl rfl ?_
            refine r_bipush (v := nI 9) cx dX1_applyTo_73 (by decide) ?_
            first | refine r_imulN cx dX1_applyTo_75 ?_ | refine r_imul cx dX1_applyTo_75 ?_
            refine r_eqi (y := nI (9 ^ (apL so to be (x :: l2)).length)) (congrArg nI (by rw [hk.2, Nat.pow_succ])) ?_
            refine r_istore_n cx dX1_applyTo_76 rfl (by decide) rfl ?_
            exact r_lv (q_pk [4, 5, 1, 0, 6, 8, 3] rfl) (J_77 () trivial)
        · skip
          refine r_aload_n cx dX1_applyTo_46 rfl rfl ?_
          refine gf_X1_23 cx dX1_applyTo_47 q0 h0 rfl ?_
          refine r_goto (tgt := 55) cx dX1_applyTo_50 (by decide) ?_
          refine r_istore cx dX1_applyTo_55 (by decide) rfl ?_
          refine r_iload cx dX1_applyTo_57 rfl ?_
          refine r_iconst (v := -1) cx dX1_applyTo_59 (by decide) ?_
          refine r_icmpeq (tgt := 77) cx dX1_applyTo_60 (by decide) (fun h_60 => ?_) (fun h_60 => ?_)
          · skip
            obtain rfl := toI_none hto h_60
            have J2 := J_77 () trivial
            dsimp only at J2
            rw [apL_none h_43] at J2
            exact r_lv (q_pk [2, 3, 4, 5, 6, 8, 1] rfl) (J2)
          · skip
            obtain ⟨t, rfl⟩ := toI_some h_60
            have ht8 := hto t rfl
            have hk := apL_some (t := t) h_43
            refine r_iload_n cx dX1_applyTo_63 rfl rfl ?_
            refine r_iload cx dX1_applyTo_64 rfl ?_
            refine r_iconst (v := nI 1) cx dX1_applyTo_66 (by decide) ?_
            first | refine r_iaddN cx dX1_applyTo_67 ?_ | refine r_iadd cx dX1_applyTo_67 ?_
            refine r_iload_n cx dX1_applyTo_68 rfl rfl ?_
            first | refine r_imulN cx dX1_applyTo_69 ?_ | refine r_imul cx dX1_applyTo_69 ?_
            first | refine r_iaddN cx dX1_applyTo_70 ?_ | refine r_iadd cx dX1_applyTo_70 ?_
            refine r_eqi (y := nI (num (apL so (some t) be (x :: l2)))) (congrArg nI (hk.1.symm)) ?_
            refine r_istore_n cx dX1_applyTo_71 rfl (by decide) rfl ?_
            refine r_iload_n cx dX1_applyTo_72 rfl rfl ?_
            refine r_bipush (v := nI 9) cx dX1_applyTo_73 (by decide) ?_
            first | refine r_imulN cx dX1_applyTo_75 ?_ | refine r_imul cx dX1_applyTo_75 ?_
            refine r_eqi (y := nI (9 ^ (apL so (some t) be (x :: l2)).length)) (congrArg nI (by rw [hk.2, Nat.pow_succ])) ?_
            refine r_istore_n cx dX1_applyTo_76 rfl (by decide) rfl ?_
            exact r_lv (q_pk [4, 5, 1, 0, 6, 8, 3] rfl) (J_77 () trivial)
end
section
def levI (x : Nat) (f : List Nat → Nat) : List Nat → Nat
  | [] => f [] + 1
  | y :: v => min (f v + if x = y then 0 else 1) (min (f (y :: v)) (levI x f v) + 1)
def lev : List Nat → List Nat → Nat
  | [] => fun b => b.length
  | x :: a => levI x (lev a)
theorem levI_le (x : Nat) (f : List Nat → Nat) : ∀ v, levI x f v ≤ f v + 1
  | [] => Nat.le_refl _
  | y :: v => by
    rw [levI]
    omega
theorem lev_le : ∀ (a b : List Nat), lev a b ≤ a.length + b.length
  | [], b => by simp [lev]
  | x :: a, b => by
    have h1 := levI_le x (lev a) b
    have h2 := lev_le a b
    rw [lev, List.length_cons]
    omega
theorem q_min {a b : Nat} (ha : a < 2147483648) (hb : b < 2147483648) : (if nI b < nI a then nI b else nI a) = nI (min a b) := by
  by_cases h : b < a
  · rw [if_pos ((nI_ltI hb ha).mpr h), Nat.min_eq_right (Nat.le_of_lt h)]
  · rw [if_neg (fun z => h ((nI_ltI hb ha).mp z)), Nat.min_eq_left (by omega)]
theorem suf_len {b u v u2 v2 : List Nat} (h : b = u ++ v) (h2 : b = u2 ++ v2) (hl : v.length = v2.length) : v = v2 := (List.append_inj_right' (h.symm.trans h2) hl)
set_option maxHeartbeats 4000000 in
set_option maxRecDepth 100000 in
theorem c_StepCounter (l : Launch) (g : q_G) (wr : va_W) (a0 : Nat) : MetW l g yX2_init cX2_init 1 none ({ frames := 1, cells := 1, slots := 9, locals := 20 } : Room) [.ref a0] ((a0, .inr (3, [.null])) :: wr) (q_Qv g (fun w => ∃ q : Nat, w = ((a0, .inr (3, [.ref q])) :: wr) ++ [(q, .inl (q_cI g, 9, .inl (fun _ => 0)))])) := by
  refine q_met (own := RX2) (by decide +kernel) rfl (Nat.le_of_ble_eq_true rfl) (fun p e s m args below meth c cx hr hnm => ?_)
  refine r_lv (lv2 := [(0, .ref a0)]) (q_pk [0] rfl) ?_
  refine r_aload_n cx dX2_init_0 rfl rfl ?_
  refine r_objInit cx tb_61 tb_28 tb_29 dX2_init_1 (Nat.le_of_ble_eq_true rfl) (Nat.le_of_ble_eq_true rfl) ?_
  refine r_aload_n cx dX2_init_4 rfl rfl ?_
  refine r_bipush (v := nI 9) cx dX2_init_5 (by decide) ?_
  refine r_newarr (atype := .int) (N := 9) (a0 := (9, .inl (fun _ => 0))) cx 0 tb_66 rfl rfl trivial (fun _ => rfl) (by decide) (by decide) dX2_init_7 (Nat.le_of_ble_eq_true rfl) (Nat.le_of_ble_eq_true rfl) (fun q => ?_)
  refine pf_X2_9 cx hnm dX2_init_9 0 rfl (Nat.le_of_ble_eq_true rfl) ?_
  exact r_vret cx dX2_init_12 hr (⟨q, rfl⟩) (Nat.le_of_ble_eq_true rfl) (Nat.le_of_ble_eq_true rfl)
set_option maxHeartbeats 4000000 in
set_option maxRecDepth 100000 in
theorem c_goThrough (l : Launch) (g : q_G) (wr : va_W) (a0 a1 : Nat) (row : Nat → Int32) (x0 : Nat) (b : List Nat) (f : List Nat → Nat) (hf : ∀ v, v.length ≤ 8 → f v ≤ 1000) (hx0 : x0 < 8) (hb : snd b) (hbl : b.length ≤ 8) (hrow : ∀ u v, b = u ++ v → row v.length = nI (f v)) : MetW l g yX2_goThrough cX2_goThrough 8 (some .int) ({ frames := 1, cells := 0, slots := 0, locals := 30 } : Room) [.ref a0, .int (nI (x0 + 1)), .int (nI (num b))] ((a0, .inr (3, [.ref a1])) :: (a1, .inl (q_cI g, 9, .inl row)) :: wr) (q_Qi g (fun r w => r = nI (levI x0 f b) ∧ ∃ row2 : Nat → Int32, w = ((a0, .inr (3, [.ref a1])) :: (a1, .inl (q_cI g, 9, .inl row2)) :: wr) ∧ ∀ u v, b = u ++ v → row2 v.length = nI (levI x0 f v))) := by
  refine q_met (own := RX2) (by decide +kernel) rfl (Nat.le_of_ble_eq_true rfl) (fun p e s m args below meth c cx hr hnm => ?_)
  refine r_lv (lv2 := [(0, .ref a0), (1, .int (nI (x0 + 1))), (2, .int (nI (num b)))]) (q_pk [0, 1, 2] rfl) ?_
  refine r_aload_n cx dX2_goThrough_0 rfl rfl ?_
  refine gf_X2_9 cx dX2_goThrough_1 0 rfl rfl ?_
  refine r_iconst (v := nI 0) cx dX2_goThrough_4 (by decide) ?_
  first | refine r_ialdN cx 1 0 dX2_goThrough_5 rfl rfl (by omega) (by omega) ?_ | refine r_iald cx 1 0 dX2_goThrough_5 rfl rfl (by omega) ?_
  refine r_eqi (y := nI (f [])) (hrow b [] (by simp)) ?_
  refine r_istore_n cx dX2_goThrough_6 rfl (by decide) rfl ?_
  refine r_aload_n cx dX2_goThrough_7 rfl rfl ?_
  refine gf_X2_9 cx dX2_goThrough_8 0 rfl rfl ?_
  refine r_iconst (v := nI 0) cx dX2_goThrough_11 (by decide) ?_
  refine r_iload_n cx dX2_goThrough_12 rfl rfl ?_
  refine r_iconst (v := nI 1) cx dX2_goThrough_13 (by decide) ?_
  first | refine r_iaddN cx dX2_goThrough_14 ?_ | refine r_iadd cx dX2_goThrough_14 ?_
  first | refine r_iastN cx 1 0 dX2_goThrough_15 rfl rfl (by omega) (by omega) ?_ | refine r_iast cx 1 0 dX2_goThrough_15 rfl rfl (by omega) ?_
  refine r_aload_n cx dX2_goThrough_16 rfl rfl ?_
  refine gf_X2_9 cx dX2_goThrough_17 0 rfl rfl ?_
  refine r_iconst (v := nI 0) cx dX2_goThrough_20 (by decide) ?_
  first | refine r_ialdN cx 1 0 dX2_goThrough_21 rfl rfl (by omega) (by omega) ?_ | refine r_iald cx 1 0 dX2_goThrough_21 rfl rfl (by omega) ?_
  refine r_eqi (y := nI (levI x0 f [])) rfl ?_
  refine r_istore cx dX2_goThrough_22 (by decide) rfl ?_
  refine r_iload_n cx dX2_goThrough_24 rfl rfl ?_
  refine r_istore cx dX2_goThrough_25 (by decide) rfl ?_
  refine r_iconst (v := nI 1) cx dX2_goThrough_27 (by decide) ?_
  refine r_istore cx dX2_goThrough_28 (by decide) rfl ?_
  refine at_loop (fun (x : (List Nat × List Nat) × (Nat → Int32)) => x.1.1 ++ x.1.2 = b ∧ (∀ u v, b = u ++ v → v.length ≤ x.1.2.length → x.2 v.length = nI (levI x0 f v)) ∧ (∀ u v, b = u ++ v → x.1.2.length < v.length → x.2 v.length = nI (f v))) (fun x => [(0, .ref a0), (1, .int (nI (x0 + 1))), (3, .int (nI (f x.1.2))), (4, .int (nI (levI x0 f x.1.2))), (5, .int (nI (num x.1.1))), (6, .int (nI (x.1.2.length + 1)))]) (fun x => (a0, .inr (3, [.ref a1])) :: (a1, .inl (q_cI g, 9, .inl x.2)) :: wr) (fun x => x.1.1.length) ((b, []), upd row 0 (nI (f [] + 1))) ⟨List.append_nil b, fun u v hu hv => by
    obtain rfl : v = [] := List.eq_nil_of_length_eq_zero (Nat.le_zero.mp hv)
    rfl, fun u v hu hv => by
    have h9 : v.length ≠ 0 := by simp only [List.length_nil] at hv; omega
    show upd row 0 _ v.length = _
    rw [pk_un h9]
    exact hrow u v hu⟩ (q_pk [4, 5, 3, 2, 1, 0] rfl) rfl (fun x hx ih => ?_)
  obtain ⟨⟨b1, b2⟩, rw1⟩ := x
  dsimp only at hx ⊢
  obtain ⟨hx1, hx2, hx3⟩ := hx
  have hlen : b1.length + b2.length = b.length := by rw [← hx1, List.length_append]
  have hs1 : snd b1 := (snd_app.mp (hx1 ▸ hb)).1
  have hb1 := num_bd hs1 (by omega)
  have hf1 := hf b2 (by omega)
  have hf2 := levI_le x0 f b2
  refine r_iload cx dX2_goThrough_30 rfl ?_
  refine r_aload_n cx dX2_goThrough_32 rfl rfl ?_
  refine gf_X2_9 cx dX2_goThrough_33 0 rfl rfl ?_
  refine r_alen (v := nI 9) cx 1 0 dX2_goThrough_36 rfl rfl rfl ?_
  refine r_icmpgeN (tgt := 115) cx (by omega) (by omega) dX2_goThrough_37 (by decide) (fun h_37 => ?_) (fun h_37 => ?_)
  · skip
    obtain rfl : b1 = [] := List.eq_nil_of_length_eq_zero (by omega)
    obtain rfl : b2 = b := by simpa using hx1
    refine r_iload cx dX2_goThrough_115 rfl ?_
    exact r_iret cx dX2_goThrough_117 hr (⟨rfl, rw1, rfl, fun u v hu => hx2 u v hu (by rw [hu]; simp)⟩) (Nat.le_of_ble_eq_true rfl) (Nat.le_of_ble_eq_true rfl)
  · skip
    refine r_iload cx dX2_goThrough_40 rfl ?_
    refine r_ifleN (tgt := 115) cx (by omega) dX2_goThrough_42 (by decide) (fun h_42 => ?_) (fun h_42 => ?_)
    · skip
      obtain rfl : b1 = [] := num_zero.mp h_42
      obtain rfl : b2 = b := by simpa using hx1
      refine r_iload cx dX2_goThrough_115 rfl ?_
      exact r_iret cx dX2_goThrough_117 hr (⟨rfl, rw1, rfl, fun u v hu => hx2 u v hu (by rw [hu]; simp)⟩) (Nat.le_of_ble_eq_true rfl) (Nat.le_of_ble_eq_true rfl)
    · skip
      obtain ⟨b1, y, rfl⟩ := l_snoc (l := b1) (fun z => by rw [z] at h_42; exact absurd h_42 (by decide))
      have hy8 : y < 8 := hs1 y (by simp)
      have hsn := num_snoc b1 y
      rw [List.length_append, List.length_singleton] at hlen
      have hf3 := hf (y :: b2) (by simp only [List.length_cons]; omega)
      have hf4 := levI_le x0 f (y :: b2)
      refine r_iload cx dX2_goThrough_45 rfl ?_
      refine r_bipush (v := nI 9) cx dX2_goThrough_47 (by decide) ?_
      refine r_iremN cx dX2_goThrough_49 (by omega) (by omega) (by omega) ?_
      refine r_iload_n cx dX2_goThrough_50 rfl rfl ?_
      refine r_icmpneN (tgt := 58) cx (by omega) (by omega) dX2_goThrough_51 (by decide) (fun h_51 => ?_) (fun h_51 => ?_)
      · skip
        refine r_iload_n cx dX2_goThrough_58 rfl rfl ?_
        refine r_iconst (v := nI 1) cx dX2_goThrough_59 (by decide) ?_
        first | refine r_iaddN cx dX2_goThrough_60 ?_ | refine r_iadd cx dX2_goThrough_60 ?_
        refine r_istore cx dX2_goThrough_61 (by decide) rfl ?_
        refine r_aload_n cx dX2_goThrough_63 rfl rfl ?_
        refine gf_X2_9 cx dX2_goThrough_64 0 rfl rfl ?_
        refine r_iload cx dX2_goThrough_67 rfl ?_
        first | refine r_ialdN cx 1 0 dX2_goThrough_69 rfl rfl (by omega) (by omega) ?_ | refine r_iald cx 1 0 dX2_goThrough_69 rfl rfl (by omega) ?_
        refine r_eqi (y := nI (f (y :: b2))) (hx3 b1 (y :: b2) (by simp [← hx1]) (by simp)) ?_
        refine r_istore_n cx dX2_goThrough_70 rfl (by decide) rfl ?_
        refine r_iload cx dX2_goThrough_71 rfl ?_
        refine r_iload_n cx dX2_goThrough_73 rfl rfl ?_
        refine r_aload_n cx dX2_goThrough_74 rfl rfl ?_
        refine gf_X2_9 cx dX2_goThrough_75 0 rfl rfl ?_
        refine r_iload cx dX2_goThrough_78 rfl ?_
        refine r_iconst (v := nI 1) cx dX2_goThrough_80 (by decide) ?_
        first | refine r_isubN cx dX2_goThrough_81 (by omega) ?_ | refine r_isub cx dX2_goThrough_81 ?_
        first | refine r_ialdN cx 1 0 dX2_goThrough_82 rfl rfl (by omega) (by omega) ?_ | refine r_iald cx 1 0 dX2_goThrough_82 rfl rfl (by omega) ?_
        rw [Nat.add_sub_cancel]
        refine r_eqi (y := nI (levI x0 f b2)) (hx2 (b1 ++ [y]) b2 (by simp [← hx1]) (Nat.le_refl _)) ?_
        refine r_min cx tb_488 tb_313 tb_16 tb_314 dX2_goThrough_83 (Nat.le_of_ble_eq_true rfl) (Nat.le_of_ble_eq_true rfl) (Nat.le_of_ble_eq_true rfl) (Nat.le_of_ble_eq_true rfl) ?_
        rw [q_min (by omega) (by omega)]
        refine r_iconst (v := nI 1) cx dX2_goThrough_86 (by decide) ?_
        first | refine r_iaddN cx dX2_goThrough_87 ?_ | refine r_iadd cx dX2_goThrough_87 ?_
        refine r_min cx tb_488 tb_313 tb_16 tb_314 dX2_goThrough_88 (Nat.le_of_ble_eq_true rfl) (Nat.le_of_ble_eq_true rfl) (Nat.le_of_ble_eq_true rfl) (Nat.le_of_ble_eq_true rfl) ?_
        rw [q_min (by omega) (by omega)]
        refine r_eqi (y := nI (levI x0 f (y :: b2))) (congrArg nI (by rw [levI, if_neg (by omega : ¬ x0 = y)])) ?_
        refine r_istore cx dX2_goThrough_91 (by decide) rfl ?_
        refine r_aload_n cx dX2_goThrough_93 rfl rfl ?_
        refine gf_X2_9 cx dX2_goThrough_94 0 rfl rfl ?_
        refine r_iload cx dX2_goThrough_97 rfl ?_
        refine r_iload cx dX2_goThrough_99 rfl ?_
        first | refine r_iastN cx 1 0 dX2_goThrough_101 rfl rfl (by omega) (by omega) ?_ | refine r_iast cx 1 0 dX2_goThrough_101 rfl rfl (by omega) ?_
        refine r_iload cx dX2_goThrough_102 rfl ?_
        refine r_bipush (v := nI 9) cx dX2_goThrough_104 (by decide) ?_
        refine r_idivN cx dX2_goThrough_106 (by omega) (by omega) (by omega) ?_
        refine r_eqi (y := nI (num b1)) (congrArg nI (by omega)) ?_
        refine r_istore cx dX2_goThrough_107 (by decide) rfl ?_
        refine r_iincN (j := 1) cx dX2_goThrough_109 rfl rfl (by decide) rfl ?_
        refine r_goto (tgt := 30) cx dX2_goThrough_112 (by decide) ?_
        exact r_lv (q_pk [5, 6, 3, 2, 1, 0] rfl) (ih ((b1, y :: b2), upd rw1 (b2.length + 1) (nI (levI x0 f (y :: b2)))) ⟨by rw [← hx1]; simp, fun u v hu hv => by
    show upd rw1 _ _ v.length = _
    by_cases h9 : v.length = b2.length + 1
    · obtain rfl : v = y :: b2 := suf_len hu (by rw [← hx1]; simp : b = b1 ++ (y :: b2)) (by simp [h9])
      exact (congrArg _ h9).trans pk_us
    · rw [pk_un h9]
      exact hx2 u v hu (by simp only [List.length_cons] at hv; omega), fun u v hu hv => by
    show upd rw1 _ _ v.length = _
    simp only [List.length_cons] at hv
    rw [pk_un (by omega)]
    exact hx3 u v hu (by omega)⟩ (by simp))
      · skip
        refine r_iload_n cx dX2_goThrough_54 rfl rfl ?_
        refine r_goto (tgt := 61) cx dX2_goThrough_55 (by decide) ?_
        refine r_istore cx dX2_goThrough_61 (by decide) rfl ?_
        refine r_aload_n cx dX2_goThrough_63 rfl rfl ?_
        refine gf_X2_9 cx dX2_goThrough_64 0 rfl rfl ?_
        refine r_iload cx dX2_goThrough_67 rfl ?_
        first | refine r_ialdN cx 1 0 dX2_goThrough_69 rfl rfl (by omega) (by omega) ?_ | refine r_iald cx 1 0 dX2_goThrough_69 rfl rfl (by omega) ?_
        refine r_eqi (y := nI (f (y :: b2))) (hx3 b1 (y :: b2) (by simp [← hx1]) (by simp)) ?_
        refine r_istore_n cx dX2_goThrough_70 rfl (by decide) rfl ?_
        refine r_iload cx dX2_goThrough_71 rfl ?_
        refine r_iload_n cx dX2_goThrough_73 rfl rfl ?_
        refine r_aload_n cx dX2_goThrough_74 rfl rfl ?_
        refine gf_X2_9 cx dX2_goThrough_75 0 rfl rfl ?_
        refine r_iload cx dX2_goThrough_78 rfl ?_
        refine r_iconst (v := nI 1) cx dX2_goThrough_80 (by decide) ?_
        first | refine r_isubN cx dX2_goThrough_81 (by omega) ?_ | refine r_isub cx dX2_goThrough_81 ?_
        first | refine r_ialdN cx 1 0 dX2_goThrough_82 rfl rfl (by omega) (by omega) ?_ | refine r_iald cx 1 0 dX2_goThrough_82 rfl rfl (by omega) ?_
        rw [Nat.add_sub_cancel]
        refine r_eqi (y := nI (levI x0 f b2)) (hx2 (b1 ++ [y]) b2 (by simp [← hx1]) (Nat.le_refl _)) ?_
        refine r_min cx tb_488 tb_313 tb_16 tb_314 dX2_goThrough_83 (Nat.le_of_ble_eq_true rfl) (Nat.le_of_ble_eq_true rfl) (Nat.le_of_ble_eq_true rfl) (Nat.le_of_ble_eq_true rfl) ?_
        rw [q_min (by omega) (by omega)]
        refine r_iconst (v := nI 1) cx dX2_goThrough_86 (by decide) ?_
        first | refine r_iaddN cx dX2_goThrough_87 ?_ | refine r_iadd cx dX2_goThrough_87 ?_
        refine r_min cx tb_488 tb_313 tb_16 tb_314 dX2_goThrough_88 (Nat.le_of_ble_eq_true rfl) (Nat.le_of_ble_eq_true rfl) (Nat.le_of_ble_eq_true rfl) (Nat.le_of_ble_eq_true rfl) ?_
        rw [q_min (by omega) (by omega)]
        refine r_eqi (y := nI (levI x0 f (y :: b2))) (congrArg nI (by rw [levI, if_pos (by omega : x0 = y)]; rfl)) ?_
        refine r_istore cx dX2_goThrough_91 (by decide) rfl ?_
        refine r_aload_n cx dX2_goThrough_93 rfl rfl ?_
        refine gf_X2_9 cx dX2_goThrough_94 0 rfl rfl ?_
        refine r_iload cx dX2_goThrough_97 rfl ?_
        refine r_iload cx dX2_goThrough_99 rfl ?_
        first | refine r_iastN cx 1 0 dX2_goThrough_101 rfl rfl (by omega) (by omega) ?_ | refine r_iast cx 1 0 dX2_goThrough_101 rfl rfl (by omega) ?_
        refine r_iload cx dX2_goThrough_102 rfl ?_
        refine r_bipush (v := nI 9) cx dX2_goThrough_104 (by decide) ?_
        refine r_idivN cx dX2_goThrough_106 (by omega) (by omega) (by omega) ?_
        refine r_eqi (y := nI (num b1)) (congrArg nI (by omega)) ?_
        refine r_istore cx dX2_goThrough_107 (by decide) rfl ?_
        refine r_iincN (j := 1) cx dX2_goThrough_109 rfl rfl (by decide) rfl ?_
        refine r_goto (tgt := 30) cx dX2_goThrough_112 (by decide) ?_
        exact r_lv (q_pk [5, 6, 3, 2, 1, 0] rfl) (ih ((b1, y :: b2), upd rw1 (b2.length + 1) (nI (levI x0 f (y :: b2)))) ⟨by rw [← hx1]; simp, fun u v hu hv => by
    show upd rw1 _ _ v.length = _
    by_cases h9 : v.length = b2.length + 1
    · obtain rfl : v = y :: b2 := suf_len hu (by rw [← hx1]; simp : b = b1 ++ (y :: b2)) (by simp [h9])
      exact (congrArg _ h9).trans pk_us
    · rw [pk_un h9]
      exact hx2 u v hu (by simp only [List.length_cons] at hv; omega), fun u v hu hv => by
    show upd rw1 _ _ v.length = _
    simp only [List.length_cons] at hv
    rw [pk_un (by omega)]
    exact hx3 u v hu (by omega)⟩ (by simp))
set_option maxHeartbeats 4000000 in
set_option maxRecDepth 100000 in
theorem c_countSteps (l : Launch) (g : q_G) (wr : va_W) (s0 s1 : Nat) (row : Nat → Int32) (a b : List Nat) (ha : snd a) (hal : a.length ≤ 8) (hb : snd b) (hbl : b.length ≤ 8) (hne : a ≠ []) : MetW l g yX2_countSteps cX2_countSteps 6 (some .int) ({ frames := 2, cells := 0, slots := 0, locals := 57 } : Room) [.ref s0, .int (nI (num a)), .int (nI (num b))] ((s0, .inr (3, [.ref s1])) :: (s1, .inl (q_cI g, 9, .inl row)) :: wr) (q_Qi g (fun r w => r = nI (lev a b) ∧ ∃ row2 : Nat → Int32, w = ((s0, .inr (3, [.ref s1])) :: (s1, .inl (q_cI g, 9, .inl row2)) :: wr))) := by
  refine q_met (own := RX2) (by decide +kernel) rfl (Nat.le_of_ble_eq_true rfl) (fun p e s m args below meth c cx hr hnm => ?_)
  refine r_lv (lv2 := [(0, .ref s0), (1, .int (nI (num a))), (2, .int (nI (num b)))]) (q_pk [0, 1, 2] rfl) ?_
  refine r_iconst (v := nI 0) cx dX2_countSteps_0 (by decide) ?_
  refine r_istore_n cx dX2_countSteps_1 rfl (by decide) rfl ?_
  refine at_loop (fun (x : Nat × (Nat → Int32)) => x.1 ≤ 9 ∧ ∀ j, j < x.1 → x.2 j = nI j) (fun x => [(0, .ref s0), (1, .int (nI (num a))), (2, .int (nI (num b))), (3, .int (nI x.1))]) (fun x => (s0, .inr (3, [.ref s1])) :: (s1, .inl (q_cI g, 9, .inl x.2)) :: wr) (fun x => 9 - x.1) (0, row) ⟨Nat.zero_le _, fun j hj => absurd hj (Nat.not_lt_zero j)⟩ (q_pk [1, 2, 3, 0] rfl) rfl (fun x hx ih => ?_)
  obtain ⟨j, rw1⟩ := x
  dsimp only at hx ⊢
  obtain ⟨hx1, hx2⟩ := hx
  refine r_iload_n cx dX2_countSteps_2 rfl rfl ?_
  refine r_aload_n cx dX2_countSteps_3 rfl rfl ?_
  refine gf_X2_9 cx dX2_countSteps_4 0 rfl rfl ?_
  refine r_alen (v := nI 9) cx 1 0 dX2_countSteps_7 rfl rfl rfl ?_
  refine r_icmpgeN (tgt := 24) cx (by omega) (by omega) dX2_countSteps_8 (by decide) (fun h_8 => ?_) (fun h_8 => ?_)
  · skip
    obtain rfl : j = 9 := by omega
    refine r_iload_n cx dX2_countSteps_24 rfl rfl ?_
    refine r_istore_n cx dX2_countSteps_25 rfl (by decide) rfl ?_
    refine r_aload_n cx dX2_countSteps_26 rfl rfl ?_
    refine gf_X2_9 cx dX2_countSteps_27 0 rfl rfl ?_
    refine r_iconst (v := nI 0) cx dX2_countSteps_30 (by decide) ?_
    first | refine r_ialdN cx 1 0 dX2_countSteps_31 rfl rfl (by omega) (by omega) ?_ | refine r_iald cx 1 0 dX2_countSteps_31 rfl rfl (by omega) ?_
    refine r_istore cx dX2_countSteps_32 (by decide) rfl ?_
    refine r_iconst (v := nI 0) cx dX2_countSteps_34 (by decide) ?_
    refine r_istore cx dX2_countSteps_35 (by decide) rfl ?_
    refine at_loop (fun (x : (List Nat × List Nat) × (Nat → Int32)) => x.1.1 ++ x.1.2 = a ∧ (∀ u v, b = u ++ v → x.2 v.length = nI (lev x.1.2 v))) (fun x => [(0, .ref s0), (2, .int (nI (num b))), (3, .int (nI (num x.1.1))), (4, .int (if x.1.2 = [] then rw1 0 else nI (lev x.1.2 b))), (5, .int (nI x.1.2.length))]) (fun x => (s0, .inr (3, [.ref s1])) :: (s1, .inl (q_cI g, 9, .inl x.2)) :: wr) (fun x => x.1.1.length) ((a, []), rw1) ⟨List.append_nil a, fun u v hu => by
    have h8 : v.length ≤ 8 := by have := congrArg List.length hu; simp only [List.length_append] at this; omega
    exact hx2 v.length (by omega)⟩ (q_pk [3, 5, 2, 1, 0] rfl) rfl (fun x hx ih => ?_)
    obtain ⟨⟨a1, a2⟩, rw2⟩ := x
    dsimp only at hx ⊢
    obtain ⟨hx1, hx3⟩ := hx
    have hlen : a1.length + a2.length = a.length := by rw [← hx1, List.length_append]
    have hs1 : snd a1 := (snd_app.mp (hx1 ▸ ha)).1
    have hb1 := num_bd hs1 (by omega)
    refine r_iload cx dX2_countSteps_37 rfl ?_
    refine r_bipush (v := nI 8) cx dX2_countSteps_39 (by decide) ?_
    refine r_icmpgeN (tgt := 70) cx (by omega) (by omega) dX2_countSteps_41 (by decide) (fun h_41 => ?_) (fun h_41 => ?_)
    · skip
      obtain rfl : a1 = [] := List.eq_nil_of_length_eq_zero (by omega)
      obtain rfl : a2 = a := by simpa using hx1
      refine r_iload cx dX2_countSteps_70 rfl ?_
      exact r_iret cx dX2_countSteps_72 hr (⟨by rw [if_neg hne], rw2, rfl⟩) (Nat.le_of_ble_eq_true rfl) (Nat.le_of_ble_eq_true rfl)
    · skip
      refine r_iload_n cx dX2_countSteps_44 rfl rfl ?_
      refine r_ifleN (tgt := 70) cx (by omega) dX2_countSteps_45 (by decide) (fun h_45 => ?_) (fun h_45 => ?_)
      · skip
        obtain rfl : a1 = [] := num_zero.mp h_45
        obtain rfl : a2 = a := by simpa using hx1
        refine r_iload cx dX2_countSteps_70 rfl ?_
        exact r_iret cx dX2_countSteps_72 hr (⟨by rw [if_neg hne], rw2, rfl⟩) (Nat.le_of_ble_eq_true rfl) (Nat.le_of_ble_eq_true rfl)
      · skip
        obtain ⟨a1, y, rfl⟩ := l_snoc (l := a1) (fun z => by rw [z] at h_45; exact absurd h_45 (by decide))
        have hy8 : y < 8 := hs1 y (by simp)
        have hsn := num_snoc a1 y
        rw [List.length_append, List.length_singleton] at hlen
        refine r_aload_n cx dX2_countSteps_48 rfl rfl ?_
        refine r_iload_n cx dX2_countSteps_49 rfl rfl ?_
        refine r_bipush (v := nI 9) cx dX2_countSteps_50 (by decide) ?_
        refine r_iremN cx dX2_countSteps_52 (by omega) (by omega) (by omega) ?_
        refine r_eqi (y := nI (y + 1)) (congrArg nI (by omega)) ?_
        refine r_iload_n cx dX2_countSteps_53 rfl rfl ?_
        refine k_X2_15 cx (c_goThrough l g wr s0 s1 rw2 y b (lev a2) (fun v hv => by have := lev_le a2 v; omega) hy8 hb hbl hx3) dX2_countSteps_54 0 rfl ⟨Nat.le_of_ble_eq_true rfl, Nat.le_of_ble_eq_true rfl⟩ ⟨Nat.le_of_ble_eq_true rfl, Nat.le_of_ble_eq_true rfl⟩ rfl rfl (Nat.le_of_ble_eq_true rfl) (fun r w hp => ?_)
        obtain ⟨rfl, row2, rfl, hr2⟩ := hp
        refine r_eqi (y := (if (y :: a2) = [] then rw1 0 else nI (lev (y :: a2) b))) rfl ?_
        refine r_istore cx dX2_countSteps_57 (by decide) rfl ?_
        refine r_iload_n cx dX2_countSteps_59 rfl rfl ?_
        refine r_bipush (v := nI 9) cx dX2_countSteps_60 (by decide) ?_
        refine r_idivN cx dX2_countSteps_62 (by omega) (by omega) (by omega) ?_
        refine r_eqi (y := nI (num a1)) (congrArg nI (by omega)) ?_
        refine r_istore_n cx dX2_countSteps_63 rfl (by decide) rfl ?_
        refine r_iincN (j := 1) cx dX2_countSteps_64 rfl rfl (by decide) rfl ?_
        refine r_goto (tgt := 37) cx dX2_countSteps_67 (by decide) ?_
        exact r_lv (q_pk [3, 4, 1, 2, 0] rfl) (ih ((a1, y :: a2), row2) ⟨by rw [← hx1]; simp, hr2⟩ (by simp))
  · skip
    refine r_aload_n cx dX2_countSteps_11 rfl rfl ?_
    refine gf_X2_9 cx dX2_countSteps_12 0 rfl rfl ?_
    refine r_iload_n cx dX2_countSteps_15 rfl rfl ?_
    refine r_iload_n cx dX2_countSteps_16 rfl rfl ?_
    first | refine r_iastN cx 1 0 dX2_countSteps_17 rfl rfl (by omega) (by omega) ?_ | refine r_iast cx 1 0 dX2_countSteps_17 rfl rfl (by omega) ?_
    refine r_iincN (j := 1) cx dX2_countSteps_18 rfl rfl (by decide) rfl ?_
    refine r_goto (tgt := 2) cx dX2_countSteps_21 (by decide) ?_
    exact r_lv (q_pk [1, 2, 3, 0] rfl) (ih (j + 1, upd rw1 j (nI j)) ⟨by omega, fun k hk => by
    show upd rw1 j (nI j) k = nI k
    by_cases h9 : k = j
    · rw [h9, pk_us]
    · rw [pk_un h9]
      exact hx2 k (by omega)⟩ (by show 9 - (j + 1) < 9 - j; omega))
end
section
/-- what a world shows of the interviews -/
def ivV (g : q_G) (ws : va_W) (a0 aI : Nat) (th : Int64) (n : Nat) (ia : Nat → Nat) (bt : Nat → Int64) (fi : Nat → Nat → Int32) : Prop :=
  (∃ (q0 : Nat) (r1 r2 r3 r4 r5 r6 : Value) (dr dl : Int32), ws[q0]? = some (a0, .inr (4, [.ref aI, r1, r2, r3, r4, r5, r6, .long th, .int dr, .int dl]))) ∧ lsV g ws aI n ia ∧ n ≤ 40 ∧ ∀ i, i < n → ∃ qi : Nat, ws[qi]? = some (ia i, oI (bt i) (fi 0 i) (fi 1 i) (fi 2 i) (fi 3 i) (fi 4 i))
/-- what a world shows of the rules -/
def rlV (g : q_G) (ws : va_W) (a0 aR : Nat) (rn : Nat) (ra : Nat → Nat) (so be : Nat → Nat) (to : Nat → Option Nat) (rl : Nat → Nat → Int32) (gr : Nat → Int64) (fa : Nat → Bool) : Prop :=
  (∃ (q0 : Nat) (r0 r2 r3 r4 r5 r6 : Value) (th : Int64) (dr dl : Int32), ws[q0]? = some (a0, .inr (4, [r0, .ref aR, r2, r3, r4, r5, r6, .long th, .int dr, .int dl]))) ∧ lsV g ws aR rn ra ∧ rn ≤ 20 ∧ (∀ r, r < rn → so r < 8 ∧ be r < 10 ∧ ∀ t, to r = some t → t < 8) ∧ ∀ r, r < rn → ∃ q : Nat, ws[q]? = some (ra r, oR (nI (so r)) (toI (to r)) (nI (be r)) (rl 0 r) (rl 1 r) (rl 2 r) (gr r) (fa r))
def mtc (hr : Nat → Bool) (fi : Nat → Nat → Int32) (w p : Int32) (k : Nat) : Bool := hr k && (decide (fi 3 k = w) && decide (fi 1 k = p))
def cntF (hr : Nat → Bool) (fi : Nat → Nat → Int32) (w p f : Int32) : Nat → Nat
  | 0 => 0
  | k + 1 => if mtc hr fi w p k && decide (fi 4 k = f) then cntF hr fi w p f k + 1 else cntF hr fi w p f k
theorem cntF_no {hr : Nat → Bool} {fi : Nat → Nat → Int32} {w p f : Int32} {k : Nat} (h : (mtc hr fi w p k && decide (fi 4 k = f)) = false) : cntF hr fi w p f (k + 1) = cntF hr fi w p f k := by rw [cntF, h]; rfl
theorem cntF_yes {hr : Nat → Bool} {fi : Nat → Nat → Int32} {w p f : Int32} {k : Nat} (h : (mtc hr fi w p k && decide (fi 4 k = f)) = true) : cntF hr fi w p f (k + 1) = cntF hr fi w p f k + 1 := by rw [cntF, h]; rfl
theorem cntF_le (hr : Nat → Bool) (fi : Nat → Nat → Int32) (w p f : Int32) : ∀ k, cntF hr fi w p f k ≤ k
  | 0 => Nat.le_refl _
  | k + 1 => by
    have h := cntF_le hr fi w p f k
    rw [cntF]
    split <;> omega
/-- the form told most, and by how many, over the first k interviews -/
def mstF (hr : Nat → Bool) (fi : Nat → Nat → Int32) (n : Nat) (w p : Int32) : Nat → Int32 × Nat
  | 0 => (-1, 0)
  | k + 1 => if mtc hr fi w p k && decide ((mstF hr fi n w p k).2 < cntF hr fi w p (fi 4 k) n) then (fi 4 k, cntF hr fi w p (fi 4 k) n) else mstF hr fi n w p k
theorem mstF_no {hr : Nat → Bool} {fi : Nat → Nat → Int32} {n : Nat} {w p : Int32} {k : Nat} (h : (mtc hr fi w p k && decide ((mstF hr fi n w p k).2 < cntF hr fi w p (fi 4 k) n)) = false) : mstF hr fi n w p (k + 1) = mstF hr fi n w p k := by rw [mstF, h]; rfl
theorem mstF_yes {hr : Nat → Bool} {fi : Nat → Nat → Int32} {n : Nat} {w p : Int32} {k : Nat} (h : (mtc hr fi w p k && decide ((mstF hr fi n w p k).2 < cntF hr fi w p (fi 4 k) n)) = true) : mstF hr fi n w p (k + 1) = (fi 4 k, cntF hr fi w p (fi 4 k) n) := by rw [mstF, h]; rfl
theorem mstF_le (hr : Nat → Bool) (fi : Nat → Nat → Int32) (n : Nat) (w p : Int32) : ∀ k, (mstF hr fi n w p k).2 ≤ n
  | 0 => Nat.zero_le _
  | k + 1 => by
    rw [mstF]
    split
    · exact cntF_le hr fi w p _ n
    · exact mstF_le hr fi n w p k
def mst (hr : Nat → Bool) (fi : Nat → Nat → Int32) (n : Nat) (w p : Int32) : Int32 := (mstF hr fi n w p n).1
def lnc (ms : Nat → Int32) (k : Nat) : Bool := decide (ms k ≠ -1) && (decide (ms (k + 1) ≠ -1) && decide (ms k ≠ ms (k + 1)))
def drwF (ms : Nat → Int32) : Nat → Int32
  | 0 => 0
  | k + 1 => if lnc ms k then drwF ms k ||| (nI 1 <<< (nI k &&& 31)) else drwF ms k
theorem drwF_no {ms : Nat → Int32} {k : Nat} (h : lnc ms k = false) : drwF ms (k + 1) = drwF ms k := by rw [drwF, h]; rfl
theorem drwF_yes {ms : Nat → Int32} {k : Nat} (h : lnc ms k = true) : drwF ms (k + 1) = drwF ms k ||| (nI 1 <<< (nI k &&& 31)) := by rw [drwF, h]; rfl
def drw (hr : Nat → Bool) (fi : Nat → Nat → Int32) (n : Nat) (w : Int32) : Int32 := drwF (fun k => mst hr fi n w (nI k)) 9
def ivoF (th : Int64) (bt : Nat → Int64) (fi : Nat → Nat → Int32) (who : Int32) : Nat → Int64
  | 0 => 0
  | k + 1 => if hasB th (bt k) && decide (fi 0 k = who) then ivoF th bt fi who k ||| bt k else ivoF th bt fi who k
theorem ivoF_no {th : Int64} {bt : Nat → Int64} {fi : Nat → Nat → Int32} {who : Int32} {k : Nat} (h : (hasB th (bt k) && decide (fi 0 k = who)) = false) : ivoF th bt fi who (k + 1) = ivoF th bt fi who k := by rw [ivoF, h]; rfl
theorem ivoF_yes {th : Int64} {bt : Nat → Int64} {fi : Nat → Nat → Int32} {who : Int32} {k : Nat} (h : (hasB th (bt k) && decide (fi 0 k = who)) = true) : ivoF th bt fi who (k + 1) = ivoF th bt fi who k ||| bt k := by rw [ivoF, h]; rfl
def goF (rl : Nat → Nat → Int32) (fa : Nat → Bool) (p y : Int32) (r : Nat) : Bool := !fa r && decide (rl 0 r ≤ p) && decide (p ≤ rl 1 r) && decide (rl 2 r ≤ y)
def expF (gs : Nat → Bool) (so be : Nat → Nat) (to : Nat → Option Nat) (l : List Nat) : Nat → List Nat
  | 0 => l
  | k + 1 => if gs k then apR (so k) (to k) (be k) (expF gs so be to l k) else expF gs so be to l k
theorem expF_no {gs : Nat → Bool} {so be : Nat → Nat} {to : Nat → Option Nat} {l : List Nat} {k : Nat} (h : gs k = false) : expF gs so be to l (k + 1) = expF gs so be to l k := by rw [expF, h]; rfl
theorem expF_yes {gs : Nat → Bool} {so be : Nat → Nat} {to : Nat → Option Nat} {l : List Nat} {k : Nat} (h : gs k = true) : expF gs so be to l (k + 1) = apR (so k) (to k) (be k) (expF gs so be to l k) := by rw [expF, h]; rfl
theorem expF_ok {gs : Nat → Bool} {so be : Nat → Nat} {to : Nat → Option Nat} {l : List Nat} {n : Nat} (hto : ∀ r, r < n → ∀ t, to r = some t → t < 8) (hl : snd l) (hn : l.length ≤ 8) : ∀ k, k ≤ n → snd (expF gs so be to l k) ∧ (expF gs so be to l k).length ≤ 8
  | 0, _ => ⟨hl, hn⟩
  | k + 1, hk => by
    have h := expF_ok (gs := gs) (so := so) (be := be) hto hl hn k (by omega)
    rw [expF]
    split
    · exact ⟨apR_snd (hto k (by omega)) h.1, Nat.le_trans (apR_len _ _ _ _) h.2⟩
    · exact h
theorem expF_ne {gs : Nat → Bool} {so be : Nat → Nat} {to : Nat → Option Nat} {l : List Nat} (h : l ≠ []) : ∀ k, expF gs so be to l k ≠ []
  | 0 => h
  | k + 1 => by
    rw [expF]
    split
    · exact apR_ne (expF_ne h k)
    · exact expF_ne h k
def roI : Option (List Nat) → Int32
  | none => -1
  | some l => nI (num l)
theorem roI_some {o : Option (List Nat)} (h : ¬ roI o = -1) : ∃ l, o = some l := by
  cases o with
  | none => exact absurd rfl h
  | some l => exact ⟨l, rfl⟩
theorem roI_none {o : Option (List Nat)} (hl : ∀ l, o = some l → snd l ∧ l.length ≤ 8) (h : roI o = -1) : o = none := by
  cases o with
  | none => rfl
  | some l =>
    have h2 := hl l rfl
    exact absurd h (nI_nm1 (by have := num_bd h2.1 h2.2; omega))
set_option maxHeartbeats 4000000 in
set_option maxRecDepth 100000 in
theorem c_countLike (l : Launch) (g : q_G) (ws : va_W) (a0 aI : Nat) (th : Int64) (n : Nat) (ia : Nat → Nat) (bt : Nat → Int64) (fi : Nat → Nat → Int32) (j : Nat) (hj : j < n) (hv : ivV g ws a0 aI th n ia bt fi) : MetW l g yX3_countLike cX3_countLike 5 (some .int) ({ frames := 3, cells := 0, slots := 0, locals := 64 } : Room) [.ref a0, .ref (ia j)] (ws) (q_Qi g (fun r w => r = nI (cntF (fun i => hasB th (bt i)) fi (fi 3 j) (fi 1 j) (fi 4 j) n) ∧ w = ws)) := by
  refine q_met (own := RX3) (by decide +kernel) rfl (Nat.le_of_ble_eq_true rfl) (fun p e s m args below meth c cx hr hnm => ?_)
  obtain ⟨⟨q0, r1, r2, r3, r4, r5, r6, dr, dl, h0⟩, hls, hn40, hob⟩ := hv
  obtain ⟨ql, mc, el, hl1, hl2, hl3⟩ := id hls
  obtain ⟨qj, hqj⟩ := hob j hj
  refine r_lv (lv2 := [(0, .ref a0), (1, .ref (ia j))]) (q_pk [0, 1] rfl) ?_
  refine r_iconst (v := nI 0) cx dX3_countLike_0 (by decide) ?_
  refine r_istore_n cx dX3_countLike_1 rfl (by decide) rfl ?_
  refine r_iconst (v := nI 0) cx dX3_countLike_2 (by decide) ?_
  refine r_istore_n cx dX3_countLike_3 rfl (by decide) rfl ?_
  refine at_loop (fun (x : Nat) => x ≤ n) (fun x => [(0, .ref a0), (1, .ref (ia j)), (2, .int (nI (cntF (fun i => hasB th (bt i)) fi (fi 3 j) (fi 1 j) (fi 4 j) x))), (3, .int (nI x))]) (fun x => ws) (fun x => n - x) 0 (Nat.zero_le n) (q_pk [2, 3, 1, 0] rfl) rfl (fun i hx ih => ?_)
  dsimp only at hx ⊢
  have hc := cntF_le (fun i => hasB th (bt i)) fi (fi 3 j) (fi 1 j) (fi 4 j) i
  refine r_iload_n cx dX3_countLike_4 rfl rfl ?_
  refine r_aload_n cx dX3_countLike_5 rfl rfl ?_
  refine gf_X3_10 cx dX3_countLike_6 q0 h0 rfl ?_
  refine k_X3_80 cx (c_lsize l g _ aI n ia hls) dX3_countLike_9 ql hl1 ⟨Nat.le_of_ble_eq_true rfl, Nat.le_of_ble_eq_true rfl⟩ ⟨Nat.le_of_ble_eq_true rfl, Nat.le_of_ble_eq_true rfl⟩ rfl rfl (Nat.le_of_ble_eq_true rfl) (fun r w hp => ?_)
  obtain ⟨rfl, rfl⟩ := hp
  refine r_icmpgeN (tgt := 74) cx (by omega) (by omega) dX3_countLike_12 (by decide) (fun h_12 => ?_) (fun h_12 => ?_)
  · skip
    obtain rfl : i = n := by omega
    refine r_iload_n cx dX3_countLike_74 rfl rfl ?_
    exact r_iret cx dX3_countLike_75 hr (⟨rfl, rfl⟩) (Nat.le_of_ble_eq_true rfl) (Nat.le_of_ble_eq_true rfl)
  · skip
    refine r_aload_n cx dX3_countLike_15 rfl rfl ?_
    refine gf_X3_10 cx dX3_countLike_16 q0 h0 rfl ?_
    refine r_iload_n cx dX3_countLike_19 rfl rfl ?_
    refine k_X3_108 cx (c_lget l g _ aI n i ia hls h_12) dX3_countLike_20 ql hl1 ⟨Nat.le_of_ble_eq_true rfl, Nat.le_of_ble_eq_true rfl⟩ ⟨Nat.le_of_ble_eq_true rfl, Nat.le_of_ble_eq_true rfl⟩ rfl rfl (Nat.le_of_ble_eq_true rfl) (fun r w hp => ?_)
    obtain ⟨rfl, rfl⟩ := hp
    obtain ⟨qi, hqi⟩ := hob i h_12
    refine r_eqv (y := .ref (ia i)) rfl ?_
    refine r_cast (ci := 1) cx tb_228 dX3_countLike_23 qi rfl rfl hqi ?_
    refine r_astore cx dX3_countLike_26 (by decide) rfl ?_
    refine r_aload_n cx dX3_countLike_28 rfl rfl ?_
    refine r_aload cx dX3_countLike_29 rfl ?_
    refine k_X3_139 cx (c_isThere l g _ q0 qi _ _ _ _ _ _ _ _ _ _ _ _ _ _ _ _ _ _ h0 hqi) dX3_countLike_31 q0 h0 ⟨Nat.le_of_ble_eq_true rfl, Nat.le_of_ble_eq_true rfl⟩ ⟨Nat.le_of_ble_eq_true rfl, Nat.le_of_ble_eq_true rfl⟩ rfl rfl (Nat.le_of_ble_eq_true rfl) (fun r w hp => ?_)
    obtain ⟨rfl, rfl⟩ := hp
    refine r_ifeqb (tgt := 68) cx dX3_countLike_34 (by decide) (fun h_34 => ?_) (fun h_34 => ?_)
    · skip
      refine r_iincN (j := 1) cx dX3_countLike_68 rfl rfl (by decide) rfl ?_
      refine r_goto (tgt := 4) cx dX3_countLike_71 (by decide) ?_
      have z := ih (i + 1) (by omega) (by omega)
      dsimp only at z
      rw [cntF_no (by simp [mtc, h_34])] at z
      exact r_lv (q_pk [2, 3, 4, 0] rfl) (z)
    · skip
      refine r_aload cx dX3_countLike_37 rfl ?_
      refine r_aload_n cx dX3_countLike_39 rfl rfl ?_
      refine gf_X3_168 cx dX3_countLike_40 qj hqj rfl ?_
      refine r_aload_n cx dX3_countLike_43 rfl rfl ?_
      refine gf_X3_174 cx dX3_countLike_44 qj hqj rfl ?_
      refine k_X3_214 cx (c_isFor l g _ qi _ _ _ _ _ _ _ (fi 3 j) (fi 1 j) hqi) dX3_countLike_47 qi hqi ⟨Nat.le_of_ble_eq_true rfl, Nat.le_of_ble_eq_true rfl⟩ ⟨Nat.le_of_ble_eq_true rfl, Nat.le_of_ble_eq_true rfl⟩ rfl rfl (Nat.le_of_ble_eq_true rfl) (fun r w hp => ?_)
      obtain ⟨rfl, rfl⟩ := hp
      refine r_ifeqb (tgt := 68) cx dX3_countLike_50 (by decide) (fun h_50 => ?_) (fun h_50 => ?_)
      · skip
        refine r_iincN (j := 1) cx dX3_countLike_68 rfl rfl (by decide) rfl ?_
        refine r_goto (tgt := 4) cx dX3_countLike_71 (by decide) ?_
        have z := ih (i + 1) (by omega) (by omega)
        dsimp only at z
        rw [cntF_no (by simp only [mtc, h_50, Bool.and_false, Bool.false_and])] at z
        exact r_lv (q_pk [2, 3, 4, 0] rfl) (z)
      · skip
        refine r_aload cx dX3_countLike_53 rfl ?_
        refine gf_X3_171 cx dX3_countLike_55 qi hqi rfl ?_
        refine r_aload_n cx dX3_countLike_58 rfl rfl ?_
        refine gf_X3_171 cx dX3_countLike_59 qj hqj rfl ?_
        refine r_icmpne (tgt := 68) cx dX3_countLike_62 (by decide) (fun h_62 => ?_) (fun h_62 => ?_)
        · skip
          refine r_iincN (j := 1) cx dX3_countLike_68 rfl rfl (by decide) rfl ?_
          refine r_goto (tgt := 4) cx dX3_countLike_71 (by decide) ?_
          have z := ih (i + 1) (by omega) (by omega)
          dsimp only at z
          rw [cntF_no (by simp [h_62])] at z
          exact r_lv (q_pk [2, 3, 4, 0] rfl) (z)
        · skip
          refine r_iincN (j := 1) cx dX3_countLike_65 rfl rfl (by decide) rfl ?_
          refine r_iincN (j := 1) cx dX3_countLike_68 rfl rfl (by decide) rfl ?_
          refine r_goto (tgt := 4) cx dX3_countLike_71 (by decide) ?_
          have z := ih (i + 1) (by omega) (by omega)
          dsimp only at z
          rw [cntF_yes (by simp only [mtc, h_34, h_50, h_62, decide_true, Bool.and_self])] at z
          exact r_lv (q_pk [3, 4, 1, 0] rfl) (z)
set_option maxHeartbeats 4000000 in
set_option maxRecDepth 100000 in
theorem c_most (l : Launch) (g : q_G) (ws : va_W) (a0 aI : Nat) (th : Int64) (n : Nat) (ia : Nat → Nat) (bt : Nat → Int64) (fi : Nat → Nat → Int32) (w0 p0 : Int32) (hv : ivV g ws a0 aI th n ia bt fi) : MetW l g yX3_mostToldForm cX3_mostToldForm 8 (some .int) ({ frames := 4, cells := 0, slots := 0, locals := 88 } : Room) [.ref a0, .int w0, .int p0] (ws) (q_Qi g (fun r w => r = mst (fun i => hasB th (bt i)) fi n w0 p0 ∧ w = ws)) := by
  refine q_met (own := RX3) (by decide +kernel) rfl (Nat.le_of_ble_eq_true rfl) (fun p e s m args below meth c cx hr hnm => ?_)
  obtain ⟨⟨q0, r1, r2, r3, r4, r5, r6, dr, dl, h0⟩, hls, hn40, hob⟩ := hv
  obtain ⟨ql, mc, el, hl1, hl2, hl3⟩ := id hls
  refine r_lv (lv2 := [(0, .ref a0), (1, .int w0), (2, .int p0)]) (q_pk [0, 1, 2] rfl) ?_
  refine r_iconst (v := -1) cx dX3_mostToldForm_0 (by decide) ?_
  refine r_istore_n cx dX3_mostToldForm_1 rfl (by decide) rfl ?_
  refine r_iconst (v := nI 0) cx dX3_mostToldForm_2 (by decide) ?_
  refine r_istore cx dX3_mostToldForm_3 (by decide) rfl ?_
  refine r_iconst (v := nI 0) cx dX3_mostToldForm_5 (by decide) ?_
  refine r_istore cx dX3_mostToldForm_6 (by decide) rfl ?_
  refine at_loop (fun (x : Nat) => x ≤ n) (fun x => [(0, .ref a0), (1, .int w0), (2, .int p0), (3, .int (mstF (fun i => hasB th (bt i)) fi n w0 p0 x).1), (4, .int (nI (mstF (fun i => hasB th (bt i)) fi n w0 p0 x).2)), (5, .int (nI x))]) (fun x => ws) (fun x => n - x) 0 (Nat.zero_le n) (q_pk [3, 4, 5, 2, 1, 0] rfl) rfl (fun i hx ih => ?_)
  dsimp only at hx ⊢
  have hc := mstF_le (fun i => hasB th (bt i)) fi n w0 p0 i
  refine r_iload cx dX3_mostToldForm_8 rfl ?_
  refine r_aload_n cx dX3_mostToldForm_10 rfl rfl ?_
  refine gf_X3_10 cx dX3_mostToldForm_11 q0 h0 rfl ?_
  refine k_X3_80 cx (c_lsize l g _ aI n ia hls) dX3_mostToldForm_14 ql hl1 ⟨Nat.le_of_ble_eq_true rfl, Nat.le_of_ble_eq_true rfl⟩ ⟨Nat.le_of_ble_eq_true rfl, Nat.le_of_ble_eq_true rfl⟩ rfl rfl (Nat.le_of_ble_eq_true rfl) (fun r w hp => ?_)
  obtain ⟨rfl, rfl⟩ := hp
  refine r_icmpgeN (tgt := 84) cx (by omega) (by omega) dX3_mostToldForm_17 (by decide) (fun h_17 => ?_) (fun h_17 => ?_)
  · skip
    obtain rfl : i = n := by omega
    refine r_iload_n cx dX3_mostToldForm_84 rfl rfl ?_
    exact r_iret cx dX3_mostToldForm_85 hr (⟨rfl, rfl⟩) (Nat.le_of_ble_eq_true rfl) (Nat.le_of_ble_eq_true rfl)
  · skip
    refine r_aload_n cx dX3_mostToldForm_20 rfl rfl ?_
    refine gf_X3_10 cx dX3_mostToldForm_21 q0 h0 rfl ?_
    refine r_iload cx dX3_mostToldForm_24 rfl ?_
    refine k_X3_108 cx (c_lget l g _ aI n i ia hls h_17) dX3_mostToldForm_26 ql hl1 ⟨Nat.le_of_ble_eq_true rfl, Nat.le_of_ble_eq_true rfl⟩ ⟨Nat.le_of_ble_eq_true rfl, Nat.le_of_ble_eq_true rfl⟩ rfl rfl (Nat.le_of_ble_eq_true rfl) (fun r w hp => ?_)
    obtain ⟨rfl, rfl⟩ := hp
    obtain ⟨qi, hqi⟩ := hob i h_17
    refine r_eqv (y := .ref (ia i)) rfl ?_
    refine r_cast (ci := 1) cx tb_228 dX3_mostToldForm_29 qi rfl rfl hqi ?_
    refine r_astore cx dX3_mostToldForm_32 (by decide) rfl ?_
    refine r_aload_n cx dX3_mostToldForm_34 rfl rfl ?_
    refine r_aload cx dX3_mostToldForm_35 rfl ?_
    refine k_X3_139 cx (c_isThere l g _ q0 qi _ _ _ _ _ _ _ _ _ _ _ _ _ _ _ _ _ _ h0 hqi) dX3_mostToldForm_37 q0 h0 ⟨Nat.le_of_ble_eq_true rfl, Nat.le_of_ble_eq_true rfl⟩ ⟨Nat.le_of_ble_eq_true rfl, Nat.le_of_ble_eq_true rfl⟩ rfl rfl (Nat.le_of_ble_eq_true rfl) (fun r w hp => ?_)
    obtain ⟨rfl, rfl⟩ := hp
    refine r_ifeqb (tgt := 78) cx dX3_mostToldForm_40 (by decide) (fun h_40 => ?_) (fun h_40 => ?_)
    · skip
      refine r_iincN (j := 1) cx dX3_mostToldForm_78 rfl rfl (by decide) rfl ?_
      refine r_goto (tgt := 8) cx dX3_mostToldForm_81 (by decide) ?_
      have z := ih (i + 1) (by omega) (by omega)
      dsimp only at z
      rw [mstF_no (by simp [mtc, h_40])] at z
      exact r_lv (q_pk [2, 3, 4, 5, 6, 0] rfl) (z)
    · skip
      refine r_aload cx dX3_mostToldForm_43 rfl ?_
      refine r_iload_n cx dX3_mostToldForm_45 rfl rfl ?_
      refine r_iload_n cx dX3_mostToldForm_46 rfl rfl ?_
      refine k_X3_214 cx (c_isFor l g _ qi _ _ _ _ _ _ _ w0 p0 hqi) dX3_mostToldForm_47 qi hqi ⟨Nat.le_of_ble_eq_true rfl, Nat.le_of_ble_eq_true rfl⟩ ⟨Nat.le_of_ble_eq_true rfl, Nat.le_of_ble_eq_true rfl⟩ rfl rfl (Nat.le_of_ble_eq_true rfl) (fun r w hp => ?_)
      obtain ⟨rfl, rfl⟩ := hp
      refine r_ifeqb (tgt := 78) cx dX3_mostToldForm_50 (by decide) (fun h_50 => ?_) (fun h_50 => ?_)
      · skip
        refine r_iincN (j := 1) cx dX3_mostToldForm_78 rfl rfl (by decide) rfl ?_
        refine r_goto (tgt := 8) cx dX3_mostToldForm_81 (by decide) ?_
        have z := ih (i + 1) (by omega) (by omega)
        dsimp only at z
        rw [mstF_no (by simp only [mtc, h_50, Bool.and_false, Bool.false_and])] at z
        exact r_lv (q_pk [2, 3, 4, 5, 6, 0] rfl) (z)
      · skip
        refine r_aload_n cx dX3_mostToldForm_53 rfl rfl ?_
        refine r_aload cx dX3_mostToldForm_54 rfl ?_
        refine k_X3_217 cx (c_countLike l g _ a0 aI th n ia bt fi i h_17 ⟨⟨q0, r1, r2, r3, r4, r5, r6, dr, dl, h0⟩, hls, hn40, hob⟩) dX3_mostToldForm_56 q0 h0 ⟨Nat.le_of_ble_eq_true rfl, Nat.le_of_ble_eq_true rfl⟩ ⟨Nat.le_of_ble_eq_true rfl, Nat.le_of_ble_eq_true rfl⟩ rfl rfl (Nat.le_of_ble_eq_true rfl) (fun r w hp => ?_)
        obtain ⟨rfl, rfl⟩ := hp
        have hwp : fi 3 i = w0 ∧ fi 1 i = p0 := by simpa using h_50
        rw [hwp.1, hwp.2]
        have hc2 := cntF_le (fun i => hasB th (bt i)) fi w0 p0 (fi 4 i) n
        refine r_istore cx dX3_mostToldForm_59 (by decide) rfl ?_
        refine r_iload cx dX3_mostToldForm_61 rfl ?_
        refine r_iload cx dX3_mostToldForm_63 rfl ?_
        refine r_icmpleN (tgt := 78) cx (by omega) (by omega) dX3_mostToldForm_65 (by decide) (fun h_65 => ?_) (fun h_65 => ?_)
        · skip
          refine r_iincN (j := 1) cx dX3_mostToldForm_78 rfl rfl (by decide) rfl ?_
          refine r_goto (tgt := 8) cx dX3_mostToldForm_81 (by decide) ?_
          have z := ih (i + 1) (by omega) (by omega)
          dsimp only at z
          rw [mstF_no (by rw [decide_eq_false (by omega), Bool.and_false])] at z
          exact r_lv (q_pk [3, 4, 5, 6, 7, 0] rfl) (z)
        · skip
          refine r_iload cx dX3_mostToldForm_68 rfl ?_
          refine r_istore cx dX3_mostToldForm_70 (by decide) rfl ?_
          refine r_aload cx dX3_mostToldForm_72 rfl ?_
          refine gf_X3_171 cx dX3_mostToldForm_74 qi hqi rfl ?_
          refine r_istore_n cx dX3_mostToldForm_77 rfl (by decide) rfl ?_
          refine r_iincN (j := 1) cx dX3_mostToldForm_78 rfl rfl (by decide) rfl ?_
          refine r_goto (tgt := 8) cx dX3_mostToldForm_81 (by decide) ?_
          have z := ih (i + 1) (by omega) (by omega)
          dsimp only at z
          rw [mstF_yes (by rw [decide_eq_true h_65]; simp only [mtc, h_40, h_50, Bool.and_self])] at z
          exact r_lv (q_pk [5, 6, 7, 1, 2, 0] rfl) (z)
set_option maxHeartbeats 4000000 in
set_option maxRecDepth 100000 in
theorem c_drawLines (l : Launch) (g : q_G) (ws : va_W) (a0 aI : Nat) (th : Int64) (n : Nat) (ia : Nat → Nat) (bt : Nat → Int64) (fi : Nat → Nat → Int32) (w0 : Int32) (hv : ivV g ws a0 aI th n ia bt fi) : MetW l g yX3_drawLines cX3_drawLines 6 (some .int) ({ frames := 5, cells := 0, slots := 0, locals := 115 } : Room) [.ref a0, .int w0] (ws) (q_Qi g (fun r w => r = drw (fun i => hasB th (bt i)) fi n w0 ∧ w = ws)) := by
  refine q_met (own := RX3) (by decide +kernel) rfl (Nat.le_of_ble_eq_true rfl) (fun p e s m args below meth c cx hr hnm => ?_)
  obtain ⟨⟨q0, r1, r2, r3, r4, r5, r6, dr, dl, h0⟩, hls, hn40, hob⟩ := hv
  obtain ⟨ql, mc, el, hl1, hl2, hl3⟩ := id hls
  refine r_lv (lv2 := [(0, .ref a0), (1, .int w0)]) (q_pk [0, 1] rfl) ?_
  refine r_iconst (v := 0) cx dX3_drawLines_0 (by decide) ?_
  refine r_istore_n cx dX3_drawLines_1 rfl (by decide) rfl ?_
  refine r_aload_n cx dX3_drawLines_2 rfl rfl ?_
  refine r_iload_n cx dX3_drawLines_3 rfl rfl ?_
  refine r_iconst (v := nI 0) cx dX3_drawLines_4 (by decide) ?_
  refine k_X3_184 cx (c_most l g _ a0 aI th n ia bt fi w0 (nI 0) ⟨⟨q0, r1, r2, r3, r4, r5, r6, dr, dl, h0⟩, hls, hn40, hob⟩) dX3_drawLines_5 q0 h0 ⟨Nat.le_of_ble_eq_true rfl, Nat.le_of_ble_eq_true rfl⟩ ⟨Nat.le_of_ble_eq_true rfl, Nat.le_of_ble_eq_true rfl⟩ rfl rfl (Nat.le_of_ble_eq_true rfl) (fun r w hp => ?_)
  obtain ⟨rfl, rfl⟩ := hp
  refine r_istore_n cx dX3_drawLines_8 rfl (by decide) rfl ?_
  refine r_iconst (v := nI 0) cx dX3_drawLines_9 (by decide) ?_
  refine r_istore cx dX3_drawLines_10 (by decide) rfl ?_
  refine at_loop (fun (x : Nat) => x ≤ 9) (fun x => [(0, .ref a0), (1, .int w0), (2, .int (drwF (fun k => mst (fun i => hasB th (bt i)) fi n w0 (nI k)) x)), (3, .int ((fun k => mst (fun i => hasB th (bt i)) fi n w0 (nI k)) x)), (4, .int (nI x))]) (fun x => w) (fun x => 9 - x) 0 (Nat.zero_le 9) (q_pk [3, 4, 2, 1, 0] rfl) rfl (fun i hx ih => ?_)
  dsimp only at hx ⊢
  refine r_iload cx dX3_drawLines_12 rfl ?_
  refine r_iconst (v := nI 1) cx dX3_drawLines_14 (by decide) ?_
  first | refine r_iaddN cx dX3_drawLines_15 ?_ | refine r_iadd cx dX3_drawLines_15 ?_
  refine r_bipush (v := nI 10) cx dX3_drawLines_16 (by decide) ?_
  refine r_icmpgeN (tgt := 65) cx (by omega) (by omega) dX3_drawLines_18 (by decide) (fun h_18 => ?_) (fun h_18 => ?_)
  · skip
    obtain rfl : i = 9 := by omega
    refine r_iload_n cx dX3_drawLines_65 rfl rfl ?_
    exact r_iret cx dX3_drawLines_66 hr (⟨rfl, rfl⟩) (Nat.le_of_ble_eq_true rfl) (Nat.le_of_ble_eq_true rfl)
  · skip
    refine r_aload_n cx dX3_drawLines_21 rfl rfl ?_
    refine r_iload_n cx dX3_drawLines_22 rfl rfl ?_
    refine r_iload cx dX3_drawLines_23 rfl ?_
    refine r_iconst (v := nI 1) cx dX3_drawLines_25 (by decide) ?_
    first | refine r_iaddN cx dX3_drawLines_26 ?_ | refine r_iadd cx dX3_drawLines_26 ?_
    refine k_X3_184 cx (c_most l g _ a0 aI th n ia bt fi w0 (nI (i + 1)) ⟨⟨q0, r1, r2, r3, r4, r5, r6, dr, dl, h0⟩, hls, hn40, hob⟩) dX3_drawLines_27 q0 h0 ⟨Nat.le_of_ble_eq_true rfl, Nat.le_of_ble_eq_true rfl⟩ ⟨Nat.le_of_ble_eq_true rfl, Nat.le_of_ble_eq_true rfl⟩ rfl rfl (Nat.le_of_ble_eq_true rfl) (fun r w hp => ?_)
    obtain ⟨rfl, rfl⟩ := hp
    refine r_istore cx dX3_drawLines_30 (by decide) rfl ?_
    refine r_iload_n cx dX3_drawLines_32 rfl rfl ?_
    refine r_iconst (v := -1) cx dX3_drawLines_33 (by decide) ?_
    refine r_icmpeq (tgt := 56) cx dX3_drawLines_34 (by decide) (fun h_34 => ?_) (fun h_34 => ?_)
    · skip
      refine r_iload cx dX3_drawLines_56 rfl ?_
      refine r_istore_n cx dX3_drawLines_58 rfl (by decide) rfl ?_
      refine r_iincN (j := 1) cx dX3_drawLines_59 rfl rfl (by decide) rfl ?_
      refine r_goto (tgt := 12) cx dX3_drawLines_62 (by decide) ?_
      have z := ih (i + 1) (by omega) (by omega)
      dsimp only at z
      rw [drwF_no (ms := (fun k => mst (fun i => hasB th (bt i)) fi n w0 (nI k))) (by simp [lnc, h_34])] at z
      exact r_lv (q_pk [3, 4, 5, 1, 0] rfl) (z)
    · skip
      refine r_iload cx dX3_drawLines_37 rfl ?_
      refine r_iconst (v := -1) cx dX3_drawLines_39 (by decide) ?_
      refine r_icmpeq (tgt := 56) cx dX3_drawLines_40 (by decide) (fun h_40 => ?_) (fun h_40 => ?_)
      · skip
        refine r_iload cx dX3_drawLines_56 rfl ?_
        refine r_istore_n cx dX3_drawLines_58 rfl (by decide) rfl ?_
        refine r_iincN (j := 1) cx dX3_drawLines_59 rfl rfl (by decide) rfl ?_
        refine r_goto (tgt := 12) cx dX3_drawLines_62 (by decide) ?_
        have z := ih (i + 1) (by omega) (by omega)
        dsimp only at z
        rw [drwF_no (ms := (fun k => mst (fun i => hasB th (bt i)) fi n w0 (nI k))) (by simp [lnc, h_40])] at z
        exact r_lv (q_pk [3, 4, 5, 1, 0] rfl) (z)
      · skip
        refine r_iload_n cx dX3_drawLines_43 rfl rfl ?_
        refine r_iload cx dX3_drawLines_44 rfl ?_
        refine r_icmpeq (tgt := 56) cx dX3_drawLines_46 (by decide) (fun h_46 => ?_) (fun h_46 => ?_)
        · skip
          refine r_iload cx dX3_drawLines_56 rfl ?_
          refine r_istore_n cx dX3_drawLines_58 rfl (by decide) rfl ?_
          refine r_iincN (j := 1) cx dX3_drawLines_59 rfl rfl (by decide) rfl ?_
          refine r_goto (tgt := 12) cx dX3_drawLines_62 (by decide) ?_
          have z := ih (i + 1) (by omega) (by omega)
          dsimp only at z
          rw [drwF_no (ms := (fun k => mst (fun i => hasB th (bt i)) fi n w0 (nI k))) (by simp [lnc, h_46])] at z
          exact r_lv (q_pk [3, 4, 5, 1, 0] rfl) (z)
        · skip
          refine r_iload_n cx dX3_drawLines_49 rfl rfl ?_
          refine r_iconst (v := nI 1) cx dX3_drawLines_50 (by decide) ?_
          refine r_iload cx dX3_drawLines_51 rfl ?_
          refine r_ishl cx dX3_drawLines_53 ?_
          refine r_ior cx dX3_drawLines_54 ?_
          refine r_istore_n cx dX3_drawLines_55 rfl (by decide) rfl ?_
          refine r_iload cx dX3_drawLines_56 rfl ?_
          refine r_istore_n cx dX3_drawLines_58 rfl (by decide) rfl ?_
          refine r_iincN (j := 1) cx dX3_drawLines_59 rfl rfl (by decide) rfl ?_
          refine r_goto (tgt := 12) cx dX3_drawLines_62 (by decide) ?_
          have z := ih (i + 1) (by omega) (by omega)
          dsimp only at z
          rw [drwF_yes (ms := (fun k => mst (fun i => hasB th (bt i)) fi n w0 (nI k))) (by simp [lnc, h_34, h_40, h_46])] at z
          exact r_lv (q_pk [4, 5, 2, 1, 0] rfl) (z)
set_option maxHeartbeats 4000000 in
set_option maxRecDepth 100000 in
theorem c_interviewsOf (l : Launch) (g : q_G) (ws : va_W) (a0 aI : Nat) (th : Int64) (n : Nat) (ia : Nat → Nat) (bt : Nat → Int64) (fi : Nat → Nat → Int32) (who : Int32) (hv : ivV g ws a0 aI th n ia bt fi) : MetW l g yX3_interviewsOf cX3_interviewsOf 6 (some .long) ({ frames := 3, cells := 0, slots := 0, locals := 64 } : Room) [.ref a0, .int who] (ws) (q_Ql g (fun r w => r = ivoF th bt fi who n ∧ w = ws)) := by
  refine q_met (own := RX3) (by decide +kernel) rfl (Nat.le_of_ble_eq_true rfl) (fun p e s m args below meth c cx hr hnm => ?_)
  obtain ⟨⟨q0, r1, r2, r3, r4, r5, r6, dr, dl, h0⟩, hls, hn40, hob⟩ := hv
  obtain ⟨ql, mc, el, hl1, hl2, hl3⟩ := id hls
  refine r_lv (lv2 := [(0, .ref a0), (1, .int who)]) (q_pk [0, 1] rfl) ?_
  refine r_lconst (v := 0) cx dX3_interviewsOf_0 rfl ?_
  refine r_lstore_n cx dX3_interviewsOf_1 rfl (by decide) rfl ?_
  refine r_iconst (v := nI 0) cx dX3_interviewsOf_2 (by decide) ?_
  refine r_istore cx dX3_interviewsOf_3 (by decide) rfl ?_
  refine at_loop (fun (x : Nat) => x ≤ n) (fun x => [(0, .ref a0), (1, .int who), (2, .long (ivoF th bt fi who x)), (4, .int (nI x))]) (fun x => ws) (fun x => n - x) 0 (Nat.zero_le n) (q_pk [2, 3, 1, 0] rfl) rfl (fun i hx ih => ?_)
  dsimp only at hx ⊢
  refine r_iload cx dX3_interviewsOf_5 rfl ?_
  refine r_aload_n cx dX3_interviewsOf_7 rfl rfl ?_
  refine gf_X3_10 cx dX3_interviewsOf_8 q0 h0 rfl ?_
  refine k_X3_80 cx (c_lsize l g _ aI n ia hls) dX3_interviewsOf_11 ql hl1 ⟨Nat.le_of_ble_eq_true rfl, Nat.le_of_ble_eq_true rfl⟩ ⟨Nat.le_of_ble_eq_true rfl, Nat.le_of_ble_eq_true rfl⟩ rfl rfl (Nat.le_of_ble_eq_true rfl) (fun r w hp => ?_)
  obtain ⟨rfl, rfl⟩ := hp
  refine r_icmpgeN (tgt := 63) cx (by omega) (by omega) dX3_interviewsOf_14 (by decide) (fun h_14 => ?_) (fun h_14 => ?_)
  · skip
    obtain rfl : i = n := by omega
    refine r_lload_n cx dX3_interviewsOf_63 rfl rfl ?_
    exact r_lret cx dX3_interviewsOf_64 hr (⟨rfl, rfl⟩) (Nat.le_of_ble_eq_true rfl) (Nat.le_of_ble_eq_true rfl)
  · skip
    refine r_aload_n cx dX3_interviewsOf_17 rfl rfl ?_
    refine gf_X3_10 cx dX3_interviewsOf_18 q0 h0 rfl ?_
    refine r_iload cx dX3_interviewsOf_21 rfl ?_
    refine k_X3_108 cx (c_lget l g _ aI n i ia hls h_14) dX3_interviewsOf_23 ql hl1 ⟨Nat.le_of_ble_eq_true rfl, Nat.le_of_ble_eq_true rfl⟩ ⟨Nat.le_of_ble_eq_true rfl, Nat.le_of_ble_eq_true rfl⟩ rfl rfl (Nat.le_of_ble_eq_true rfl) (fun r w hp => ?_)
    obtain ⟨rfl, rfl⟩ := hp
    obtain ⟨qi, hqi⟩ := hob i h_14
    refine r_eqv (y := .ref (ia i)) rfl ?_
    refine r_cast (ci := 1) cx tb_228 dX3_interviewsOf_26 qi rfl rfl hqi ?_
    refine r_astore cx dX3_interviewsOf_29 (by decide) rfl ?_
    refine r_aload_n cx dX3_interviewsOf_31 rfl rfl ?_
    refine r_aload cx dX3_interviewsOf_32 rfl ?_
    refine k_X3_139 cx (c_isThere l g _ q0 qi _ _ _ _ _ _ _ _ _ _ _ _ _ _ _ _ _ _ h0 hqi) dX3_interviewsOf_34 q0 h0 ⟨Nat.le_of_ble_eq_true rfl, Nat.le_of_ble_eq_true rfl⟩ ⟨Nat.le_of_ble_eq_true rfl, Nat.le_of_ble_eq_true rfl⟩ rfl rfl (Nat.le_of_ble_eq_true rfl) (fun r w hp => ?_)
    obtain ⟨rfl, rfl⟩ := hp
    refine r_ifeqb (tgt := 57) cx dX3_interviewsOf_37 (by decide) (fun h_37 => ?_) (fun h_37 => ?_)
    · skip
      refine r_iincN (j := 1) cx dX3_interviewsOf_57 rfl rfl (by decide) rfl ?_
      refine r_goto (tgt := 5) cx dX3_interviewsOf_60 (by decide) ?_
      have z := ih (i + 1) (by omega) (by omega)
      dsimp only at z
      rw [ivoF_no (by simp [h_37])] at z
      exact r_lv (q_pk [2, 3, 4, 0] rfl) (z)
    · skip
      refine r_aload cx dX3_interviewsOf_40 rfl ?_
      refine gf_X3_205 cx dX3_interviewsOf_42 qi hqi rfl ?_
      refine r_iload_n cx dX3_interviewsOf_45 rfl rfl ?_
      refine r_icmpne (tgt := 57) cx dX3_interviewsOf_46 (by decide) (fun h_46 => ?_) (fun h_46 => ?_)
      · skip
        refine r_iincN (j := 1) cx dX3_interviewsOf_57 rfl rfl (by decide) rfl ?_
        refine r_goto (tgt := 5) cx dX3_interviewsOf_60 (by decide) ?_
        have z := ih (i + 1) (by omega) (by omega)
        dsimp only at z
        rw [ivoF_no (by simp [h_46])] at z
        exact r_lv (q_pk [2, 3, 4, 0] rfl) (z)
      · skip
        refine r_lload_n cx dX3_interviewsOf_49 rfl rfl ?_
        refine r_aload cx dX3_interviewsOf_50 rfl ?_
        refine gf_X3_151 cx dX3_interviewsOf_52 qi hqi rfl ?_
        refine r_lor cx dX3_interviewsOf_55 ?_
        refine r_lstore_n cx dX3_interviewsOf_56 rfl (by decide) rfl ?_
        refine r_iincN (j := 1) cx dX3_interviewsOf_57 rfl rfl (by decide) rfl ?_
        refine r_goto (tgt := 5) cx dX3_interviewsOf_60 (by decide) ?_
        have z := ih (i + 1) (by omega) (by omega)
        dsimp only at z
        rw [ivoF_yes (by simp [h_37, h_46])] at z
        exact r_lv (q_pk [3, 4, 1, 0] rfl) (z)
set_option maxHeartbeats 4000000 in
set_option maxRecDepth 100000 in
theorem c_applyRules (l : Launch) (g : q_G) (ws : va_W) (a0 aR rn : Nat) (ra so be : Nat → Nat) (to : Nat → Option Nat) (rl : Nat → Nat → Int32) (gr : Nat → Int64) (fa : Nat → Bool) (o : Option (List Nat)) (p0 y0 : Int32) (ho : ∀ l, o = some l → snd l ∧ l.length ≤ 8) (hv : rlV g ws a0 aR rn ra so be to rl gr fa) : MetW l g yX3_applyRules cX3_applyRules 7 (some .int) ({ frames := 3, cells := 0, slots := 0, locals := 64 } : Room) [.ref a0, .int (roI o), .int p0, .int y0] (ws) (q_Qi g (fun r w => r = roI (o.map (fun l => expF (goF rl fa p0 y0) so be to l rn)) ∧ w = ws)) := by
  refine q_met (own := RX3) (by decide +kernel) rfl (Nat.le_of_ble_eq_true rfl) (fun p e s m args below meth c cx hr hnm => ?_)
  obtain ⟨⟨q0, r0, r2, r3, r4, r5, r6, th, dr, dl, h0⟩, hls, hn20, hpr, hob⟩ := hv
  obtain ⟨ql, mc, el, hl1, hl2, hl3⟩ := id hls
  refine r_lv (lv2 := [(0, .ref a0), (1, .int (roI o)), (2, .int p0), (3, .int y0)]) (q_pk [0, 1, 2, 3] rfl) ?_
  refine r_iload_n cx dX3_applyRules_0 rfl rfl ?_
  refine r_iconst (v := -1) cx dX3_applyRules_1 (by decide) ?_
  refine r_icmpne (tgt := 7) cx dX3_applyRules_2 (by decide) (fun h_2 => ?_) (fun h_2 => ?_)
  · skip
    obtain ⟨l0, rfl⟩ := roI_some h_2
    obtain ⟨hl0, hn0⟩ := ho l0 rfl
    refine r_iload_n cx dX3_applyRules_7 rfl rfl ?_
    refine r_istore cx dX3_applyRules_8 (by decide) rfl ?_
    refine r_iconst (v := nI 0) cx dX3_applyRules_10 (by decide) ?_
    refine r_istore cx dX3_applyRules_11 (by decide) rfl ?_
    refine at_loop (fun (x : Nat) => x ≤ rn) (fun x => [(0, .ref a0), (2, .int p0), (3, .int y0), (4, .int (nI (num (expF (goF rl fa p0 y0) so be to l0 x)))), (5, .int (nI x))]) (fun x => ws) (fun x => rn - x) 0 (Nat.zero_le rn) (q_pk [2, 4, 5, 1, 0] rfl) rfl (fun i hx ih => ?_)
    dsimp only at hx ⊢
    have hok := expF_ok (gs := goF rl fa p0 y0) (so := so) (be := be) (n := rn) (fun r hr9 => (hpr r hr9).2.2) hl0 hn0 i hx
    refine r_iload cx dX3_applyRules_13 rfl ?_
    refine r_aload_n cx dX3_applyRules_15 rfl rfl ?_
    refine gf_X3_16 cx dX3_applyRules_16 q0 h0 rfl ?_
    refine k_X3_80 cx (c_lsize l g _ aR rn ra hls) dX3_applyRules_19 ql hl1 ⟨Nat.le_of_ble_eq_true rfl, Nat.le_of_ble_eq_true rfl⟩ ⟨Nat.le_of_ble_eq_true rfl, Nat.le_of_ble_eq_true rfl⟩ rfl rfl (Nat.le_of_ble_eq_true rfl) (fun r w hp => ?_)
    obtain ⟨rfl, rfl⟩ := hp
    refine r_icmpgeN (tgt := 64) cx (by omega) (by omega) dX3_applyRules_22 (by decide) (fun h_22 => ?_) (fun h_22 => ?_)
    · skip
      obtain rfl : i = rn := by omega
      refine r_iload cx dX3_applyRules_64 rfl ?_
      exact r_iret cx dX3_applyRules_66 hr (⟨rfl, rfl⟩) (Nat.le_of_ble_eq_true rfl) (Nat.le_of_ble_eq_true rfl)
    · skip
      refine r_aload_n cx dX3_applyRules_25 rfl rfl ?_
      refine gf_X3_16 cx dX3_applyRules_26 q0 h0 rfl ?_
      refine r_iload cx dX3_applyRules_29 rfl ?_
      refine k_X3_108 cx (c_lget l g _ aR rn i ra hls h_22) dX3_applyRules_31 ql hl1 ⟨Nat.le_of_ble_eq_true rfl, Nat.le_of_ble_eq_true rfl⟩ ⟨Nat.le_of_ble_eq_true rfl, Nat.le_of_ble_eq_true rfl⟩ rfl rfl (Nat.le_of_ble_eq_true rfl) (fun r w hp => ?_)
      obtain ⟨rfl, rfl⟩ := hp
      obtain ⟨qi, hqi⟩ := hob i h_22
      refine r_eqv (y := .ref (ra i)) rfl ?_
      refine r_cast (ci := 2) cx tb_389 dX3_applyRules_34 qi rfl rfl hqi ?_
      refine r_astore cx dX3_applyRules_37 (by decide) rfl ?_
      refine r_aload cx dX3_applyRules_39 rfl ?_
      refine r_iload_n cx dX3_applyRules_41 rfl rfl ?_
      refine r_iload_n cx dX3_applyRules_42 rfl rfl ?_
      refine k_X3_208 cx (c_goesAt l g _ qi _ _ _ _ _ _ _ _ _ p0 y0 hqi) dX3_applyRules_43 qi hqi ⟨Nat.le_of_ble_eq_true rfl, Nat.le_of_ble_eq_true rfl⟩ ⟨Nat.le_of_ble_eq_true rfl, Nat.le_of_ble_eq_true rfl⟩ rfl rfl (Nat.le_of_ble_eq_true rfl) (fun r w hp => ?_)
      obtain ⟨rfl, rfl⟩ := hp
      refine r_ifeqb (tgt := 58) cx dX3_applyRules_46 (by decide) (fun h_46 => ?_) (fun h_46 => ?_)
      · skip
        refine r_iincN (j := 1) cx dX3_applyRules_58 rfl rfl (by decide) rfl ?_
        refine r_goto (tgt := 13) cx dX3_applyRules_61 (by decide) ?_
        have z := ih (i + 1) (by omega) (by omega)
        dsimp only at z
        rw [expF_no (gs := goF rl fa p0 y0) h_46] at z
        exact r_lv (q_pk [2, 3, 4, 5, 0] rfl) (z)
      · skip
        refine r_aload cx dX3_applyRules_49 rfl ?_
        refine r_iload cx dX3_applyRules_51 rfl ?_
        refine k_X3_211 cx (c_applyTo l g _ qi _ (so i) (be i) (to i) _ _ _ _ _ _ (hpr i h_22).1 (hpr i h_22).2.1 (hpr i h_22).2.2 hok.1 hok.2 hqi) dX3_applyRules_53 qi hqi ⟨Nat.le_of_ble_eq_true rfl, Nat.le_of_ble_eq_true rfl⟩ ⟨Nat.le_of_ble_eq_true rfl, Nat.le_of_ble_eq_true rfl⟩ rfl rfl (Nat.le_of_ble_eq_true rfl) (fun r w hp => ?_)
        obtain ⟨rfl, rfl⟩ := hp
        refine r_istore cx dX3_applyRules_56 (by decide) rfl ?_
        refine r_iincN (j := 1) cx dX3_applyRules_58 rfl rfl (by decide) rfl ?_
        refine r_goto (tgt := 13) cx dX3_applyRules_61 (by decide) ?_
        have z := ih (i + 1) (by omega) (by omega)
        dsimp only at z
        rw [expF_yes (gs := goF rl fa p0 y0) h_46] at z
        exact r_lv (q_pk [3, 4, 5, 1, 0] rfl) (z)
  · skip
    obtain rfl := roI_none ho h_2
    refine r_iconst (v := -1) cx dX3_applyRules_5 (by decide) ?_
    exact r_iret cx dX3_applyRules_6 hr (⟨rfl, rfl⟩) (Nat.le_of_ble_eq_true rfl) (Nat.le_of_ble_eq_true rfl)
end
